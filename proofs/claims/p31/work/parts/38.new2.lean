def wsPi (i : Nat) : Nat := [0, 3, 6, 1, 2, 4, 5].getD i i
theorem wsPi_lt : ∀ i, i < 27 → wsPi i < 27 := by decide
theorem wsPi_inj : ∀ i, i < 27 → ∀ j, j < 27 → wsPi i = wsPi j → i = j := by decide
/-- the workshop's addresses, out of a list in the order of their making -/
def wsB (T : List Nat) (b : Nat) : Nat → Nat := fun i => T.getD (b + wsPi i) 0
theorem getD_el {T : List Nat} {i : Nat} (h : i < T.length) : T.getD i 0 = T[i] := by
  rw [List.getD, List.getElem?_eq_getElem h]; rfl
theorem getD_nd {T : List Nat} (h : T.Nodup) {i j : Nat} (hi : i < T.length) (hj : j < T.length) (e : T.getD i 0 = T.getD j 0) : i = j := by
  rw [getD_el hi, getD_el hj] at e
  exact (List.getElem_inj h).mp e
theorem getD_in {T : List Nat} {i : Nat} (hi : i < T.length) : T.getD i 0 ∈ T := by
  rw [getD_el hi]
  exact List.getElem_mem hi
theorem wsB_in {T : List Nat} {b : Nat} (h : b + 27 ≤ T.length) (i : Nat) (hi : i < 27) : wsB T b i ∈ T := getD_in (by have := wsPi_lt i hi; omega)
theorem wsB_inj {T : List Nat} {b : Nat} (hT : T.Nodup) (h : b + 27 ≤ T.length) (i j : Nat) (hi : i < 27) (hj : j < 27) (e : wsB T b i = wsB T b j) : i = j := by
  have h1 := wsPi_lt i hi
  have h2 := wsPi_lt j hj
  have := getD_nd hT (i := b + wsPi i) (j := b + wsPi j) (by omega) (by omega) e
  exact wsPi_inj i hi j hj (by omega)
theorem nod_cons {A : Nat → Prop} {L N : List Nat} {h : Nat} (hD : gD A (L ++ N)) (hh : h ∈ L) : (h :: N).Nodup := List.nodup_cons.mpr ⟨fun z => gD_ne hD hh z rfl, (List.nodup_append.mp hD.1).2.1⟩
theorem isWS_mv {k : gK} {L L2 : List Nat} {f f2 : Nat → va_E} {a : Nat → Nat} {w : WS} (h : isWS k L f a w) (hL : ∀ x ∈ L, x ∈ L2) (hf : ∀ i, i < 27 → f2 (a i) = f (a i)) : isWS k L2 f2 a w := by
  obtain ⟨h1, h2, h3, h4, h5, h6⟩ := h
  refine ⟨fun i hi => hL _ (h1 i hi), h2, ?_, ?_, ?_, fun r hr => ⟨?_, ?_⟩⟩
  · rw [hf 0 (by omega)]; exact h3
  · rw [hf 1 (by omega)]; exact h4
  · rw [hf 2 (by omega)]; exact h5
  · rw [hf (3 + 2 * r) (by omega)]; exact (h6 r hr).1
  · rw [hf (4 + 2 * r) (by omega)]; exact (h6 r hr).2
theorem isWS_a {k : gK} {L : List Nat} {f : Nat → va_E} {a b : Nat → Nat} {w : WS} (h : isWS k L f a w) (e : ∀ i, i < 27 → b i = a i) : isWS k L f b w := by
  obtain ⟨h1, h2, h3, h4, h5, h6⟩ := h
  refine ⟨fun i hi => by rw [e i hi]; exact h1 i hi, fun i j hi hj z => h2 i j hi hj (by rw [← e i hi, ← e j hj]; exact z), ?_, ?_, ?_, fun r hr => ⟨?_, ?_⟩⟩
  · rw [e 0 (by omega), h3]
    simp only [wO0, e 3 (by omega), e 1 (by omega), e 2 (by omega), e 23 (by omega), e 25 (by omega)]
  · rw [e 1 (by omega), h4]
    simp only [wO1, e 5 (by omega)]
  · rw [e 2 (by omega), h5]
    simp only [wO2, e 7 (by omega), e 9 (by omega), e 11 (by omega), e 13 (by omega), e 15 (by omega), e 17 (by omega), e 19 (by omega), e 21 (by omega)]
  · rw [e (3 + 2 * r) (by omega), e (4 + 2 * r) (by omega)]; exact (h6 r hr).1
  · rw [e (4 + 2 * r) (by omega)]; exact (h6 r hr).2
def wIni : WS := (fun r => if r = 0 then (rPut 4 (rPut 4 (rPut 4 (rPut 4 (fun _ => 0) 0 2) 1 8) 2 120) 3 3) else if r = 10 then (rPut 4 (rPut 4 (rPut 4 (rPut 4 (fun _ => 0) 0 20) 1 20) 2 20) 3 20) else fun _ => 0, fun i => if i = 4 then 1 else 0)
theorem kdN_X5_init : yX5_init.cls ≠ "java/lang/invoke/MethodHandle" ∧ yX5_init.cls ≠ "java/lang/invoke/VarHandle" ∧ (parseMethodDescriptor yX5_init.desc).map (fun d => d.parameters.length) = some 0 := by decide +kernel
theorem wd_X5_init_oi : Cond.methodLink RX5 3 objectInit ∈ wsX5_init := by decide +kernel
theorem wd_X5_init_oj : Cond.instanceMethod objectInit ∈ wsX5_init := by decide +kernel
theorem wd_X5_init_ok : Cond.code objectInit ⟨#[0xb1]⟩ 1 none ∈ wsX5_init := by decide +kernel
theorem wd_X5_init_cl9 : Cond.classLink RX5 9 RX4 ∈ wsX5_init := by decide +kernel
theorem wd_X5_init_inRX4 : Cond.instantiable RX4 1 ∈ wsX5_init := by decide +kernel
theorem wd_X5_init_iiRX4 : Cond.initialized RX4 ∈ wsX5_init := by decide +kernel
theorem in_X5_init_4 : ∀ w ∈ u_ws RX4 TX4 1, w ∈ wsX5_init := by decide +kernel
theorem wd_X5_init_ml11 : Cond.methodLink RX5 11 yX4_init ∈ wsX5_init := by decide +kernel
theorem wd_X5_init_im_X4_init : Cond.instanceMethod yX4_init ∈ wsX5_init := by decide +kernel
theorem wd_X5_init_iniRX4 : Cond.initialized RX4 ∈ wsX5_init := by decide +kernel
theorem in_X5_init_5 : ∀ w ∈ u_ws RX5 TX5 8, w ∈ wsX5_init := by decide +kernel
theorem fl_X5_init_14 : Cond.fieldLink RX5 14 (TX5 0).1 (TX5 0).2.1 (TX5 0).2.2.1 ∈ wsX5_init := by decide +kernel
theorem wd_X5_init_cl20 : Cond.classLink RX5 20 RX0 ∈ wsX5_init := by decide +kernel
theorem wd_X5_init_inRX0 : Cond.instantiable RX0 3 ∈ wsX5_init := by decide +kernel
theorem wd_X5_init_iiRX0 : Cond.initialized RX0 ∈ wsX5_init := by decide +kernel
theorem in_X5_init_0 : ∀ w ∈ u_ws RX0 TX0 3, w ∈ wsX5_init := by decide +kernel
theorem wd_X5_init_im_X0_init : Cond.instanceMethod yX0_init ∈ wsX5_init := by decide +kernel
theorem wd_X5_init_iniRX0 : Cond.initialized RX0 ∈ wsX5_init := by decide +kernel
theorem fl_X5_init_23 : Cond.fieldLink RX5 23 (TX5 1).1 (TX5 1).2.1 (TX5 1).2.2.1 ∈ wsX5_init := by decide +kernel
theorem wd_X5_init_cl27 : Cond.classLink RX5 27 RX3 ∈ wsX5_init := by decide +kernel
theorem wd_X5_init_inRX3 : Cond.instantiable RX3 9 ∈ wsX5_init := by decide +kernel
theorem wd_X5_init_iiRX3 : Cond.initialized RX3 ∈ wsX5_init := by decide +kernel
theorem in_X5_init_3 : ∀ w ∈ u_ws RX3 TX3 9, w ∈ wsX5_init := by decide +kernel
theorem wd_X5_init_im_X3_init : Cond.instanceMethod yX3_init ∈ wsX5_init := by decide +kernel
theorem wd_X5_init_iniRX3 : Cond.initialized RX3 ∈ wsX5_init := by decide +kernel
theorem fl_X5_init_30 : Cond.fieldLink RX5 30 (TX5 2).1 (TX5 2).2.1 (TX5 2).2.2.1 ∈ wsX5_init := by decide +kernel
theorem fl_X5_init_34 : Cond.fieldLink RX5 34 (TX5 3).1 (TX5 3).2.1 (TX5 3).2.2.1 ∈ wsX5_init := by decide +kernel
theorem fl_X5_init_37 : Cond.fieldLink RX5 37 (TX5 4).1 (TX5 4).2.1 (TX5 4).2.2.1 ∈ wsX5_init := by decide +kernel
theorem fl_X5_init_40 : Cond.fieldLink RX5 40 (TX5 6).1 (TX5 6).2.1 (TX5 6).2.2.1 ∈ wsX5_init := by decide +kernel
abbrev rmX5_init : Room := { frames := 3, cells := 26, slots := 307, locals := 65 }
set_option maxHeartbeats 4000000 in
set_option maxRecDepth 100000 in
theorem k_X5_init (l : Launch) {k : gK} {L : List Nat} {f : Nat → va_E} (hL : L.Nodup) {h : Nat} (hh : h ∈ L) (hf : f h = .inr (5, [.null, .null, .null, .null, .null, .int 0, .int 0, .int 0])) : kA l k L f yX5_init wsX5_init rmX5_init [.ref h] 26 307 (fun v N f2 => v = none ∧ N.length = 26 ∧ isWS k (L ++ N) f2 (wsB (h :: N) 0) wIni ∧ ∀ x ∈ L, x ≠ h → f2 x = f x) := by
  refine kA_of (cc := cX5_init) (maxL := 2) (ret := none) hL (by decide) rfl (Nat.le_of_ble_eq_true rfl) ?_
  intro p e s m args below meth c C hr hin hAO hD
  have hA : ∀ q, s.heap.size ≤ q → q ∈ L ∨ s.heap.size ≤ q := fun _ h => Or.inr h
  have m_h := hh
  have e_h := hf
  have inc : ∀ x ∈ L, x ∈ L := fun _ h => h
  have fr : ∀ x ∈ L, x ≠ h → f x = f x := fun _ _ _ => rfl
  refine gx_lv [(0, _)] [0] rfl ?_
  refine gx_aload_n (q := 0) C dX5_init_0 rfl ?_
  refine gx_objInit C wd_X5_init_oi wd_X5_init_oj wd_X5_init_ok (Nat.le_of_ble_eq_true rfl) (Nat.le_of_ble_eq_true rfl) dX5_init_1 ?_
  refine gx_aload_n (q := 0) C dX5_init_4 rfl ?_
  refine gx_new C hD hA (ci := 4) (fs := [.null]) tyX4_ok rfl in_X5_init_4 wd_X5_init_cl9 wd_X5_init_inRX4 wd_X5_init_iiRX4 (fun j hj => by rcases (show j = 0 by omega) with rfl; rfl) (Nat.le_of_ble_eq_true rfl) (Nat.le_of_ble_eq_true rfl) dX5_init_5 (fun q5 hD_q5 => ?_)
  refine gx_gen (fun f_1 hf_1 => ?_)
  have n_h_q5 := gD_ne hD_q5 m_h (List.mem_singleton.mpr rfl)
  have nL_q5 : ∀ x ∈ L, x ≠ q5 := fun x hx => gD_ne hD_q5 (inc x hx) (List.mem_singleton.mpr rfl)
  have e_h := (show f_1 h = f h by rw [hf_1, va_up_of _ n_h_q5]).trans e_h
  have m_h := List.mem_append_left [q5] m_h
  have fr : ∀ x ∈ L, x ≠ h → f_1 x = f x := fun x hx hne => (show f_1 x = f x by rw [hf_1, va_up_of _ (nL_q5 x hx)]).trans (fr x hx hne)
  have inc : ∀ x ∈ L, x ∈ (L ++ [q5]) := fun x hx => List.mem_append_left _ (inc x hx)
  have m_q5 : q5 ∈ (L ++ [q5]) := List.mem_append_right _ (List.mem_singleton.mpr rfl)
  have e_q5 : f_1 q5 = .inr (4, [.null]) := by rw [hf_1, va_up_at]
  refine gx_dup C rfl dX5_init_8 ?_
  refine gx_iconst (v := 4) C dX5_init_9 (by decide) ?_
  refine gx_callI C hAO hD_q5 hA (k_X4_init l hD_q5.1 m_q5 e_q5 (n := 4) (Nat.le_of_ble_eq_true rfl)) (cwI 1 C.2.2.2.2.1 gX5_init_X4_init rfl rfl rfl (C.2.2.2.2.1 _ wd_X5_init_iniRX4) (C.2.2.2.2.1 _ wd_X5_init_ml11) (C.2.2.2.2.1 _ wd_X5_init_im_X4_init) rfl kdN_X4_init ⟨Nat.le_of_ble_eq_true rfl, Nat.le_of_ble_eq_true rfl⟩) rfl rfl (Nat.le_of_ble_eq_true rfl) ⟨(Nat.le_of_ble_eq_true rfl), (Nat.le_of_ble_eq_true rfl)⟩ dX5_init_10 (fun v_2 N_2 f_2 hp_2 hD_2 => ?_)
  obtain ⟨rfl, q5_a, rfl, e_q5_n, e_q5_a, fr_n⟩ := hp_2
  refine gx_nil ?_
  have n_h_q5_a := gD_ne hD_2 m_h (show q5_a ∈ [q5_a] by simp)
  have n_q5_q5_a := gD_ne hD_2 m_q5 (show q5_a ∈ [q5_a] by simp)
  have nL_q5_a : ∀ x ∈ L, x ≠ q5_a := fun x hx => gD_ne hD_2 (inc x hx) (show q5_a ∈ [q5_a] by simp)
  have e_h := (fr_n h m_h n_h_q5).trans e_h
  have e_q5 := e_q5_n
  have fr : ∀ x ∈ L, x ≠ h → f_2 x = f x := fun x hx hne => (fr_n x (inc x hx) (nL_q5 x hx)).trans (fr x hx hne)
  have m_h : h ∈ ((L ++ [q5]) ++ [q5_a]) := List.mem_append_left _ m_h
  have m_q5 : q5 ∈ ((L ++ [q5]) ++ [q5_a]) := List.mem_append_left _ m_q5
  have inc : ∀ x ∈ L, x ∈ ((L ++ [q5]) ++ [q5_a]) := fun x hx => List.mem_append_left _ (inc x hx)
  have m_q5_a : q5_a ∈ ((L ++ [q5]) ++ [q5_a]) := List.mem_append_right _ (by simp)
  refine gx_putF C hD_2 (i := 0) (ty := (.object RX4)) tyX5_ok nmX5 m_h e_h rfl in_X5_init_5 (by decide) fl_X5_init_14 rfl hin rfl (by decide +kernel) rfl rfl (Nat.le_of_ble_eq_true rfl) rfl dX5_init_13 ?_
  refine gx_gen (fun f_3 hf_3 => ?_)
  have e_q5 := (show f_3 q5 = f_2 q5 by rw [hf_3, va_up_of _ (Ne.symm n_h_q5)]).trans e_q5
  have e_q5_a := (show f_3 q5_a = f_2 q5_a by rw [hf_3, va_up_of _ (Ne.symm n_h_q5_a)]).trans e_q5_a
  have fr : ∀ x ∈ L, x ≠ h → f_3 x = f x := fun x hx hne => (show f_3 x = f_2 x by rw [hf_3, va_up_of _ hne]).trans (fr x hx hne)
  have e_h : f_3 h = .inr (5, [.ref q5, .null, .null, .null, .null, .int 0, .int 0, .int 0]) := by rw [hf_3, va_up_at] <;> rfl
  refine gx_aload_n (q := 0) C dX5_init_16 rfl ?_
  refine gx_new C hD_2 hA (ci := 0) (fs := [.null, .int 0, .int 0]) tyX0_ok rfl in_X5_init_0 wd_X5_init_cl20 wd_X5_init_inRX0 wd_X5_init_iiRX0 (fun j hj => by rcases (show j = 0 ∨ j = 1 ∨ j = 2 by omega) with rfl | rfl | rfl <;> rfl) (Nat.le_of_ble_eq_true rfl) (Nat.le_of_ble_eq_true rfl) dX5_init_17 (fun q17 hD_q17 => ?_)
  refine gx_gen (fun f_4 hf_4 => ?_)
  have n_h_q17 := gD_ne hD_q17 m_h (List.mem_singleton.mpr rfl)
  have n_q5_q17 := gD_ne hD_q17 m_q5 (List.mem_singleton.mpr rfl)
  have n_q5_a_q17 := gD_ne hD_q17 m_q5_a (List.mem_singleton.mpr rfl)
  have nL_q17 : ∀ x ∈ L, x ≠ q17 := fun x hx => gD_ne hD_q17 (inc x hx) (List.mem_singleton.mpr rfl)
  have e_h := (show f_4 h = f_3 h by rw [hf_4, va_up_of _ n_h_q17]).trans e_h
  have m_h := List.mem_append_left [q17] m_h
  have e_q5 := (show f_4 q5 = f_3 q5 by rw [hf_4, va_up_of _ n_q5_q17]).trans e_q5
  have m_q5 := List.mem_append_left [q17] m_q5
  have e_q5_a := (show f_4 q5_a = f_3 q5_a by rw [hf_4, va_up_of _ n_q5_a_q17]).trans e_q5_a
  have m_q5_a := List.mem_append_left [q17] m_q5_a
  have fr : ∀ x ∈ L, x ≠ h → f_4 x = f x := fun x hx hne => (show f_4 x = f_3 x by rw [hf_4, va_up_of _ (nL_q17 x hx)]).trans (fr x hx hne)
  have inc : ∀ x ∈ L, x ∈ (((L ++ [q5]) ++ [q5_a]) ++ [q17]) := fun x hx => List.mem_append_left _ (inc x hx)
  have m_q17 : q17 ∈ (((L ++ [q5]) ++ [q5_a]) ++ [q17]) := List.mem_append_right _ (List.mem_singleton.mpr rfl)
  have e_q17 : f_4 q17 = .inr (0, [.null, .int 0, .int 0]) := by rw [hf_4, va_up_at]
  refine gx_dup C rfl dX5_init_20 ?_
  refine gx_callIN C hAO hD_q17 hA (k_X0_init l hD_q17.1 m_q17 e_q17) ⟨va_cnB 0 C.2.2.2.2.1 gX5_init_X0_init_n22 rfl rfl rfl (C.2.2.2.2.2.1.2.2 (RX5, 22, yX0_init) (by decide +kernel)) (C.2.2.2.2.1 _ wd_X5_init_iniRX0) kdN_X0_init ⟨Nat.le_of_ble_eq_true rfl, Nat.le_of_ble_eq_true rfl⟩, rfl, C.2.2.2.2.1 _ wd_X5_init_im_X0_init⟩ rfl rfl (Nat.le_of_ble_eq_true rfl) ⟨(Nat.le_of_ble_eq_true rfl), (Nat.le_of_ble_eq_true rfl)⟩ dX5_init_21 (fun v_5 N_5 f_5 hp_5 hD_5 => ?_)
  obtain ⟨rfl, q17_r, q17_a, rfl, e_q17_n, e_q17_r, e_q17_a, fr_n⟩ := hp_5
  refine gx_nil ?_
  have n_h_q17_r := gD_ne hD_5 m_h (show q17_r ∈ [q17_r, q17_a] by simp)
  have n_q5_q17_r := gD_ne hD_5 m_q5 (show q17_r ∈ [q17_r, q17_a] by simp)
  have n_q5_a_q17_r := gD_ne hD_5 m_q5_a (show q17_r ∈ [q17_r, q17_a] by simp)
  have n_q17_q17_r := gD_ne hD_5 m_q17 (show q17_r ∈ [q17_r, q17_a] by simp)
  have nL_q17_r : ∀ x ∈ L, x ≠ q17_r := fun x hx => gD_ne hD_5 (inc x hx) (show q17_r ∈ [q17_r, q17_a] by simp)
  have n_h_q17_a := gD_ne hD_5 m_h (show q17_a ∈ [q17_r, q17_a] by simp)
  have n_q5_q17_a := gD_ne hD_5 m_q5 (show q17_a ∈ [q17_r, q17_a] by simp)
  have n_q5_a_q17_a := gD_ne hD_5 m_q5_a (show q17_a ∈ [q17_r, q17_a] by simp)
  have n_q17_q17_a := gD_ne hD_5 m_q17 (show q17_a ∈ [q17_r, q17_a] by simp)
  have nL_q17_a : ∀ x ∈ L, x ≠ q17_a := fun x hx => gD_ne hD_5 (inc x hx) (show q17_a ∈ [q17_r, q17_a] by simp)
  have e_h := (fr_n h m_h n_h_q17).trans e_h
  have e_q5 := (fr_n q5 m_q5 n_q5_q17).trans e_q5
  have e_q5_a := (fr_n q5_a m_q5_a n_q5_a_q17).trans e_q5_a
  have e_q17 := e_q17_n
  have fr : ∀ x ∈ L, x ≠ h → f_5 x = f x := fun x hx hne => (fr_n x (inc x hx) (nL_q17 x hx)).trans (fr x hx hne)
  have m_h : h ∈ ((((L ++ [q5]) ++ [q5_a]) ++ [q17]) ++ [q17_r, q17_a]) := List.mem_append_left _ m_h
  have m_q5 : q5 ∈ ((((L ++ [q5]) ++ [q5_a]) ++ [q17]) ++ [q17_r, q17_a]) := List.mem_append_left _ m_q5
  have m_q5_a : q5_a ∈ ((((L ++ [q5]) ++ [q5_a]) ++ [q17]) ++ [q17_r, q17_a]) := List.mem_append_left _ m_q5_a
  have m_q17 : q17 ∈ ((((L ++ [q5]) ++ [q5_a]) ++ [q17]) ++ [q17_r, q17_a]) := List.mem_append_left _ m_q17
  have inc : ∀ x ∈ L, x ∈ ((((L ++ [q5]) ++ [q5_a]) ++ [q17]) ++ [q17_r, q17_a]) := fun x hx => List.mem_append_left _ (inc x hx)
  have m_q17_r : q17_r ∈ ((((L ++ [q5]) ++ [q5_a]) ++ [q17]) ++ [q17_r, q17_a]) := List.mem_append_right _ (by simp)
  have m_q17_a : q17_a ∈ ((((L ++ [q5]) ++ [q5_a]) ++ [q17]) ++ [q17_r, q17_a]) := List.mem_append_right _ (by simp)
  refine gx_putF C hD_5 (i := 1) (ty := (.object RX0)) tyX5_ok nmX5 m_h e_h rfl in_X5_init_5 (by decide) fl_X5_init_23 rfl hin rfl (by decide +kernel) rfl rfl (Nat.le_of_ble_eq_true rfl) rfl dX5_init_24 ?_
  refine gx_gen (fun f_6 hf_6 => ?_)
  have e_q5 := (show f_6 q5 = f_5 q5 by rw [hf_6, va_up_of _ (Ne.symm n_h_q5)]).trans e_q5
  have e_q5_a := (show f_6 q5_a = f_5 q5_a by rw [hf_6, va_up_of _ (Ne.symm n_h_q5_a)]).trans e_q5_a
  have e_q17 := (show f_6 q17 = f_5 q17 by rw [hf_6, va_up_of _ (Ne.symm n_h_q17)]).trans e_q17
  have e_q17_r := (show f_6 q17_r = f_5 q17_r by rw [hf_6, va_up_of _ (Ne.symm n_h_q17_r)]).trans e_q17_r
  have e_q17_a := (show f_6 q17_a = f_5 q17_a by rw [hf_6, va_up_of _ (Ne.symm n_h_q17_a)]).trans e_q17_a
  have fr : ∀ x ∈ L, x ≠ h → f_6 x = f x := fun x hx hne => (show f_6 x = f_5 x by rw [hf_6, va_up_of _ hne]).trans (fr x hx hne)
  have e_h : f_6 h = .inr (5, [.ref q5, .ref q17, .null, .null, .null, .int 0, .int 0, .int 0]) := by rw [hf_6, va_up_at] <;> rfl
  refine gx_aload_n (q := 0) C dX5_init_27 rfl ?_
  refine gx_new C hD_5 hA (ci := 3) (fs := [.null, .null, .null, .null, .null, .null, .null, .null, .int 0]) tyX3_ok rfl in_X5_init_3 wd_X5_init_cl27 wd_X5_init_inRX3 wd_X5_init_iiRX3 (fun j hj => by rcases (show j = 0 ∨ j = 1 ∨ j = 2 ∨ j = 3 ∨ j = 4 ∨ j = 5 ∨ j = 6 ∨ j = 7 ∨ j = 8 by omega) with rfl | rfl | rfl | rfl | rfl | rfl | rfl | rfl | rfl <;> rfl) (Nat.le_of_ble_eq_true rfl) (Nat.le_of_ble_eq_true rfl) dX5_init_28 (fun q28 hD_q28 => ?_)
  refine gx_gen (fun f_7 hf_7 => ?_)
  have n_h_q28 := gD_ne hD_q28 m_h (List.mem_singleton.mpr rfl)
  have n_q5_q28 := gD_ne hD_q28 m_q5 (List.mem_singleton.mpr rfl)
  have n_q5_a_q28 := gD_ne hD_q28 m_q5_a (List.mem_singleton.mpr rfl)
  have n_q17_q28 := gD_ne hD_q28 m_q17 (List.mem_singleton.mpr rfl)
  have n_q17_r_q28 := gD_ne hD_q28 m_q17_r (List.mem_singleton.mpr rfl)
  have n_q17_a_q28 := gD_ne hD_q28 m_q17_a (List.mem_singleton.mpr rfl)
  have nL_q28 : ∀ x ∈ L, x ≠ q28 := fun x hx => gD_ne hD_q28 (inc x hx) (List.mem_singleton.mpr rfl)
  have e_h := (show f_7 h = f_6 h by rw [hf_7, va_up_of _ n_h_q28]).trans e_h
  have m_h := List.mem_append_left [q28] m_h
  have e_q5 := (show f_7 q5 = f_6 q5 by rw [hf_7, va_up_of _ n_q5_q28]).trans e_q5
  have m_q5 := List.mem_append_left [q28] m_q5
  have e_q5_a := (show f_7 q5_a = f_6 q5_a by rw [hf_7, va_up_of _ n_q5_a_q28]).trans e_q5_a
  have m_q5_a := List.mem_append_left [q28] m_q5_a
  have e_q17 := (show f_7 q17 = f_6 q17 by rw [hf_7, va_up_of _ n_q17_q28]).trans e_q17
  have m_q17 := List.mem_append_left [q28] m_q17
  have e_q17_r := (show f_7 q17_r = f_6 q17_r by rw [hf_7, va_up_of _ n_q17_r_q28]).trans e_q17_r
  have m_q17_r := List.mem_append_left [q28] m_q17_r
  have e_q17_a := (show f_7 q17_a = f_6 q17_a by rw [hf_7, va_up_of _ n_q17_a_q28]).trans e_q17_a
  have m_q17_a := List.mem_append_left [q28] m_q17_a
  have fr : ∀ x ∈ L, x ≠ h → f_7 x = f x := fun x hx hne => (show f_7 x = f_6 x by rw [hf_7, va_up_of _ (nL_q28 x hx)]).trans (fr x hx hne)
  have inc : ∀ x ∈ L, x ∈ (((((L ++ [q5]) ++ [q5_a]) ++ [q17]) ++ [q17_r, q17_a]) ++ [q28]) := fun x hx => List.mem_append_left _ (inc x hx)
  have m_q28 : q28 ∈ (((((L ++ [q5]) ++ [q5_a]) ++ [q17]) ++ [q17_r, q17_a]) ++ [q28]) := List.mem_append_right _ (List.mem_singleton.mpr rfl)
  have e_q28 : f_7 q28 = .inr (3, [.null, .null, .null, .null, .null, .null, .null, .null, .int 0]) := by rw [hf_7, va_up_at]
  refine gx_dup C rfl dX5_init_31 ?_
  refine gx_callIN C hAO hD_q28 hA (k_X3_init l hD_q28.1 m_q28 e_q28) ⟨va_cnB 0 C.2.2.2.2.1 gX5_init_X3_init_n29 rfl rfl rfl (C.2.2.2.2.2.1.2.2 (RX5, 29, yX3_init) (by decide +kernel)) (C.2.2.2.2.1 _ wd_X5_init_iniRX3) kdN_X3_init ⟨Nat.le_of_ble_eq_true rfl, Nat.le_of_ble_eq_true rfl⟩, rfl, C.2.2.2.2.1 _ wd_X5_init_im_X3_init⟩ rfl rfl (Nat.le_of_ble_eq_true rfl) ⟨(Nat.le_of_ble_eq_true rfl), (Nat.le_of_ble_eq_true rfl)⟩ dX5_init_32 (fun v_8 N_8 f_8 hp_8 hD_8 => ?_)
  obtain ⟨rfl, q28_b0, q28_b1, q28_b2, q28_b3, q28_b4, q28_b5, q28_b6, q28_b7, q28_b8, q28_b9, q28_b10, q28_b11, q28_b12, q28_b13, q28_b14, q28_b15, rfl, e_q28_n, e_q28_b0, e_q28_b1, e_q28_b2, e_q28_b3, e_q28_b4, e_q28_b5, e_q28_b6, e_q28_b7, e_q28_b8, e_q28_b9, e_q28_b10, e_q28_b11, e_q28_b12, e_q28_b13, e_q28_b14, e_q28_b15, fr_n⟩ := hp_8
  refine gx_nil ?_
  have n_h_q28_b0 := gD_ne hD_8 m_h (show q28_b0 ∈ [q28_b0, q28_b1, q28_b2, q28_b3, q28_b4, q28_b5, q28_b6, q28_b7, q28_b8, q28_b9, q28_b10, q28_b11, q28_b12, q28_b13, q28_b14, q28_b15] by simp)
  have n_q5_q28_b0 := gD_ne hD_8 m_q5 (show q28_b0 ∈ [q28_b0, q28_b1, q28_b2, q28_b3, q28_b4, q28_b5, q28_b6, q28_b7, q28_b8, q28_b9, q28_b10, q28_b11, q28_b12, q28_b13, q28_b14, q28_b15] by simp)
  have n_q5_a_q28_b0 := gD_ne hD_8 m_q5_a (show q28_b0 ∈ [q28_b0, q28_b1, q28_b2, q28_b3, q28_b4, q28_b5, q28_b6, q28_b7, q28_b8, q28_b9, q28_b10, q28_b11, q28_b12, q28_b13, q28_b14, q28_b15] by simp)
  have n_q17_q28_b0 := gD_ne hD_8 m_q17 (show q28_b0 ∈ [q28_b0, q28_b1, q28_b2, q28_b3, q28_b4, q28_b5, q28_b6, q28_b7, q28_b8, q28_b9, q28_b10, q28_b11, q28_b12, q28_b13, q28_b14, q28_b15] by simp)
  have n_q17_r_q28_b0 := gD_ne hD_8 m_q17_r (show q28_b0 ∈ [q28_b0, q28_b1, q28_b2, q28_b3, q28_b4, q28_b5, q28_b6, q28_b7, q28_b8, q28_b9, q28_b10, q28_b11, q28_b12, q28_b13, q28_b14, q28_b15] by simp)
  have n_q17_a_q28_b0 := gD_ne hD_8 m_q17_a (show q28_b0 ∈ [q28_b0, q28_b1, q28_b2, q28_b3, q28_b4, q28_b5, q28_b6, q28_b7, q28_b8, q28_b9, q28_b10, q28_b11, q28_b12, q28_b13, q28_b14, q28_b15] by simp)
  have n_q28_q28_b0 := gD_ne hD_8 m_q28 (show q28_b0 ∈ [q28_b0, q28_b1, q28_b2, q28_b3, q28_b4, q28_b5, q28_b6, q28_b7, q28_b8, q28_b9, q28_b10, q28_b11, q28_b12, q28_b13, q28_b14, q28_b15] by simp)
  have nL_q28_b0 : ∀ x ∈ L, x ≠ q28_b0 := fun x hx => gD_ne hD_8 (inc x hx) (show q28_b0 ∈ [q28_b0, q28_b1, q28_b2, q28_b3, q28_b4, q28_b5, q28_b6, q28_b7, q28_b8, q28_b9, q28_b10, q28_b11, q28_b12, q28_b13, q28_b14, q28_b15] by simp)
  have n_h_q28_b1 := gD_ne hD_8 m_h (show q28_b1 ∈ [q28_b0, q28_b1, q28_b2, q28_b3, q28_b4, q28_b5, q28_b6, q28_b7, q28_b8, q28_b9, q28_b10, q28_b11, q28_b12, q28_b13, q28_b14, q28_b15] by simp)
  have n_q5_q28_b1 := gD_ne hD_8 m_q5 (show q28_b1 ∈ [q28_b0, q28_b1, q28_b2, q28_b3, q28_b4, q28_b5, q28_b6, q28_b7, q28_b8, q28_b9, q28_b10, q28_b11, q28_b12, q28_b13, q28_b14, q28_b15] by simp)
  have n_q5_a_q28_b1 := gD_ne hD_8 m_q5_a (show q28_b1 ∈ [q28_b0, q28_b1, q28_b2, q28_b3, q28_b4, q28_b5, q28_b6, q28_b7, q28_b8, q28_b9, q28_b10, q28_b11, q28_b12, q28_b13, q28_b14, q28_b15] by simp)
  have n_q17_q28_b1 := gD_ne hD_8 m_q17 (show q28_b1 ∈ [q28_b0, q28_b1, q28_b2, q28_b3, q28_b4, q28_b5, q28_b6, q28_b7, q28_b8, q28_b9, q28_b10, q28_b11, q28_b12, q28_b13, q28_b14, q28_b15] by simp)
  have n_q17_r_q28_b1 := gD_ne hD_8 m_q17_r (show q28_b1 ∈ [q28_b0, q28_b1, q28_b2, q28_b3, q28_b4, q28_b5, q28_b6, q28_b7, q28_b8, q28_b9, q28_b10, q28_b11, q28_b12, q28_b13, q28_b14, q28_b15] by simp)
  have n_q17_a_q28_b1 := gD_ne hD_8 m_q17_a (show q28_b1 ∈ [q28_b0, q28_b1, q28_b2, q28_b3, q28_b4, q28_b5, q28_b6, q28_b7, q28_b8, q28_b9, q28_b10, q28_b11, q28_b12, q28_b13, q28_b14, q28_b15] by simp)
  have n_q28_q28_b1 := gD_ne hD_8 m_q28 (show q28_b1 ∈ [q28_b0, q28_b1, q28_b2, q28_b3, q28_b4, q28_b5, q28_b6, q28_b7, q28_b8, q28_b9, q28_b10, q28_b11, q28_b12, q28_b13, q28_b14, q28_b15] by simp)
  have nL_q28_b1 : ∀ x ∈ L, x ≠ q28_b1 := fun x hx => gD_ne hD_8 (inc x hx) (show q28_b1 ∈ [q28_b0, q28_b1, q28_b2, q28_b3, q28_b4, q28_b5, q28_b6, q28_b7, q28_b8, q28_b9, q28_b10, q28_b11, q28_b12, q28_b13, q28_b14, q28_b15] by simp)
  have n_h_q28_b2 := gD_ne hD_8 m_h (show q28_b2 ∈ [q28_b0, q28_b1, q28_b2, q28_b3, q28_b4, q28_b5, q28_b6, q28_b7, q28_b8, q28_b9, q28_b10, q28_b11, q28_b12, q28_b13, q28_b14, q28_b15] by simp)
  have n_q5_q28_b2 := gD_ne hD_8 m_q5 (show q28_b2 ∈ [q28_b0, q28_b1, q28_b2, q28_b3, q28_b4, q28_b5, q28_b6, q28_b7, q28_b8, q28_b9, q28_b10, q28_b11, q28_b12, q28_b13, q28_b14, q28_b15] by simp)
  have n_q5_a_q28_b2 := gD_ne hD_8 m_q5_a (show q28_b2 ∈ [q28_b0, q28_b1, q28_b2, q28_b3, q28_b4, q28_b5, q28_b6, q28_b7, q28_b8, q28_b9, q28_b10, q28_b11, q28_b12, q28_b13, q28_b14, q28_b15] by simp)
  have n_q17_q28_b2 := gD_ne hD_8 m_q17 (show q28_b2 ∈ [q28_b0, q28_b1, q28_b2, q28_b3, q28_b4, q28_b5, q28_b6, q28_b7, q28_b8, q28_b9, q28_b10, q28_b11, q28_b12, q28_b13, q28_b14, q28_b15] by simp)
  have n_q17_r_q28_b2 := gD_ne hD_8 m_q17_r (show q28_b2 ∈ [q28_b0, q28_b1, q28_b2, q28_b3, q28_b4, q28_b5, q28_b6, q28_b7, q28_b8, q28_b9, q28_b10, q28_b11, q28_b12, q28_b13, q28_b14, q28_b15] by simp)
  have n_q17_a_q28_b2 := gD_ne hD_8 m_q17_a (show q28_b2 ∈ [q28_b0, q28_b1, q28_b2, q28_b3, q28_b4, q28_b5, q28_b6, q28_b7, q28_b8, q28_b9, q28_b10, q28_b11, q28_b12, q28_b13, q28_b14, q28_b15] by simp)
  have n_q28_q28_b2 := gD_ne hD_8 m_q28 (show q28_b2 ∈ [q28_b0, q28_b1, q28_b2, q28_b3, q28_b4, q28_b5, q28_b6, q28_b7, q28_b8, q28_b9, q28_b10, q28_b11, q28_b12, q28_b13, q28_b14, q28_b15] by simp)
  have nL_q28_b2 : ∀ x ∈ L, x ≠ q28_b2 := fun x hx => gD_ne hD_8 (inc x hx) (show q28_b2 ∈ [q28_b0, q28_b1, q28_b2, q28_b3, q28_b4, q28_b5, q28_b6, q28_b7, q28_b8, q28_b9, q28_b10, q28_b11, q28_b12, q28_b13, q28_b14, q28_b15] by simp)
  have n_h_q28_b3 := gD_ne hD_8 m_h (show q28_b3 ∈ [q28_b0, q28_b1, q28_b2, q28_b3, q28_b4, q28_b5, q28_b6, q28_b7, q28_b8, q28_b9, q28_b10, q28_b11, q28_b12, q28_b13, q28_b14, q28_b15] by simp)
  have n_q5_q28_b3 := gD_ne hD_8 m_q5 (show q28_b3 ∈ [q28_b0, q28_b1, q28_b2, q28_b3, q28_b4, q28_b5, q28_b6, q28_b7, q28_b8, q28_b9, q28_b10, q28_b11, q28_b12, q28_b13, q28_b14, q28_b15] by simp)
  have n_q5_a_q28_b3 := gD_ne hD_8 m_q5_a (show q28_b3 ∈ [q28_b0, q28_b1, q28_b2, q28_b3, q28_b4, q28_b5, q28_b6, q28_b7, q28_b8, q28_b9, q28_b10, q28_b11, q28_b12, q28_b13, q28_b14, q28_b15] by simp)
  have n_q17_q28_b3 := gD_ne hD_8 m_q17 (show q28_b3 ∈ [q28_b0, q28_b1, q28_b2, q28_b3, q28_b4, q28_b5, q28_b6, q28_b7, q28_b8, q28_b9, q28_b10, q28_b11, q28_b12, q28_b13, q28_b14, q28_b15] by simp)
  have n_q17_r_q28_b3 := gD_ne hD_8 m_q17_r (show q28_b3 ∈ [q28_b0, q28_b1, q28_b2, q28_b3, q28_b4, q28_b5, q28_b6, q28_b7, q28_b8, q28_b9, q28_b10, q28_b11, q28_b12, q28_b13, q28_b14, q28_b15] by simp)
  have n_q17_a_q28_b3 := gD_ne hD_8 m_q17_a (show q28_b3 ∈ [q28_b0, q28_b1, q28_b2, q28_b3, q28_b4, q28_b5, q28_b6, q28_b7, q28_b8, q28_b9, q28_b10, q28_b11, q28_b12, q28_b13, q28_b14, q28_b15] by simp)
  have n_q28_q28_b3 := gD_ne hD_8 m_q28 (show q28_b3 ∈ [q28_b0, q28_b1, q28_b2, q28_b3, q28_b4, q28_b5, q28_b6, q28_b7, q28_b8, q28_b9, q28_b10, q28_b11, q28_b12, q28_b13, q28_b14, q28_b15] by simp)
  have nL_q28_b3 : ∀ x ∈ L, x ≠ q28_b3 := fun x hx => gD_ne hD_8 (inc x hx) (show q28_b3 ∈ [q28_b0, q28_b1, q28_b2, q28_b3, q28_b4, q28_b5, q28_b6, q28_b7, q28_b8, q28_b9, q28_b10, q28_b11, q28_b12, q28_b13, q28_b14, q28_b15] by simp)
  have n_h_q28_b4 := gD_ne hD_8 m_h (show q28_b4 ∈ [q28_b0, q28_b1, q28_b2, q28_b3, q28_b4, q28_b5, q28_b6, q28_b7, q28_b8, q28_b9, q28_b10, q28_b11, q28_b12, q28_b13, q28_b14, q28_b15] by simp)
  have n_q5_q28_b4 := gD_ne hD_8 m_q5 (show q28_b4 ∈ [q28_b0, q28_b1, q28_b2, q28_b3, q28_b4, q28_b5, q28_b6, q28_b7, q28_b8, q28_b9, q28_b10, q28_b11, q28_b12, q28_b13, q28_b14, q28_b15] by simp)
  have n_q5_a_q28_b4 := gD_ne hD_8 m_q5_a (show q28_b4 ∈ [q28_b0, q28_b1, q28_b2, q28_b3, q28_b4, q28_b5, q28_b6, q28_b7, q28_b8, q28_b9, q28_b10, q28_b11, q28_b12, q28_b13, q28_b14, q28_b15] by simp)
  have n_q17_q28_b4 := gD_ne hD_8 m_q17 (show q28_b4 ∈ [q28_b0, q28_b1, q28_b2, q28_b3, q28_b4, q28_b5, q28_b6, q28_b7, q28_b8, q28_b9, q28_b10, q28_b11, q28_b12, q28_b13, q28_b14, q28_b15] by simp)
  have n_q17_r_q28_b4 := gD_ne hD_8 m_q17_r (show q28_b4 ∈ [q28_b0, q28_b1, q28_b2, q28_b3, q28_b4, q28_b5, q28_b6, q28_b7, q28_b8, q28_b9, q28_b10, q28_b11, q28_b12, q28_b13, q28_b14, q28_b15] by simp)
  have n_q17_a_q28_b4 := gD_ne hD_8 m_q17_a (show q28_b4 ∈ [q28_b0, q28_b1, q28_b2, q28_b3, q28_b4, q28_b5, q28_b6, q28_b7, q28_b8, q28_b9, q28_b10, q28_b11, q28_b12, q28_b13, q28_b14, q28_b15] by simp)
  have n_q28_q28_b4 := gD_ne hD_8 m_q28 (show q28_b4 ∈ [q28_b0, q28_b1, q28_b2, q28_b3, q28_b4, q28_b5, q28_b6, q28_b7, q28_b8, q28_b9, q28_b10, q28_b11, q28_b12, q28_b13, q28_b14, q28_b15] by simp)
  have nL_q28_b4 : ∀ x ∈ L, x ≠ q28_b4 := fun x hx => gD_ne hD_8 (inc x hx) (show q28_b4 ∈ [q28_b0, q28_b1, q28_b2, q28_b3, q28_b4, q28_b5, q28_b6, q28_b7, q28_b8, q28_b9, q28_b10, q28_b11, q28_b12, q28_b13, q28_b14, q28_b15] by simp)
  have n_h_q28_b5 := gD_ne hD_8 m_h (show q28_b5 ∈ [q28_b0, q28_b1, q28_b2, q28_b3, q28_b4, q28_b5, q28_b6, q28_b7, q28_b8, q28_b9, q28_b10, q28_b11, q28_b12, q28_b13, q28_b14, q28_b15] by simp)
  have n_q5_q28_b5 := gD_ne hD_8 m_q5 (show q28_b5 ∈ [q28_b0, q28_b1, q28_b2, q28_b3, q28_b4, q28_b5, q28_b6, q28_b7, q28_b8, q28_b9, q28_b10, q28_b11, q28_b12, q28_b13, q28_b14, q28_b15] by simp)
  have n_q5_a_q28_b5 := gD_ne hD_8 m_q5_a (show q28_b5 ∈ [q28_b0, q28_b1, q28_b2, q28_b3, q28_b4, q28_b5, q28_b6, q28_b7, q28_b8, q28_b9, q28_b10, q28_b11, q28_b12, q28_b13, q28_b14, q28_b15] by simp)
  have n_q17_q28_b5 := gD_ne hD_8 m_q17 (show q28_b5 ∈ [q28_b0, q28_b1, q28_b2, q28_b3, q28_b4, q28_b5, q28_b6, q28_b7, q28_b8, q28_b9, q28_b10, q28_b11, q28_b12, q28_b13, q28_b14, q28_b15] by simp)
  have n_q17_r_q28_b5 := gD_ne hD_8 m_q17_r (show q28_b5 ∈ [q28_b0, q28_b1, q28_b2, q28_b3, q28_b4, q28_b5, q28_b6, q28_b7, q28_b8, q28_b9, q28_b10, q28_b11, q28_b12, q28_b13, q28_b14, q28_b15] by simp)
  have n_q17_a_q28_b5 := gD_ne hD_8 m_q17_a (show q28_b5 ∈ [q28_b0, q28_b1, q28_b2, q28_b3, q28_b4, q28_b5, q28_b6, q28_b7, q28_b8, q28_b9, q28_b10, q28_b11, q28_b12, q28_b13, q28_b14, q28_b15] by simp)
  have n_q28_q28_b5 := gD_ne hD_8 m_q28 (show q28_b5 ∈ [q28_b0, q28_b1, q28_b2, q28_b3, q28_b4, q28_b5, q28_b6, q28_b7, q28_b8, q28_b9, q28_b10, q28_b11, q28_b12, q28_b13, q28_b14, q28_b15] by simp)
  have nL_q28_b5 : ∀ x ∈ L, x ≠ q28_b5 := fun x hx => gD_ne hD_8 (inc x hx) (show q28_b5 ∈ [q28_b0, q28_b1, q28_b2, q28_b3, q28_b4, q28_b5, q28_b6, q28_b7, q28_b8, q28_b9, q28_b10, q28_b11, q28_b12, q28_b13, q28_b14, q28_b15] by simp)
  have n_h_q28_b6 := gD_ne hD_8 m_h (show q28_b6 ∈ [q28_b0, q28_b1, q28_b2, q28_b3, q28_b4, q28_b5, q28_b6, q28_b7, q28_b8, q28_b9, q28_b10, q28_b11, q28_b12, q28_b13, q28_b14, q28_b15] by simp)
  have n_q5_q28_b6 := gD_ne hD_8 m_q5 (show q28_b6 ∈ [q28_b0, q28_b1, q28_b2, q28_b3, q28_b4, q28_b5, q28_b6, q28_b7, q28_b8, q28_b9, q28_b10, q28_b11, q28_b12, q28_b13, q28_b14, q28_b15] by simp)
  have n_q5_a_q28_b6 := gD_ne hD_8 m_q5_a (show q28_b6 ∈ [q28_b0, q28_b1, q28_b2, q28_b3, q28_b4, q28_b5, q28_b6, q28_b7, q28_b8, q28_b9, q28_b10, q28_b11, q28_b12, q28_b13, q28_b14, q28_b15] by simp)
  have n_q17_q28_b6 := gD_ne hD_8 m_q17 (show q28_b6 ∈ [q28_b0, q28_b1, q28_b2, q28_b3, q28_b4, q28_b5, q28_b6, q28_b7, q28_b8, q28_b9, q28_b10, q28_b11, q28_b12, q28_b13, q28_b14, q28_b15] by simp)
  have n_q17_r_q28_b6 := gD_ne hD_8 m_q17_r (show q28_b6 ∈ [q28_b0, q28_b1, q28_b2, q28_b3, q28_b4, q28_b5, q28_b6, q28_b7, q28_b8, q28_b9, q28_b10, q28_b11, q28_b12, q28_b13, q28_b14, q28_b15] by simp)
  have n_q17_a_q28_b6 := gD_ne hD_8 m_q17_a (show q28_b6 ∈ [q28_b0, q28_b1, q28_b2, q28_b3, q28_b4, q28_b5, q28_b6, q28_b7, q28_b8, q28_b9, q28_b10, q28_b11, q28_b12, q28_b13, q28_b14, q28_b15] by simp)
  have n_q28_q28_b6 := gD_ne hD_8 m_q28 (show q28_b6 ∈ [q28_b0, q28_b1, q28_b2, q28_b3, q28_b4, q28_b5, q28_b6, q28_b7, q28_b8, q28_b9, q28_b10, q28_b11, q28_b12, q28_b13, q28_b14, q28_b15] by simp)
  have nL_q28_b6 : ∀ x ∈ L, x ≠ q28_b6 := fun x hx => gD_ne hD_8 (inc x hx) (show q28_b6 ∈ [q28_b0, q28_b1, q28_b2, q28_b3, q28_b4, q28_b5, q28_b6, q28_b7, q28_b8, q28_b9, q28_b10, q28_b11, q28_b12, q28_b13, q28_b14, q28_b15] by simp)
  have n_h_q28_b7 := gD_ne hD_8 m_h (show q28_b7 ∈ [q28_b0, q28_b1, q28_b2, q28_b3, q28_b4, q28_b5, q28_b6, q28_b7, q28_b8, q28_b9, q28_b10, q28_b11, q28_b12, q28_b13, q28_b14, q28_b15] by simp)
  have n_q5_q28_b7 := gD_ne hD_8 m_q5 (show q28_b7 ∈ [q28_b0, q28_b1, q28_b2, q28_b3, q28_b4, q28_b5, q28_b6, q28_b7, q28_b8, q28_b9, q28_b10, q28_b11, q28_b12, q28_b13, q28_b14, q28_b15] by simp)
  have n_q5_a_q28_b7 := gD_ne hD_8 m_q5_a (show q28_b7 ∈ [q28_b0, q28_b1, q28_b2, q28_b3, q28_b4, q28_b5, q28_b6, q28_b7, q28_b8, q28_b9, q28_b10, q28_b11, q28_b12, q28_b13, q28_b14, q28_b15] by simp)
  have n_q17_q28_b7 := gD_ne hD_8 m_q17 (show q28_b7 ∈ [q28_b0, q28_b1, q28_b2, q28_b3, q28_b4, q28_b5, q28_b6, q28_b7, q28_b8, q28_b9, q28_b10, q28_b11, q28_b12, q28_b13, q28_b14, q28_b15] by simp)
  have n_q17_r_q28_b7 := gD_ne hD_8 m_q17_r (show q28_b7 ∈ [q28_b0, q28_b1, q28_b2, q28_b3, q28_b4, q28_b5, q28_b6, q28_b7, q28_b8, q28_b9, q28_b10, q28_b11, q28_b12, q28_b13, q28_b14, q28_b15] by simp)
  have n_q17_a_q28_b7 := gD_ne hD_8 m_q17_a (show q28_b7 ∈ [q28_b0, q28_b1, q28_b2, q28_b3, q28_b4, q28_b5, q28_b6, q28_b7, q28_b8, q28_b9, q28_b10, q28_b11, q28_b12, q28_b13, q28_b14, q28_b15] by simp)
  have n_q28_q28_b7 := gD_ne hD_8 m_q28 (show q28_b7 ∈ [q28_b0, q28_b1, q28_b2, q28_b3, q28_b4, q28_b5, q28_b6, q28_b7, q28_b8, q28_b9, q28_b10, q28_b11, q28_b12, q28_b13, q28_b14, q28_b15] by simp)
  have nL_q28_b7 : ∀ x ∈ L, x ≠ q28_b7 := fun x hx => gD_ne hD_8 (inc x hx) (show q28_b7 ∈ [q28_b0, q28_b1, q28_b2, q28_b3, q28_b4, q28_b5, q28_b6, q28_b7, q28_b8, q28_b9, q28_b10, q28_b11, q28_b12, q28_b13, q28_b14, q28_b15] by simp)
  have n_h_q28_b8 := gD_ne hD_8 m_h (show q28_b8 ∈ [q28_b0, q28_b1, q28_b2, q28_b3, q28_b4, q28_b5, q28_b6, q28_b7, q28_b8, q28_b9, q28_b10, q28_b11, q28_b12, q28_b13, q28_b14, q28_b15] by simp)
  have n_q5_q28_b8 := gD_ne hD_8 m_q5 (show q28_b8 ∈ [q28_b0, q28_b1, q28_b2, q28_b3, q28_b4, q28_b5, q28_b6, q28_b7, q28_b8, q28_b9, q28_b10, q28_b11, q28_b12, q28_b13, q28_b14, q28_b15] by simp)
  have n_q5_a_q28_b8 := gD_ne hD_8 m_q5_a (show q28_b8 ∈ [q28_b0, q28_b1, q28_b2, q28_b3, q28_b4, q28_b5, q28_b6, q28_b7, q28_b8, q28_b9, q28_b10, q28_b11, q28_b12, q28_b13, q28_b14, q28_b15] by simp)
  have n_q17_q28_b8 := gD_ne hD_8 m_q17 (show q28_b8 ∈ [q28_b0, q28_b1, q28_b2, q28_b3, q28_b4, q28_b5, q28_b6, q28_b7, q28_b8, q28_b9, q28_b10, q28_b11, q28_b12, q28_b13, q28_b14, q28_b15] by simp)
  have n_q17_r_q28_b8 := gD_ne hD_8 m_q17_r (show q28_b8 ∈ [q28_b0, q28_b1, q28_b2, q28_b3, q28_b4, q28_b5, q28_b6, q28_b7, q28_b8, q28_b9, q28_b10, q28_b11, q28_b12, q28_b13, q28_b14, q28_b15] by simp)
  have n_q17_a_q28_b8 := gD_ne hD_8 m_q17_a (show q28_b8 ∈ [q28_b0, q28_b1, q28_b2, q28_b3, q28_b4, q28_b5, q28_b6, q28_b7, q28_b8, q28_b9, q28_b10, q28_b11, q28_b12, q28_b13, q28_b14, q28_b15] by simp)
  have n_q28_q28_b8 := gD_ne hD_8 m_q28 (show q28_b8 ∈ [q28_b0, q28_b1, q28_b2, q28_b3, q28_b4, q28_b5, q28_b6, q28_b7, q28_b8, q28_b9, q28_b10, q28_b11, q28_b12, q28_b13, q28_b14, q28_b15] by simp)
  have nL_q28_b8 : ∀ x ∈ L, x ≠ q28_b8 := fun x hx => gD_ne hD_8 (inc x hx) (show q28_b8 ∈ [q28_b0, q28_b1, q28_b2, q28_b3, q28_b4, q28_b5, q28_b6, q28_b7, q28_b8, q28_b9, q28_b10, q28_b11, q28_b12, q28_b13, q28_b14, q28_b15] by simp)
  have n_h_q28_b9 := gD_ne hD_8 m_h (show q28_b9 ∈ [q28_b0, q28_b1, q28_b2, q28_b3, q28_b4, q28_b5, q28_b6, q28_b7, q28_b8, q28_b9, q28_b10, q28_b11, q28_b12, q28_b13, q28_b14, q28_b15] by simp)
  have n_q5_q28_b9 := gD_ne hD_8 m_q5 (show q28_b9 ∈ [q28_b0, q28_b1, q28_b2, q28_b3, q28_b4, q28_b5, q28_b6, q28_b7, q28_b8, q28_b9, q28_b10, q28_b11, q28_b12, q28_b13, q28_b14, q28_b15] by simp)
  have n_q5_a_q28_b9 := gD_ne hD_8 m_q5_a (show q28_b9 ∈ [q28_b0, q28_b1, q28_b2, q28_b3, q28_b4, q28_b5, q28_b6, q28_b7, q28_b8, q28_b9, q28_b10, q28_b11, q28_b12, q28_b13, q28_b14, q28_b15] by simp)
  have n_q17_q28_b9 := gD_ne hD_8 m_q17 (show q28_b9 ∈ [q28_b0, q28_b1, q28_b2, q28_b3, q28_b4, q28_b5, q28_b6, q28_b7, q28_b8, q28_b9, q28_b10, q28_b11, q28_b12, q28_b13, q28_b14, q28_b15] by simp)
  have n_q17_r_q28_b9 := gD_ne hD_8 m_q17_r (show q28_b9 ∈ [q28_b0, q28_b1, q28_b2, q28_b3, q28_b4, q28_b5, q28_b6, q28_b7, q28_b8, q28_b9, q28_b10, q28_b11, q28_b12, q28_b13, q28_b14, q28_b15] by simp)
  have n_q17_a_q28_b9 := gD_ne hD_8 m_q17_a (show q28_b9 ∈ [q28_b0, q28_b1, q28_b2, q28_b3, q28_b4, q28_b5, q28_b6, q28_b7, q28_b8, q28_b9, q28_b10, q28_b11, q28_b12, q28_b13, q28_b14, q28_b15] by simp)
  have n_q28_q28_b9 := gD_ne hD_8 m_q28 (show q28_b9 ∈ [q28_b0, q28_b1, q28_b2, q28_b3, q28_b4, q28_b5, q28_b6, q28_b7, q28_b8, q28_b9, q28_b10, q28_b11, q28_b12, q28_b13, q28_b14, q28_b15] by simp)
  have nL_q28_b9 : ∀ x ∈ L, x ≠ q28_b9 := fun x hx => gD_ne hD_8 (inc x hx) (show q28_b9 ∈ [q28_b0, q28_b1, q28_b2, q28_b3, q28_b4, q28_b5, q28_b6, q28_b7, q28_b8, q28_b9, q28_b10, q28_b11, q28_b12, q28_b13, q28_b14, q28_b15] by simp)
  have n_h_q28_b10 := gD_ne hD_8 m_h (show q28_b10 ∈ [q28_b0, q28_b1, q28_b2, q28_b3, q28_b4, q28_b5, q28_b6, q28_b7, q28_b8, q28_b9, q28_b10, q28_b11, q28_b12, q28_b13, q28_b14, q28_b15] by simp)
  have n_q5_q28_b10 := gD_ne hD_8 m_q5 (show q28_b10 ∈ [q28_b0, q28_b1, q28_b2, q28_b3, q28_b4, q28_b5, q28_b6, q28_b7, q28_b8, q28_b9, q28_b10, q28_b11, q28_b12, q28_b13, q28_b14, q28_b15] by simp)
  have n_q5_a_q28_b10 := gD_ne hD_8 m_q5_a (show q28_b10 ∈ [q28_b0, q28_b1, q28_b2, q28_b3, q28_b4, q28_b5, q28_b6, q28_b7, q28_b8, q28_b9, q28_b10, q28_b11, q28_b12, q28_b13, q28_b14, q28_b15] by simp)
  have n_q17_q28_b10 := gD_ne hD_8 m_q17 (show q28_b10 ∈ [q28_b0, q28_b1, q28_b2, q28_b3, q28_b4, q28_b5, q28_b6, q28_b7, q28_b8, q28_b9, q28_b10, q28_b11, q28_b12, q28_b13, q28_b14, q28_b15] by simp)
  have n_q17_r_q28_b10 := gD_ne hD_8 m_q17_r (show q28_b10 ∈ [q28_b0, q28_b1, q28_b2, q28_b3, q28_b4, q28_b5, q28_b6, q28_b7, q28_b8, q28_b9, q28_b10, q28_b11, q28_b12, q28_b13, q28_b14, q28_b15] by simp)
  have n_q17_a_q28_b10 := gD_ne hD_8 m_q17_a (show q28_b10 ∈ [q28_b0, q28_b1, q28_b2, q28_b3, q28_b4, q28_b5, q28_b6, q28_b7, q28_b8, q28_b9, q28_b10, q28_b11, q28_b12, q28_b13, q28_b14, q28_b15] by simp)
  have n_q28_q28_b10 := gD_ne hD_8 m_q28 (show q28_b10 ∈ [q28_b0, q28_b1, q28_b2, q28_b3, q28_b4, q28_b5, q28_b6, q28_b7, q28_b8, q28_b9, q28_b10, q28_b11, q28_b12, q28_b13, q28_b14, q28_b15] by simp)
  have nL_q28_b10 : ∀ x ∈ L, x ≠ q28_b10 := fun x hx => gD_ne hD_8 (inc x hx) (show q28_b10 ∈ [q28_b0, q28_b1, q28_b2, q28_b3, q28_b4, q28_b5, q28_b6, q28_b7, q28_b8, q28_b9, q28_b10, q28_b11, q28_b12, q28_b13, q28_b14, q28_b15] by simp)
  have n_h_q28_b11 := gD_ne hD_8 m_h (show q28_b11 ∈ [q28_b0, q28_b1, q28_b2, q28_b3, q28_b4, q28_b5, q28_b6, q28_b7, q28_b8, q28_b9, q28_b10, q28_b11, q28_b12, q28_b13, q28_b14, q28_b15] by simp)
  have n_q5_q28_b11 := gD_ne hD_8 m_q5 (show q28_b11 ∈ [q28_b0, q28_b1, q28_b2, q28_b3, q28_b4, q28_b5, q28_b6, q28_b7, q28_b8, q28_b9, q28_b10, q28_b11, q28_b12, q28_b13, q28_b14, q28_b15] by simp)
  have n_q5_a_q28_b11 := gD_ne hD_8 m_q5_a (show q28_b11 ∈ [q28_b0, q28_b1, q28_b2, q28_b3, q28_b4, q28_b5, q28_b6, q28_b7, q28_b8, q28_b9, q28_b10, q28_b11, q28_b12, q28_b13, q28_b14, q28_b15] by simp)
  have n_q17_q28_b11 := gD_ne hD_8 m_q17 (show q28_b11 ∈ [q28_b0, q28_b1, q28_b2, q28_b3, q28_b4, q28_b5, q28_b6, q28_b7, q28_b8, q28_b9, q28_b10, q28_b11, q28_b12, q28_b13, q28_b14, q28_b15] by simp)
  have n_q17_r_q28_b11 := gD_ne hD_8 m_q17_r (show q28_b11 ∈ [q28_b0, q28_b1, q28_b2, q28_b3, q28_b4, q28_b5, q28_b6, q28_b7, q28_b8, q28_b9, q28_b10, q28_b11, q28_b12, q28_b13, q28_b14, q28_b15] by simp)
  have n_q17_a_q28_b11 := gD_ne hD_8 m_q17_a (show q28_b11 ∈ [q28_b0, q28_b1, q28_b2, q28_b3, q28_b4, q28_b5, q28_b6, q28_b7, q28_b8, q28_b9, q28_b10, q28_b11, q28_b12, q28_b13, q28_b14, q28_b15] by simp)
  have n_q28_q28_b11 := gD_ne hD_8 m_q28 (show q28_b11 ∈ [q28_b0, q28_b1, q28_b2, q28_b3, q28_b4, q28_b5, q28_b6, q28_b7, q28_b8, q28_b9, q28_b10, q28_b11, q28_b12, q28_b13, q28_b14, q28_b15] by simp)
  have nL_q28_b11 : ∀ x ∈ L, x ≠ q28_b11 := fun x hx => gD_ne hD_8 (inc x hx) (show q28_b11 ∈ [q28_b0, q28_b1, q28_b2, q28_b3, q28_b4, q28_b5, q28_b6, q28_b7, q28_b8, q28_b9, q28_b10, q28_b11, q28_b12, q28_b13, q28_b14, q28_b15] by simp)
  have n_h_q28_b12 := gD_ne hD_8 m_h (show q28_b12 ∈ [q28_b0, q28_b1, q28_b2, q28_b3, q28_b4, q28_b5, q28_b6, q28_b7, q28_b8, q28_b9, q28_b10, q28_b11, q28_b12, q28_b13, q28_b14, q28_b15] by simp)
  have n_q5_q28_b12 := gD_ne hD_8 m_q5 (show q28_b12 ∈ [q28_b0, q28_b1, q28_b2, q28_b3, q28_b4, q28_b5, q28_b6, q28_b7, q28_b8, q28_b9, q28_b10, q28_b11, q28_b12, q28_b13, q28_b14, q28_b15] by simp)
  have n_q5_a_q28_b12 := gD_ne hD_8 m_q5_a (show q28_b12 ∈ [q28_b0, q28_b1, q28_b2, q28_b3, q28_b4, q28_b5, q28_b6, q28_b7, q28_b8, q28_b9, q28_b10, q28_b11, q28_b12, q28_b13, q28_b14, q28_b15] by simp)
  have n_q17_q28_b12 := gD_ne hD_8 m_q17 (show q28_b12 ∈ [q28_b0, q28_b1, q28_b2, q28_b3, q28_b4, q28_b5, q28_b6, q28_b7, q28_b8, q28_b9, q28_b10, q28_b11, q28_b12, q28_b13, q28_b14, q28_b15] by simp)
  have n_q17_r_q28_b12 := gD_ne hD_8 m_q17_r (show q28_b12 ∈ [q28_b0, q28_b1, q28_b2, q28_b3, q28_b4, q28_b5, q28_b6, q28_b7, q28_b8, q28_b9, q28_b10, q28_b11, q28_b12, q28_b13, q28_b14, q28_b15] by simp)
  have n_q17_a_q28_b12 := gD_ne hD_8 m_q17_a (show q28_b12 ∈ [q28_b0, q28_b1, q28_b2, q28_b3, q28_b4, q28_b5, q28_b6, q28_b7, q28_b8, q28_b9, q28_b10, q28_b11, q28_b12, q28_b13, q28_b14, q28_b15] by simp)
  have n_q28_q28_b12 := gD_ne hD_8 m_q28 (show q28_b12 ∈ [q28_b0, q28_b1, q28_b2, q28_b3, q28_b4, q28_b5, q28_b6, q28_b7, q28_b8, q28_b9, q28_b10, q28_b11, q28_b12, q28_b13, q28_b14, q28_b15] by simp)
  have nL_q28_b12 : ∀ x ∈ L, x ≠ q28_b12 := fun x hx => gD_ne hD_8 (inc x hx) (show q28_b12 ∈ [q28_b0, q28_b1, q28_b2, q28_b3, q28_b4, q28_b5, q28_b6, q28_b7, q28_b8, q28_b9, q28_b10, q28_b11, q28_b12, q28_b13, q28_b14, q28_b15] by simp)
  have n_h_q28_b13 := gD_ne hD_8 m_h (show q28_b13 ∈ [q28_b0, q28_b1, q28_b2, q28_b3, q28_b4, q28_b5, q28_b6, q28_b7, q28_b8, q28_b9, q28_b10, q28_b11, q28_b12, q28_b13, q28_b14, q28_b15] by simp)
  have n_q5_q28_b13 := gD_ne hD_8 m_q5 (show q28_b13 ∈ [q28_b0, q28_b1, q28_b2, q28_b3, q28_b4, q28_b5, q28_b6, q28_b7, q28_b8, q28_b9, q28_b10, q28_b11, q28_b12, q28_b13, q28_b14, q28_b15] by simp)
  have n_q5_a_q28_b13 := gD_ne hD_8 m_q5_a (show q28_b13 ∈ [q28_b0, q28_b1, q28_b2, q28_b3, q28_b4, q28_b5, q28_b6, q28_b7, q28_b8, q28_b9, q28_b10, q28_b11, q28_b12, q28_b13, q28_b14, q28_b15] by simp)
  have n_q17_q28_b13 := gD_ne hD_8 m_q17 (show q28_b13 ∈ [q28_b0, q28_b1, q28_b2, q28_b3, q28_b4, q28_b5, q28_b6, q28_b7, q28_b8, q28_b9, q28_b10, q28_b11, q28_b12, q28_b13, q28_b14, q28_b15] by simp)
  have n_q17_r_q28_b13 := gD_ne hD_8 m_q17_r (show q28_b13 ∈ [q28_b0, q28_b1, q28_b2, q28_b3, q28_b4, q28_b5, q28_b6, q28_b7, q28_b8, q28_b9, q28_b10, q28_b11, q28_b12, q28_b13, q28_b14, q28_b15] by simp)
  have n_q17_a_q28_b13 := gD_ne hD_8 m_q17_a (show q28_b13 ∈ [q28_b0, q28_b1, q28_b2, q28_b3, q28_b4, q28_b5, q28_b6, q28_b7, q28_b8, q28_b9, q28_b10, q28_b11, q28_b12, q28_b13, q28_b14, q28_b15] by simp)
  have n_q28_q28_b13 := gD_ne hD_8 m_q28 (show q28_b13 ∈ [q28_b0, q28_b1, q28_b2, q28_b3, q28_b4, q28_b5, q28_b6, q28_b7, q28_b8, q28_b9, q28_b10, q28_b11, q28_b12, q28_b13, q28_b14, q28_b15] by simp)
  have nL_q28_b13 : ∀ x ∈ L, x ≠ q28_b13 := fun x hx => gD_ne hD_8 (inc x hx) (show q28_b13 ∈ [q28_b0, q28_b1, q28_b2, q28_b3, q28_b4, q28_b5, q28_b6, q28_b7, q28_b8, q28_b9, q28_b10, q28_b11, q28_b12, q28_b13, q28_b14, q28_b15] by simp)
  have n_h_q28_b14 := gD_ne hD_8 m_h (show q28_b14 ∈ [q28_b0, q28_b1, q28_b2, q28_b3, q28_b4, q28_b5, q28_b6, q28_b7, q28_b8, q28_b9, q28_b10, q28_b11, q28_b12, q28_b13, q28_b14, q28_b15] by simp)
  have n_q5_q28_b14 := gD_ne hD_8 m_q5 (show q28_b14 ∈ [q28_b0, q28_b1, q28_b2, q28_b3, q28_b4, q28_b5, q28_b6, q28_b7, q28_b8, q28_b9, q28_b10, q28_b11, q28_b12, q28_b13, q28_b14, q28_b15] by simp)
  have n_q5_a_q28_b14 := gD_ne hD_8 m_q5_a (show q28_b14 ∈ [q28_b0, q28_b1, q28_b2, q28_b3, q28_b4, q28_b5, q28_b6, q28_b7, q28_b8, q28_b9, q28_b10, q28_b11, q28_b12, q28_b13, q28_b14, q28_b15] by simp)
  have n_q17_q28_b14 := gD_ne hD_8 m_q17 (show q28_b14 ∈ [q28_b0, q28_b1, q28_b2, q28_b3, q28_b4, q28_b5, q28_b6, q28_b7, q28_b8, q28_b9, q28_b10, q28_b11, q28_b12, q28_b13, q28_b14, q28_b15] by simp)
  have n_q17_r_q28_b14 := gD_ne hD_8 m_q17_r (show q28_b14 ∈ [q28_b0, q28_b1, q28_b2, q28_b3, q28_b4, q28_b5, q28_b6, q28_b7, q28_b8, q28_b9, q28_b10, q28_b11, q28_b12, q28_b13, q28_b14, q28_b15] by simp)
  have n_q17_a_q28_b14 := gD_ne hD_8 m_q17_a (show q28_b14 ∈ [q28_b0, q28_b1, q28_b2, q28_b3, q28_b4, q28_b5, q28_b6, q28_b7, q28_b8, q28_b9, q28_b10, q28_b11, q28_b12, q28_b13, q28_b14, q28_b15] by simp)
  have n_q28_q28_b14 := gD_ne hD_8 m_q28 (show q28_b14 ∈ [q28_b0, q28_b1, q28_b2, q28_b3, q28_b4, q28_b5, q28_b6, q28_b7, q28_b8, q28_b9, q28_b10, q28_b11, q28_b12, q28_b13, q28_b14, q28_b15] by simp)
  have nL_q28_b14 : ∀ x ∈ L, x ≠ q28_b14 := fun x hx => gD_ne hD_8 (inc x hx) (show q28_b14 ∈ [q28_b0, q28_b1, q28_b2, q28_b3, q28_b4, q28_b5, q28_b6, q28_b7, q28_b8, q28_b9, q28_b10, q28_b11, q28_b12, q28_b13, q28_b14, q28_b15] by simp)
  have n_h_q28_b15 := gD_ne hD_8 m_h (show q28_b15 ∈ [q28_b0, q28_b1, q28_b2, q28_b3, q28_b4, q28_b5, q28_b6, q28_b7, q28_b8, q28_b9, q28_b10, q28_b11, q28_b12, q28_b13, q28_b14, q28_b15] by simp)
  have n_q5_q28_b15 := gD_ne hD_8 m_q5 (show q28_b15 ∈ [q28_b0, q28_b1, q28_b2, q28_b3, q28_b4, q28_b5, q28_b6, q28_b7, q28_b8, q28_b9, q28_b10, q28_b11, q28_b12, q28_b13, q28_b14, q28_b15] by simp)
  have n_q5_a_q28_b15 := gD_ne hD_8 m_q5_a (show q28_b15 ∈ [q28_b0, q28_b1, q28_b2, q28_b3, q28_b4, q28_b5, q28_b6, q28_b7, q28_b8, q28_b9, q28_b10, q28_b11, q28_b12, q28_b13, q28_b14, q28_b15] by simp)
  have n_q17_q28_b15 := gD_ne hD_8 m_q17 (show q28_b15 ∈ [q28_b0, q28_b1, q28_b2, q28_b3, q28_b4, q28_b5, q28_b6, q28_b7, q28_b8, q28_b9, q28_b10, q28_b11, q28_b12, q28_b13, q28_b14, q28_b15] by simp)
  have n_q17_r_q28_b15 := gD_ne hD_8 m_q17_r (show q28_b15 ∈ [q28_b0, q28_b1, q28_b2, q28_b3, q28_b4, q28_b5, q28_b6, q28_b7, q28_b8, q28_b9, q28_b10, q28_b11, q28_b12, q28_b13, q28_b14, q28_b15] by simp)
  have n_q17_a_q28_b15 := gD_ne hD_8 m_q17_a (show q28_b15 ∈ [q28_b0, q28_b1, q28_b2, q28_b3, q28_b4, q28_b5, q28_b6, q28_b7, q28_b8, q28_b9, q28_b10, q28_b11, q28_b12, q28_b13, q28_b14, q28_b15] by simp)
  have n_q28_q28_b15 := gD_ne hD_8 m_q28 (show q28_b15 ∈ [q28_b0, q28_b1, q28_b2, q28_b3, q28_b4, q28_b5, q28_b6, q28_b7, q28_b8, q28_b9, q28_b10, q28_b11, q28_b12, q28_b13, q28_b14, q28_b15] by simp)
  have nL_q28_b15 : ∀ x ∈ L, x ≠ q28_b15 := fun x hx => gD_ne hD_8 (inc x hx) (show q28_b15 ∈ [q28_b0, q28_b1, q28_b2, q28_b3, q28_b4, q28_b5, q28_b6, q28_b7, q28_b8, q28_b9, q28_b10, q28_b11, q28_b12, q28_b13, q28_b14, q28_b15] by simp)
  have e_h := (fr_n h m_h n_h_q28).trans e_h
  have e_q5 := (fr_n q5 m_q5 n_q5_q28).trans e_q5
  have e_q5_a := (fr_n q5_a m_q5_a n_q5_a_q28).trans e_q5_a
  have e_q17 := (fr_n q17 m_q17 n_q17_q28).trans e_q17
  have e_q17_r := (fr_n q17_r m_q17_r n_q17_r_q28).trans e_q17_r
  have e_q17_a := (fr_n q17_a m_q17_a n_q17_a_q28).trans e_q17_a
  have e_q28 := e_q28_n
  have fr : ∀ x ∈ L, x ≠ h → f_8 x = f x := fun x hx hne => (fr_n x (inc x hx) (nL_q28 x hx)).trans (fr x hx hne)
  have m_h : h ∈ ((((((L ++ [q5]) ++ [q5_a]) ++ [q17]) ++ [q17_r, q17_a]) ++ [q28]) ++ [q28_b0, q28_b1, q28_b2, q28_b3, q28_b4, q28_b5, q28_b6, q28_b7, q28_b8, q28_b9, q28_b10, q28_b11, q28_b12, q28_b13, q28_b14, q28_b15]) := List.mem_append_left _ m_h
  have m_q5 : q5 ∈ ((((((L ++ [q5]) ++ [q5_a]) ++ [q17]) ++ [q17_r, q17_a]) ++ [q28]) ++ [q28_b0, q28_b1, q28_b2, q28_b3, q28_b4, q28_b5, q28_b6, q28_b7, q28_b8, q28_b9, q28_b10, q28_b11, q28_b12, q28_b13, q28_b14, q28_b15]) := List.mem_append_left _ m_q5
  have m_q5_a : q5_a ∈ ((((((L ++ [q5]) ++ [q5_a]) ++ [q17]) ++ [q17_r, q17_a]) ++ [q28]) ++ [q28_b0, q28_b1, q28_b2, q28_b3, q28_b4, q28_b5, q28_b6, q28_b7, q28_b8, q28_b9, q28_b10, q28_b11, q28_b12, q28_b13, q28_b14, q28_b15]) := List.mem_append_left _ m_q5_a
  have m_q17 : q17 ∈ ((((((L ++ [q5]) ++ [q5_a]) ++ [q17]) ++ [q17_r, q17_a]) ++ [q28]) ++ [q28_b0, q28_b1, q28_b2, q28_b3, q28_b4, q28_b5, q28_b6, q28_b7, q28_b8, q28_b9, q28_b10, q28_b11, q28_b12, q28_b13, q28_b14, q28_b15]) := List.mem_append_left _ m_q17
  have m_q17_r : q17_r ∈ ((((((L ++ [q5]) ++ [q5_a]) ++ [q17]) ++ [q17_r, q17_a]) ++ [q28]) ++ [q28_b0, q28_b1, q28_b2, q28_b3, q28_b4, q28_b5, q28_b6, q28_b7, q28_b8, q28_b9, q28_b10, q28_b11, q28_b12, q28_b13, q28_b14, q28_b15]) := List.mem_append_left _ m_q17_r
  have m_q17_a : q17_a ∈ ((((((L ++ [q5]) ++ [q5_a]) ++ [q17]) ++ [q17_r, q17_a]) ++ [q28]) ++ [q28_b0, q28_b1, q28_b2, q28_b3, q28_b4, q28_b5, q28_b6, q28_b7, q28_b8, q28_b9, q28_b10, q28_b11, q28_b12, q28_b13, q28_b14, q28_b15]) := List.mem_append_left _ m_q17_a
  have m_q28 : q28 ∈ ((((((L ++ [q5]) ++ [q5_a]) ++ [q17]) ++ [q17_r, q17_a]) ++ [q28]) ++ [q28_b0, q28_b1, q28_b2, q28_b3, q28_b4, q28_b5, q28_b6, q28_b7, q28_b8, q28_b9, q28_b10, q28_b11, q28_b12, q28_b13, q28_b14, q28_b15]) := List.mem_append_left _ m_q28
  have inc : ∀ x ∈ L, x ∈ ((((((L ++ [q5]) ++ [q5_a]) ++ [q17]) ++ [q17_r, q17_a]) ++ [q28]) ++ [q28_b0, q28_b1, q28_b2, q28_b3, q28_b4, q28_b5, q28_b6, q28_b7, q28_b8, q28_b9, q28_b10, q28_b11, q28_b12, q28_b13, q28_b14, q28_b15]) := fun x hx => List.mem_append_left _ (inc x hx)
  have m_q28_b0 : q28_b0 ∈ ((((((L ++ [q5]) ++ [q5_a]) ++ [q17]) ++ [q17_r, q17_a]) ++ [q28]) ++ [q28_b0, q28_b1, q28_b2, q28_b3, q28_b4, q28_b5, q28_b6, q28_b7, q28_b8, q28_b9, q28_b10, q28_b11, q28_b12, q28_b13, q28_b14, q28_b15]) := List.mem_append_right _ (by simp)
  have m_q28_b1 : q28_b1 ∈ ((((((L ++ [q5]) ++ [q5_a]) ++ [q17]) ++ [q17_r, q17_a]) ++ [q28]) ++ [q28_b0, q28_b1, q28_b2, q28_b3, q28_b4, q28_b5, q28_b6, q28_b7, q28_b8, q28_b9, q28_b10, q28_b11, q28_b12, q28_b13, q28_b14, q28_b15]) := List.mem_append_right _ (by simp)
  have m_q28_b2 : q28_b2 ∈ ((((((L ++ [q5]) ++ [q5_a]) ++ [q17]) ++ [q17_r, q17_a]) ++ [q28]) ++ [q28_b0, q28_b1, q28_b2, q28_b3, q28_b4, q28_b5, q28_b6, q28_b7, q28_b8, q28_b9, q28_b10, q28_b11, q28_b12, q28_b13, q28_b14, q28_b15]) := List.mem_append_right _ (by simp)
  have m_q28_b3 : q28_b3 ∈ ((((((L ++ [q5]) ++ [q5_a]) ++ [q17]) ++ [q17_r, q17_a]) ++ [q28]) ++ [q28_b0, q28_b1, q28_b2, q28_b3, q28_b4, q28_b5, q28_b6, q28_b7, q28_b8, q28_b9, q28_b10, q28_b11, q28_b12, q28_b13, q28_b14, q28_b15]) := List.mem_append_right _ (by simp)
  have m_q28_b4 : q28_b4 ∈ ((((((L ++ [q5]) ++ [q5_a]) ++ [q17]) ++ [q17_r, q17_a]) ++ [q28]) ++ [q28_b0, q28_b1, q28_b2, q28_b3, q28_b4, q28_b5, q28_b6, q28_b7, q28_b8, q28_b9, q28_b10, q28_b11, q28_b12, q28_b13, q28_b14, q28_b15]) := List.mem_append_right _ (by simp)
  have m_q28_b5 : q28_b5 ∈ ((((((L ++ [q5]) ++ [q5_a]) ++ [q17]) ++ [q17_r, q17_a]) ++ [q28]) ++ [q28_b0, q28_b1, q28_b2, q28_b3, q28_b4, q28_b5, q28_b6, q28_b7, q28_b8, q28_b9, q28_b10, q28_b11, q28_b12, q28_b13, q28_b14, q28_b15]) := List.mem_append_right _ (by simp)
  have m_q28_b6 : q28_b6 ∈ ((((((L ++ [q5]) ++ [q5_a]) ++ [q17]) ++ [q17_r, q17_a]) ++ [q28]) ++ [q28_b0, q28_b1, q28_b2, q28_b3, q28_b4, q28_b5, q28_b6, q28_b7, q28_b8, q28_b9, q28_b10, q28_b11, q28_b12, q28_b13, q28_b14, q28_b15]) := List.mem_append_right _ (by simp)
  have m_q28_b7 : q28_b7 ∈ ((((((L ++ [q5]) ++ [q5_a]) ++ [q17]) ++ [q17_r, q17_a]) ++ [q28]) ++ [q28_b0, q28_b1, q28_b2, q28_b3, q28_b4, q28_b5, q28_b6, q28_b7, q28_b8, q28_b9, q28_b10, q28_b11, q28_b12, q28_b13, q28_b14, q28_b15]) := List.mem_append_right _ (by simp)
  have m_q28_b8 : q28_b8 ∈ ((((((L ++ [q5]) ++ [q5_a]) ++ [q17]) ++ [q17_r, q17_a]) ++ [q28]) ++ [q28_b0, q28_b1, q28_b2, q28_b3, q28_b4, q28_b5, q28_b6, q28_b7, q28_b8, q28_b9, q28_b10, q28_b11, q28_b12, q28_b13, q28_b14, q28_b15]) := List.mem_append_right _ (by simp)
  have m_q28_b9 : q28_b9 ∈ ((((((L ++ [q5]) ++ [q5_a]) ++ [q17]) ++ [q17_r, q17_a]) ++ [q28]) ++ [q28_b0, q28_b1, q28_b2, q28_b3, q28_b4, q28_b5, q28_b6, q28_b7, q28_b8, q28_b9, q28_b10, q28_b11, q28_b12, q28_b13, q28_b14, q28_b15]) := List.mem_append_right _ (by simp)
  have m_q28_b10 : q28_b10 ∈ ((((((L ++ [q5]) ++ [q5_a]) ++ [q17]) ++ [q17_r, q17_a]) ++ [q28]) ++ [q28_b0, q28_b1, q28_b2, q28_b3, q28_b4, q28_b5, q28_b6, q28_b7, q28_b8, q28_b9, q28_b10, q28_b11, q28_b12, q28_b13, q28_b14, q28_b15]) := List.mem_append_right _ (by simp)
  have m_q28_b11 : q28_b11 ∈ ((((((L ++ [q5]) ++ [q5_a]) ++ [q17]) ++ [q17_r, q17_a]) ++ [q28]) ++ [q28_b0, q28_b1, q28_b2, q28_b3, q28_b4, q28_b5, q28_b6, q28_b7, q28_b8, q28_b9, q28_b10, q28_b11, q28_b12, q28_b13, q28_b14, q28_b15]) := List.mem_append_right _ (by simp)
  have m_q28_b12 : q28_b12 ∈ ((((((L ++ [q5]) ++ [q5_a]) ++ [q17]) ++ [q17_r, q17_a]) ++ [q28]) ++ [q28_b0, q28_b1, q28_b2, q28_b3, q28_b4, q28_b5, q28_b6, q28_b7, q28_b8, q28_b9, q28_b10, q28_b11, q28_b12, q28_b13, q28_b14, q28_b15]) := List.mem_append_right _ (by simp)
  have m_q28_b13 : q28_b13 ∈ ((((((L ++ [q5]) ++ [q5_a]) ++ [q17]) ++ [q17_r, q17_a]) ++ [q28]) ++ [q28_b0, q28_b1, q28_b2, q28_b3, q28_b4, q28_b5, q28_b6, q28_b7, q28_b8, q28_b9, q28_b10, q28_b11, q28_b12, q28_b13, q28_b14, q28_b15]) := List.mem_append_right _ (by simp)
  have m_q28_b14 : q28_b14 ∈ ((((((L ++ [q5]) ++ [q5_a]) ++ [q17]) ++ [q17_r, q17_a]) ++ [q28]) ++ [q28_b0, q28_b1, q28_b2, q28_b3, q28_b4, q28_b5, q28_b6, q28_b7, q28_b8, q28_b9, q28_b10, q28_b11, q28_b12, q28_b13, q28_b14, q28_b15]) := List.mem_append_right _ (by simp)
  have m_q28_b15 : q28_b15 ∈ ((((((L ++ [q5]) ++ [q5_a]) ++ [q17]) ++ [q17_r, q17_a]) ++ [q28]) ++ [q28_b0, q28_b1, q28_b2, q28_b3, q28_b4, q28_b5, q28_b6, q28_b7, q28_b8, q28_b9, q28_b10, q28_b11, q28_b12, q28_b13, q28_b14, q28_b15]) := List.mem_append_right _ (by simp)
  refine gx_putF C hD_8 (i := 2) (ty := (.object RX3)) tyX5_ok nmX5 m_h e_h rfl in_X5_init_5 (by decide) fl_X5_init_30 rfl hin rfl (by decide +kernel) rfl rfl (Nat.le_of_ble_eq_true rfl) rfl dX5_init_35 ?_
  refine gx_gen (fun f_9 hf_9 => ?_)
  have e_q5 := (show f_9 q5 = f_8 q5 by rw [hf_9, va_up_of _ (Ne.symm n_h_q5)]).trans e_q5
  have e_q5_a := (show f_9 q5_a = f_8 q5_a by rw [hf_9, va_up_of _ (Ne.symm n_h_q5_a)]).trans e_q5_a
  have e_q17 := (show f_9 q17 = f_8 q17 by rw [hf_9, va_up_of _ (Ne.symm n_h_q17)]).trans e_q17
  have e_q17_r := (show f_9 q17_r = f_8 q17_r by rw [hf_9, va_up_of _ (Ne.symm n_h_q17_r)]).trans e_q17_r
  have e_q17_a := (show f_9 q17_a = f_8 q17_a by rw [hf_9, va_up_of _ (Ne.symm n_h_q17_a)]).trans e_q17_a
  have e_q28 := (show f_9 q28 = f_8 q28 by rw [hf_9, va_up_of _ (Ne.symm n_h_q28)]).trans e_q28
  have e_q28_b0 := (show f_9 q28_b0 = f_8 q28_b0 by rw [hf_9, va_up_of _ (Ne.symm n_h_q28_b0)]).trans e_q28_b0
  have e_q28_b1 := (show f_9 q28_b1 = f_8 q28_b1 by rw [hf_9, va_up_of _ (Ne.symm n_h_q28_b1)]).trans e_q28_b1
  have e_q28_b2 := (show f_9 q28_b2 = f_8 q28_b2 by rw [hf_9, va_up_of _ (Ne.symm n_h_q28_b2)]).trans e_q28_b2
  have e_q28_b3 := (show f_9 q28_b3 = f_8 q28_b3 by rw [hf_9, va_up_of _ (Ne.symm n_h_q28_b3)]).trans e_q28_b3
  have e_q28_b4 := (show f_9 q28_b4 = f_8 q28_b4 by rw [hf_9, va_up_of _ (Ne.symm n_h_q28_b4)]).trans e_q28_b4
  have e_q28_b5 := (show f_9 q28_b5 = f_8 q28_b5 by rw [hf_9, va_up_of _ (Ne.symm n_h_q28_b5)]).trans e_q28_b5
  have e_q28_b6 := (show f_9 q28_b6 = f_8 q28_b6 by rw [hf_9, va_up_of _ (Ne.symm n_h_q28_b6)]).trans e_q28_b6
  have e_q28_b7 := (show f_9 q28_b7 = f_8 q28_b7 by rw [hf_9, va_up_of _ (Ne.symm n_h_q28_b7)]).trans e_q28_b7
  have e_q28_b8 := (show f_9 q28_b8 = f_8 q28_b8 by rw [hf_9, va_up_of _ (Ne.symm n_h_q28_b8)]).trans e_q28_b8
  have e_q28_b9 := (show f_9 q28_b9 = f_8 q28_b9 by rw [hf_9, va_up_of _ (Ne.symm n_h_q28_b9)]).trans e_q28_b9
  have e_q28_b10 := (show f_9 q28_b10 = f_8 q28_b10 by rw [hf_9, va_up_of _ (Ne.symm n_h_q28_b10)]).trans e_q28_b10
  have e_q28_b11 := (show f_9 q28_b11 = f_8 q28_b11 by rw [hf_9, va_up_of _ (Ne.symm n_h_q28_b11)]).trans e_q28_b11
  have e_q28_b12 := (show f_9 q28_b12 = f_8 q28_b12 by rw [hf_9, va_up_of _ (Ne.symm n_h_q28_b12)]).trans e_q28_b12
  have e_q28_b13 := (show f_9 q28_b13 = f_8 q28_b13 by rw [hf_9, va_up_of _ (Ne.symm n_h_q28_b13)]).trans e_q28_b13
  have e_q28_b14 := (show f_9 q28_b14 = f_8 q28_b14 by rw [hf_9, va_up_of _ (Ne.symm n_h_q28_b14)]).trans e_q28_b14
  have e_q28_b15 := (show f_9 q28_b15 = f_8 q28_b15 by rw [hf_9, va_up_of _ (Ne.symm n_h_q28_b15)]).trans e_q28_b15
  have fr : ∀ x ∈ L, x ≠ h → f_9 x = f x := fun x hx hne => (show f_9 x = f_8 x by rw [hf_9, va_up_of _ hne]).trans (fr x hx hne)
  have e_h : f_9 h = .inr (5, [.ref q5, .ref q17, .ref q28, .null, .null, .int 0, .int 0, .int 0]) := by rw [hf_9, va_up_at] <;> rfl
  refine gx_aload_n (q := 0) C dX5_init_38 rfl ?_
  refine gx_new C hD_8 hA (ci := 4) (fs := [.null]) tyX4_ok rfl in_X5_init_4 wd_X5_init_cl9 wd_X5_init_inRX4 wd_X5_init_iiRX4 (fun j hj => by rcases (show j = 0 by omega) with rfl; rfl) (Nat.le_of_ble_eq_true rfl) (Nat.le_of_ble_eq_true rfl) dX5_init_39 (fun q39 hD_q39 => ?_)
  refine gx_gen (fun f_10 hf_10 => ?_)
  have n_h_q39 := gD_ne hD_q39 m_h (List.mem_singleton.mpr rfl)
  have n_q5_q39 := gD_ne hD_q39 m_q5 (List.mem_singleton.mpr rfl)
  have n_q5_a_q39 := gD_ne hD_q39 m_q5_a (List.mem_singleton.mpr rfl)
  have n_q17_q39 := gD_ne hD_q39 m_q17 (List.mem_singleton.mpr rfl)
  have n_q17_r_q39 := gD_ne hD_q39 m_q17_r (List.mem_singleton.mpr rfl)
  have n_q17_a_q39 := gD_ne hD_q39 m_q17_a (List.mem_singleton.mpr rfl)
  have n_q28_q39 := gD_ne hD_q39 m_q28 (List.mem_singleton.mpr rfl)
  have n_q28_b0_q39 := gD_ne hD_q39 m_q28_b0 (List.mem_singleton.mpr rfl)
  have n_q28_b1_q39 := gD_ne hD_q39 m_q28_b1 (List.mem_singleton.mpr rfl)
  have n_q28_b2_q39 := gD_ne hD_q39 m_q28_b2 (List.mem_singleton.mpr rfl)
  have n_q28_b3_q39 := gD_ne hD_q39 m_q28_b3 (List.mem_singleton.mpr rfl)
  have n_q28_b4_q39 := gD_ne hD_q39 m_q28_b4 (List.mem_singleton.mpr rfl)
  have n_q28_b5_q39 := gD_ne hD_q39 m_q28_b5 (List.mem_singleton.mpr rfl)
  have n_q28_b6_q39 := gD_ne hD_q39 m_q28_b6 (List.mem_singleton.mpr rfl)
  have n_q28_b7_q39 := gD_ne hD_q39 m_q28_b7 (List.mem_singleton.mpr rfl)
  have n_q28_b8_q39 := gD_ne hD_q39 m_q28_b8 (List.mem_singleton.mpr rfl)
  have n_q28_b9_q39 := gD_ne hD_q39 m_q28_b9 (List.mem_singleton.mpr rfl)
  have n_q28_b10_q39 := gD_ne hD_q39 m_q28_b10 (List.mem_singleton.mpr rfl)
  have n_q28_b11_q39 := gD_ne hD_q39 m_q28_b11 (List.mem_singleton.mpr rfl)
  have n_q28_b12_q39 := gD_ne hD_q39 m_q28_b12 (List.mem_singleton.mpr rfl)
  have n_q28_b13_q39 := gD_ne hD_q39 m_q28_b13 (List.mem_singleton.mpr rfl)
  have n_q28_b14_q39 := gD_ne hD_q39 m_q28_b14 (List.mem_singleton.mpr rfl)
  have n_q28_b15_q39 := gD_ne hD_q39 m_q28_b15 (List.mem_singleton.mpr rfl)
  have nL_q39 : ∀ x ∈ L, x ≠ q39 := fun x hx => gD_ne hD_q39 (inc x hx) (List.mem_singleton.mpr rfl)
  have e_h := (show f_10 h = f_9 h by rw [hf_10, va_up_of _ n_h_q39]).trans e_h
  have m_h := List.mem_append_left [q39] m_h
  have e_q5 := (show f_10 q5 = f_9 q5 by rw [hf_10, va_up_of _ n_q5_q39]).trans e_q5
  have m_q5 := List.mem_append_left [q39] m_q5
  have e_q5_a := (show f_10 q5_a = f_9 q5_a by rw [hf_10, va_up_of _ n_q5_a_q39]).trans e_q5_a
  have m_q5_a := List.mem_append_left [q39] m_q5_a
  have e_q17 := (show f_10 q17 = f_9 q17 by rw [hf_10, va_up_of _ n_q17_q39]).trans e_q17
  have m_q17 := List.mem_append_left [q39] m_q17
  have e_q17_r := (show f_10 q17_r = f_9 q17_r by rw [hf_10, va_up_of _ n_q17_r_q39]).trans e_q17_r
  have m_q17_r := List.mem_append_left [q39] m_q17_r
  have e_q17_a := (show f_10 q17_a = f_9 q17_a by rw [hf_10, va_up_of _ n_q17_a_q39]).trans e_q17_a
  have m_q17_a := List.mem_append_left [q39] m_q17_a
  have e_q28 := (show f_10 q28 = f_9 q28 by rw [hf_10, va_up_of _ n_q28_q39]).trans e_q28
  have m_q28 := List.mem_append_left [q39] m_q28
  have e_q28_b0 := (show f_10 q28_b0 = f_9 q28_b0 by rw [hf_10, va_up_of _ n_q28_b0_q39]).trans e_q28_b0
  have m_q28_b0 := List.mem_append_left [q39] m_q28_b0
  have e_q28_b1 := (show f_10 q28_b1 = f_9 q28_b1 by rw [hf_10, va_up_of _ n_q28_b1_q39]).trans e_q28_b1
  have m_q28_b1 := List.mem_append_left [q39] m_q28_b1
  have e_q28_b2 := (show f_10 q28_b2 = f_9 q28_b2 by rw [hf_10, va_up_of _ n_q28_b2_q39]).trans e_q28_b2
  have m_q28_b2 := List.mem_append_left [q39] m_q28_b2
  have e_q28_b3 := (show f_10 q28_b3 = f_9 q28_b3 by rw [hf_10, va_up_of _ n_q28_b3_q39]).trans e_q28_b3
  have m_q28_b3 := List.mem_append_left [q39] m_q28_b3
  have e_q28_b4 := (show f_10 q28_b4 = f_9 q28_b4 by rw [hf_10, va_up_of _ n_q28_b4_q39]).trans e_q28_b4
  have m_q28_b4 := List.mem_append_left [q39] m_q28_b4
  have e_q28_b5 := (show f_10 q28_b5 = f_9 q28_b5 by rw [hf_10, va_up_of _ n_q28_b5_q39]).trans e_q28_b5
  have m_q28_b5 := List.mem_append_left [q39] m_q28_b5
  have e_q28_b6 := (show f_10 q28_b6 = f_9 q28_b6 by rw [hf_10, va_up_of _ n_q28_b6_q39]).trans e_q28_b6
  have m_q28_b6 := List.mem_append_left [q39] m_q28_b6
  have e_q28_b7 := (show f_10 q28_b7 = f_9 q28_b7 by rw [hf_10, va_up_of _ n_q28_b7_q39]).trans e_q28_b7
  have m_q28_b7 := List.mem_append_left [q39] m_q28_b7
  have e_q28_b8 := (show f_10 q28_b8 = f_9 q28_b8 by rw [hf_10, va_up_of _ n_q28_b8_q39]).trans e_q28_b8
  have m_q28_b8 := List.mem_append_left [q39] m_q28_b8
  have e_q28_b9 := (show f_10 q28_b9 = f_9 q28_b9 by rw [hf_10, va_up_of _ n_q28_b9_q39]).trans e_q28_b9
  have m_q28_b9 := List.mem_append_left [q39] m_q28_b9
  have e_q28_b10 := (show f_10 q28_b10 = f_9 q28_b10 by rw [hf_10, va_up_of _ n_q28_b10_q39]).trans e_q28_b10
  have m_q28_b10 := List.mem_append_left [q39] m_q28_b10
  have e_q28_b11 := (show f_10 q28_b11 = f_9 q28_b11 by rw [hf_10, va_up_of _ n_q28_b11_q39]).trans e_q28_b11
  have m_q28_b11 := List.mem_append_left [q39] m_q28_b11
  have e_q28_b12 := (show f_10 q28_b12 = f_9 q28_b12 by rw [hf_10, va_up_of _ n_q28_b12_q39]).trans e_q28_b12
  have m_q28_b12 := List.mem_append_left [q39] m_q28_b12
  have e_q28_b13 := (show f_10 q28_b13 = f_9 q28_b13 by rw [hf_10, va_up_of _ n_q28_b13_q39]).trans e_q28_b13
  have m_q28_b13 := List.mem_append_left [q39] m_q28_b13
  have e_q28_b14 := (show f_10 q28_b14 = f_9 q28_b14 by rw [hf_10, va_up_of _ n_q28_b14_q39]).trans e_q28_b14
  have m_q28_b14 := List.mem_append_left [q39] m_q28_b14
  have e_q28_b15 := (show f_10 q28_b15 = f_9 q28_b15 by rw [hf_10, va_up_of _ n_q28_b15_q39]).trans e_q28_b15
  have m_q28_b15 := List.mem_append_left [q39] m_q28_b15
  have fr : ∀ x ∈ L, x ≠ h → f_10 x = f x := fun x hx hne => (show f_10 x = f_9 x by rw [hf_10, va_up_of _ (nL_q39 x hx)]).trans (fr x hx hne)
  have inc : ∀ x ∈ L, x ∈ (((((((L ++ [q5]) ++ [q5_a]) ++ [q17]) ++ [q17_r, q17_a]) ++ [q28]) ++ [q28_b0, q28_b1, q28_b2, q28_b3, q28_b4, q28_b5, q28_b6, q28_b7, q28_b8, q28_b9, q28_b10, q28_b11, q28_b12, q28_b13, q28_b14, q28_b15]) ++ [q39]) := fun x hx => List.mem_append_left _ (inc x hx)
  have m_q39 : q39 ∈ (((((((L ++ [q5]) ++ [q5_a]) ++ [q17]) ++ [q17_r, q17_a]) ++ [q28]) ++ [q28_b0, q28_b1, q28_b2, q28_b3, q28_b4, q28_b5, q28_b6, q28_b7, q28_b8, q28_b9, q28_b10, q28_b11, q28_b12, q28_b13, q28_b14, q28_b15]) ++ [q39]) := List.mem_append_right _ (List.mem_singleton.mpr rfl)
  have e_q39 : f_10 q39 = .inr (4, [.null]) := by rw [hf_10, va_up_at]
  refine gx_dup C rfl dX5_init_42 ?_
  refine gx_iconst (v := 4) C dX5_init_43 (by decide) ?_
  refine gx_callI C hAO hD_q39 hA (k_X4_init l hD_q39.1 m_q39 e_q39 (n := 4) (Nat.le_of_ble_eq_true rfl)) (cwI 1 C.2.2.2.2.1 gX5_init_X4_init rfl rfl rfl (C.2.2.2.2.1 _ wd_X5_init_iniRX4) (C.2.2.2.2.1 _ wd_X5_init_ml11) (C.2.2.2.2.1 _ wd_X5_init_im_X4_init) rfl kdN_X4_init ⟨Nat.le_of_ble_eq_true rfl, Nat.le_of_ble_eq_true rfl⟩) rfl rfl (Nat.le_of_ble_eq_true rfl) ⟨(Nat.le_of_ble_eq_true rfl), (Nat.le_of_ble_eq_true rfl)⟩ dX5_init_44 (fun v_11 N_11 f_11 hp_11 hD_11 => ?_)
  obtain ⟨rfl, q39_a, rfl, e_q39_n, e_q39_a, fr_n⟩ := hp_11
  refine gx_nil ?_
  have n_h_q39_a := gD_ne hD_11 m_h (show q39_a ∈ [q39_a] by simp)
  have n_q5_q39_a := gD_ne hD_11 m_q5 (show q39_a ∈ [q39_a] by simp)
  have n_q5_a_q39_a := gD_ne hD_11 m_q5_a (show q39_a ∈ [q39_a] by simp)
  have n_q17_q39_a := gD_ne hD_11 m_q17 (show q39_a ∈ [q39_a] by simp)
  have n_q17_r_q39_a := gD_ne hD_11 m_q17_r (show q39_a ∈ [q39_a] by simp)
  have n_q17_a_q39_a := gD_ne hD_11 m_q17_a (show q39_a ∈ [q39_a] by simp)
  have n_q28_q39_a := gD_ne hD_11 m_q28 (show q39_a ∈ [q39_a] by simp)
  have n_q28_b0_q39_a := gD_ne hD_11 m_q28_b0 (show q39_a ∈ [q39_a] by simp)
  have n_q28_b1_q39_a := gD_ne hD_11 m_q28_b1 (show q39_a ∈ [q39_a] by simp)
  have n_q28_b2_q39_a := gD_ne hD_11 m_q28_b2 (show q39_a ∈ [q39_a] by simp)
  have n_q28_b3_q39_a := gD_ne hD_11 m_q28_b3 (show q39_a ∈ [q39_a] by simp)
  have n_q28_b4_q39_a := gD_ne hD_11 m_q28_b4 (show q39_a ∈ [q39_a] by simp)
  have n_q28_b5_q39_a := gD_ne hD_11 m_q28_b5 (show q39_a ∈ [q39_a] by simp)
  have n_q28_b6_q39_a := gD_ne hD_11 m_q28_b6 (show q39_a ∈ [q39_a] by simp)
  have n_q28_b7_q39_a := gD_ne hD_11 m_q28_b7 (show q39_a ∈ [q39_a] by simp)
  have n_q28_b8_q39_a := gD_ne hD_11 m_q28_b8 (show q39_a ∈ [q39_a] by simp)
  have n_q28_b9_q39_a := gD_ne hD_11 m_q28_b9 (show q39_a ∈ [q39_a] by simp)
  have n_q28_b10_q39_a := gD_ne hD_11 m_q28_b10 (show q39_a ∈ [q39_a] by simp)
  have n_q28_b11_q39_a := gD_ne hD_11 m_q28_b11 (show q39_a ∈ [q39_a] by simp)
  have n_q28_b12_q39_a := gD_ne hD_11 m_q28_b12 (show q39_a ∈ [q39_a] by simp)
  have n_q28_b13_q39_a := gD_ne hD_11 m_q28_b13 (show q39_a ∈ [q39_a] by simp)
  have n_q28_b14_q39_a := gD_ne hD_11 m_q28_b14 (show q39_a ∈ [q39_a] by simp)
  have n_q28_b15_q39_a := gD_ne hD_11 m_q28_b15 (show q39_a ∈ [q39_a] by simp)
  have n_q39_q39_a := gD_ne hD_11 m_q39 (show q39_a ∈ [q39_a] by simp)
  have nL_q39_a : ∀ x ∈ L, x ≠ q39_a := fun x hx => gD_ne hD_11 (inc x hx) (show q39_a ∈ [q39_a] by simp)
  have e_h := (fr_n h m_h n_h_q39).trans e_h
  have e_q5 := (fr_n q5 m_q5 n_q5_q39).trans e_q5
  have e_q5_a := (fr_n q5_a m_q5_a n_q5_a_q39).trans e_q5_a
  have e_q17 := (fr_n q17 m_q17 n_q17_q39).trans e_q17
  have e_q17_r := (fr_n q17_r m_q17_r n_q17_r_q39).trans e_q17_r
  have e_q17_a := (fr_n q17_a m_q17_a n_q17_a_q39).trans e_q17_a
  have e_q28 := (fr_n q28 m_q28 n_q28_q39).trans e_q28
  have e_q28_b0 := (fr_n q28_b0 m_q28_b0 n_q28_b0_q39).trans e_q28_b0
  have e_q28_b1 := (fr_n q28_b1 m_q28_b1 n_q28_b1_q39).trans e_q28_b1
  have e_q28_b2 := (fr_n q28_b2 m_q28_b2 n_q28_b2_q39).trans e_q28_b2
  have e_q28_b3 := (fr_n q28_b3 m_q28_b3 n_q28_b3_q39).trans e_q28_b3
  have e_q28_b4 := (fr_n q28_b4 m_q28_b4 n_q28_b4_q39).trans e_q28_b4
  have e_q28_b5 := (fr_n q28_b5 m_q28_b5 n_q28_b5_q39).trans e_q28_b5
  have e_q28_b6 := (fr_n q28_b6 m_q28_b6 n_q28_b6_q39).trans e_q28_b6
  have e_q28_b7 := (fr_n q28_b7 m_q28_b7 n_q28_b7_q39).trans e_q28_b7
  have e_q28_b8 := (fr_n q28_b8 m_q28_b8 n_q28_b8_q39).trans e_q28_b8
  have e_q28_b9 := (fr_n q28_b9 m_q28_b9 n_q28_b9_q39).trans e_q28_b9
  have e_q28_b10 := (fr_n q28_b10 m_q28_b10 n_q28_b10_q39).trans e_q28_b10
  have e_q28_b11 := (fr_n q28_b11 m_q28_b11 n_q28_b11_q39).trans e_q28_b11
  have e_q28_b12 := (fr_n q28_b12 m_q28_b12 n_q28_b12_q39).trans e_q28_b12
  have e_q28_b13 := (fr_n q28_b13 m_q28_b13 n_q28_b13_q39).trans e_q28_b13
  have e_q28_b14 := (fr_n q28_b14 m_q28_b14 n_q28_b14_q39).trans e_q28_b14
  have e_q28_b15 := (fr_n q28_b15 m_q28_b15 n_q28_b15_q39).trans e_q28_b15
  have e_q39 := e_q39_n
  have fr : ∀ x ∈ L, x ≠ h → f_11 x = f x := fun x hx hne => (fr_n x (inc x hx) (nL_q39 x hx)).trans (fr x hx hne)
  have m_h : h ∈ ((((((((L ++ [q5]) ++ [q5_a]) ++ [q17]) ++ [q17_r, q17_a]) ++ [q28]) ++ [q28_b0, q28_b1, q28_b2, q28_b3, q28_b4, q28_b5, q28_b6, q28_b7, q28_b8, q28_b9, q28_b10, q28_b11, q28_b12, q28_b13, q28_b14, q28_b15]) ++ [q39]) ++ [q39_a]) := List.mem_append_left _ m_h
  have m_q5 : q5 ∈ ((((((((L ++ [q5]) ++ [q5_a]) ++ [q17]) ++ [q17_r, q17_a]) ++ [q28]) ++ [q28_b0, q28_b1, q28_b2, q28_b3, q28_b4, q28_b5, q28_b6, q28_b7, q28_b8, q28_b9, q28_b10, q28_b11, q28_b12, q28_b13, q28_b14, q28_b15]) ++ [q39]) ++ [q39_a]) := List.mem_append_left _ m_q5
  have m_q5_a : q5_a ∈ ((((((((L ++ [q5]) ++ [q5_a]) ++ [q17]) ++ [q17_r, q17_a]) ++ [q28]) ++ [q28_b0, q28_b1, q28_b2, q28_b3, q28_b4, q28_b5, q28_b6, q28_b7, q28_b8, q28_b9, q28_b10, q28_b11, q28_b12, q28_b13, q28_b14, q28_b15]) ++ [q39]) ++ [q39_a]) := List.mem_append_left _ m_q5_a
  have m_q17 : q17 ∈ ((((((((L ++ [q5]) ++ [q5_a]) ++ [q17]) ++ [q17_r, q17_a]) ++ [q28]) ++ [q28_b0, q28_b1, q28_b2, q28_b3, q28_b4, q28_b5, q28_b6, q28_b7, q28_b8, q28_b9, q28_b10, q28_b11, q28_b12, q28_b13, q28_b14, q28_b15]) ++ [q39]) ++ [q39_a]) := List.mem_append_left _ m_q17
  have m_q17_r : q17_r ∈ ((((((((L ++ [q5]) ++ [q5_a]) ++ [q17]) ++ [q17_r, q17_a]) ++ [q28]) ++ [q28_b0, q28_b1, q28_b2, q28_b3, q28_b4, q28_b5, q28_b6, q28_b7, q28_b8, q28_b9, q28_b10, q28_b11, q28_b12, q28_b13, q28_b14, q28_b15]) ++ [q39]) ++ [q39_a]) := List.mem_append_left _ m_q17_r
  have m_q17_a : q17_a ∈ ((((((((L ++ [q5]) ++ [q5_a]) ++ [q17]) ++ [q17_r, q17_a]) ++ [q28]) ++ [q28_b0, q28_b1, q28_b2, q28_b3, q28_b4, q28_b5, q28_b6, q28_b7, q28_b8, q28_b9, q28_b10, q28_b11, q28_b12, q28_b13, q28_b14, q28_b15]) ++ [q39]) ++ [q39_a]) := List.mem_append_left _ m_q17_a
  have m_q28 : q28 ∈ ((((((((L ++ [q5]) ++ [q5_a]) ++ [q17]) ++ [q17_r, q17_a]) ++ [q28]) ++ [q28_b0, q28_b1, q28_b2, q28_b3, q28_b4, q28_b5, q28_b6, q28_b7, q28_b8, q28_b9, q28_b10, q28_b11, q28_b12, q28_b13, q28_b14, q28_b15]) ++ [q39]) ++ [q39_a]) := List.mem_append_left _ m_q28
  have m_q28_b0 : q28_b0 ∈ ((((((((L ++ [q5]) ++ [q5_a]) ++ [q17]) ++ [q17_r, q17_a]) ++ [q28]) ++ [q28_b0, q28_b1, q28_b2, q28_b3, q28_b4, q28_b5, q28_b6, q28_b7, q28_b8, q28_b9, q28_b10, q28_b11, q28_b12, q28_b13, q28_b14, q28_b15]) ++ [q39]) ++ [q39_a]) := List.mem_append_left _ m_q28_b0
  have m_q28_b1 : q28_b1 ∈ ((((((((L ++ [q5]) ++ [q5_a]) ++ [q17]) ++ [q17_r, q17_a]) ++ [q28]) ++ [q28_b0, q28_b1, q28_b2, q28_b3, q28_b4, q28_b5, q28_b6, q28_b7, q28_b8, q28_b9, q28_b10, q28_b11, q28_b12, q28_b13, q28_b14, q28_b15]) ++ [q39]) ++ [q39_a]) := List.mem_append_left _ m_q28_b1
  have m_q28_b2 : q28_b2 ∈ ((((((((L ++ [q5]) ++ [q5_a]) ++ [q17]) ++ [q17_r, q17_a]) ++ [q28]) ++ [q28_b0, q28_b1, q28_b2, q28_b3, q28_b4, q28_b5, q28_b6, q28_b7, q28_b8, q28_b9, q28_b10, q28_b11, q28_b12, q28_b13, q28_b14, q28_b15]) ++ [q39]) ++ [q39_a]) := List.mem_append_left _ m_q28_b2
  have m_q28_b3 : q28_b3 ∈ ((((((((L ++ [q5]) ++ [q5_a]) ++ [q17]) ++ [q17_r, q17_a]) ++ [q28]) ++ [q28_b0, q28_b1, q28_b2, q28_b3, q28_b4, q28_b5, q28_b6, q28_b7, q28_b8, q28_b9, q28_b10, q28_b11, q28_b12, q28_b13, q28_b14, q28_b15]) ++ [q39]) ++ [q39_a]) := List.mem_append_left _ m_q28_b3
  have m_q28_b4 : q28_b4 ∈ ((((((((L ++ [q5]) ++ [q5_a]) ++ [q17]) ++ [q17_r, q17_a]) ++ [q28]) ++ [q28_b0, q28_b1, q28_b2, q28_b3, q28_b4, q28_b5, q28_b6, q28_b7, q28_b8, q28_b9, q28_b10, q28_b11, q28_b12, q28_b13, q28_b14, q28_b15]) ++ [q39]) ++ [q39_a]) := List.mem_append_left _ m_q28_b4
  have m_q28_b5 : q28_b5 ∈ ((((((((L ++ [q5]) ++ [q5_a]) ++ [q17]) ++ [q17_r, q17_a]) ++ [q28]) ++ [q28_b0, q28_b1, q28_b2, q28_b3, q28_b4, q28_b5, q28_b6, q28_b7, q28_b8, q28_b9, q28_b10, q28_b11, q28_b12, q28_b13, q28_b14, q28_b15]) ++ [q39]) ++ [q39_a]) := List.mem_append_left _ m_q28_b5
  have m_q28_b6 : q28_b6 ∈ ((((((((L ++ [q5]) ++ [q5_a]) ++ [q17]) ++ [q17_r, q17_a]) ++ [q28]) ++ [q28_b0, q28_b1, q28_b2, q28_b3, q28_b4, q28_b5, q28_b6, q28_b7, q28_b8, q28_b9, q28_b10, q28_b11, q28_b12, q28_b13, q28_b14, q28_b15]) ++ [q39]) ++ [q39_a]) := List.mem_append_left _ m_q28_b6
  have m_q28_b7 : q28_b7 ∈ ((((((((L ++ [q5]) ++ [q5_a]) ++ [q17]) ++ [q17_r, q17_a]) ++ [q28]) ++ [q28_b0, q28_b1, q28_b2, q28_b3, q28_b4, q28_b5, q28_b6, q28_b7, q28_b8, q28_b9, q28_b10, q28_b11, q28_b12, q28_b13, q28_b14, q28_b15]) ++ [q39]) ++ [q39_a]) := List.mem_append_left _ m_q28_b7
  have m_q28_b8 : q28_b8 ∈ ((((((((L ++ [q5]) ++ [q5_a]) ++ [q17]) ++ [q17_r, q17_a]) ++ [q28]) ++ [q28_b0, q28_b1, q28_b2, q28_b3, q28_b4, q28_b5, q28_b6, q28_b7, q28_b8, q28_b9, q28_b10, q28_b11, q28_b12, q28_b13, q28_b14, q28_b15]) ++ [q39]) ++ [q39_a]) := List.mem_append_left _ m_q28_b8
  have m_q28_b9 : q28_b9 ∈ ((((((((L ++ [q5]) ++ [q5_a]) ++ [q17]) ++ [q17_r, q17_a]) ++ [q28]) ++ [q28_b0, q28_b1, q28_b2, q28_b3, q28_b4, q28_b5, q28_b6, q28_b7, q28_b8, q28_b9, q28_b10, q28_b11, q28_b12, q28_b13, q28_b14, q28_b15]) ++ [q39]) ++ [q39_a]) := List.mem_append_left _ m_q28_b9
  have m_q28_b10 : q28_b10 ∈ ((((((((L ++ [q5]) ++ [q5_a]) ++ [q17]) ++ [q17_r, q17_a]) ++ [q28]) ++ [q28_b0, q28_b1, q28_b2, q28_b3, q28_b4, q28_b5, q28_b6, q28_b7, q28_b8, q28_b9, q28_b10, q28_b11, q28_b12, q28_b13, q28_b14, q28_b15]) ++ [q39]) ++ [q39_a]) := List.mem_append_left _ m_q28_b10
  have m_q28_b11 : q28_b11 ∈ ((((((((L ++ [q5]) ++ [q5_a]) ++ [q17]) ++ [q17_r, q17_a]) ++ [q28]) ++ [q28_b0, q28_b1, q28_b2, q28_b3, q28_b4, q28_b5, q28_b6, q28_b7, q28_b8, q28_b9, q28_b10, q28_b11, q28_b12, q28_b13, q28_b14, q28_b15]) ++ [q39]) ++ [q39_a]) := List.mem_append_left _ m_q28_b11
  have m_q28_b12 : q28_b12 ∈ ((((((((L ++ [q5]) ++ [q5_a]) ++ [q17]) ++ [q17_r, q17_a]) ++ [q28]) ++ [q28_b0, q28_b1, q28_b2, q28_b3, q28_b4, q28_b5, q28_b6, q28_b7, q28_b8, q28_b9, q28_b10, q28_b11, q28_b12, q28_b13, q28_b14, q28_b15]) ++ [q39]) ++ [q39_a]) := List.mem_append_left _ m_q28_b12
  have m_q28_b13 : q28_b13 ∈ ((((((((L ++ [q5]) ++ [q5_a]) ++ [q17]) ++ [q17_r, q17_a]) ++ [q28]) ++ [q28_b0, q28_b1, q28_b2, q28_b3, q28_b4, q28_b5, q28_b6, q28_b7, q28_b8, q28_b9, q28_b10, q28_b11, q28_b12, q28_b13, q28_b14, q28_b15]) ++ [q39]) ++ [q39_a]) := List.mem_append_left _ m_q28_b13
  have m_q28_b14 : q28_b14 ∈ ((((((((L ++ [q5]) ++ [q5_a]) ++ [q17]) ++ [q17_r, q17_a]) ++ [q28]) ++ [q28_b0, q28_b1, q28_b2, q28_b3, q28_b4, q28_b5, q28_b6, q28_b7, q28_b8, q28_b9, q28_b10, q28_b11, q28_b12, q28_b13, q28_b14, q28_b15]) ++ [q39]) ++ [q39_a]) := List.mem_append_left _ m_q28_b14
  have m_q28_b15 : q28_b15 ∈ ((((((((L ++ [q5]) ++ [q5_a]) ++ [q17]) ++ [q17_r, q17_a]) ++ [q28]) ++ [q28_b0, q28_b1, q28_b2, q28_b3, q28_b4, q28_b5, q28_b6, q28_b7, q28_b8, q28_b9, q28_b10, q28_b11, q28_b12, q28_b13, q28_b14, q28_b15]) ++ [q39]) ++ [q39_a]) := List.mem_append_left _ m_q28_b15
  have m_q39 : q39 ∈ ((((((((L ++ [q5]) ++ [q5_a]) ++ [q17]) ++ [q17_r, q17_a]) ++ [q28]) ++ [q28_b0, q28_b1, q28_b2, q28_b3, q28_b4, q28_b5, q28_b6, q28_b7, q28_b8, q28_b9, q28_b10, q28_b11, q28_b12, q28_b13, q28_b14, q28_b15]) ++ [q39]) ++ [q39_a]) := List.mem_append_left _ m_q39
  have inc : ∀ x ∈ L, x ∈ ((((((((L ++ [q5]) ++ [q5_a]) ++ [q17]) ++ [q17_r, q17_a]) ++ [q28]) ++ [q28_b0, q28_b1, q28_b2, q28_b3, q28_b4, q28_b5, q28_b6, q28_b7, q28_b8, q28_b9, q28_b10, q28_b11, q28_b12, q28_b13, q28_b14, q28_b15]) ++ [q39]) ++ [q39_a]) := fun x hx => List.mem_append_left _ (inc x hx)
  have m_q39_a : q39_a ∈ ((((((((L ++ [q5]) ++ [q5_a]) ++ [q17]) ++ [q17_r, q17_a]) ++ [q28]) ++ [q28_b0, q28_b1, q28_b2, q28_b3, q28_b4, q28_b5, q28_b6, q28_b7, q28_b8, q28_b9, q28_b10, q28_b11, q28_b12, q28_b13, q28_b14, q28_b15]) ++ [q39]) ++ [q39_a]) := List.mem_append_right _ (by simp)
  refine gx_putF C hD_11 (i := 3) (ty := (.object RX4)) tyX5_ok nmX5 m_h e_h rfl in_X5_init_5 (by decide) fl_X5_init_34 rfl hin rfl (by decide +kernel) rfl rfl (Nat.le_of_ble_eq_true rfl) rfl dX5_init_47 ?_
  refine gx_gen (fun f_12 hf_12 => ?_)
  have e_q5 := (show f_12 q5 = f_11 q5 by rw [hf_12, va_up_of _ (Ne.symm n_h_q5)]).trans e_q5
  have e_q5_a := (show f_12 q5_a = f_11 q5_a by rw [hf_12, va_up_of _ (Ne.symm n_h_q5_a)]).trans e_q5_a
  have e_q17 := (show f_12 q17 = f_11 q17 by rw [hf_12, va_up_of _ (Ne.symm n_h_q17)]).trans e_q17
  have e_q17_r := (show f_12 q17_r = f_11 q17_r by rw [hf_12, va_up_of _ (Ne.symm n_h_q17_r)]).trans e_q17_r
  have e_q17_a := (show f_12 q17_a = f_11 q17_a by rw [hf_12, va_up_of _ (Ne.symm n_h_q17_a)]).trans e_q17_a
  have e_q28 := (show f_12 q28 = f_11 q28 by rw [hf_12, va_up_of _ (Ne.symm n_h_q28)]).trans e_q28
  have e_q28_b0 := (show f_12 q28_b0 = f_11 q28_b0 by rw [hf_12, va_up_of _ (Ne.symm n_h_q28_b0)]).trans e_q28_b0
  have e_q28_b1 := (show f_12 q28_b1 = f_11 q28_b1 by rw [hf_12, va_up_of _ (Ne.symm n_h_q28_b1)]).trans e_q28_b1
  have e_q28_b2 := (show f_12 q28_b2 = f_11 q28_b2 by rw [hf_12, va_up_of _ (Ne.symm n_h_q28_b2)]).trans e_q28_b2
  have e_q28_b3 := (show f_12 q28_b3 = f_11 q28_b3 by rw [hf_12, va_up_of _ (Ne.symm n_h_q28_b3)]).trans e_q28_b3
  have e_q28_b4 := (show f_12 q28_b4 = f_11 q28_b4 by rw [hf_12, va_up_of _ (Ne.symm n_h_q28_b4)]).trans e_q28_b4
  have e_q28_b5 := (show f_12 q28_b5 = f_11 q28_b5 by rw [hf_12, va_up_of _ (Ne.symm n_h_q28_b5)]).trans e_q28_b5
  have e_q28_b6 := (show f_12 q28_b6 = f_11 q28_b6 by rw [hf_12, va_up_of _ (Ne.symm n_h_q28_b6)]).trans e_q28_b6
  have e_q28_b7 := (show f_12 q28_b7 = f_11 q28_b7 by rw [hf_12, va_up_of _ (Ne.symm n_h_q28_b7)]).trans e_q28_b7
  have e_q28_b8 := (show f_12 q28_b8 = f_11 q28_b8 by rw [hf_12, va_up_of _ (Ne.symm n_h_q28_b8)]).trans e_q28_b8
  have e_q28_b9 := (show f_12 q28_b9 = f_11 q28_b9 by rw [hf_12, va_up_of _ (Ne.symm n_h_q28_b9)]).trans e_q28_b9
  have e_q28_b10 := (show f_12 q28_b10 = f_11 q28_b10 by rw [hf_12, va_up_of _ (Ne.symm n_h_q28_b10)]).trans e_q28_b10
  have e_q28_b11 := (show f_12 q28_b11 = f_11 q28_b11 by rw [hf_12, va_up_of _ (Ne.symm n_h_q28_b11)]).trans e_q28_b11
  have e_q28_b12 := (show f_12 q28_b12 = f_11 q28_b12 by rw [hf_12, va_up_of _ (Ne.symm n_h_q28_b12)]).trans e_q28_b12
  have e_q28_b13 := (show f_12 q28_b13 = f_11 q28_b13 by rw [hf_12, va_up_of _ (Ne.symm n_h_q28_b13)]).trans e_q28_b13
  have e_q28_b14 := (show f_12 q28_b14 = f_11 q28_b14 by rw [hf_12, va_up_of _ (Ne.symm n_h_q28_b14)]).trans e_q28_b14
  have e_q28_b15 := (show f_12 q28_b15 = f_11 q28_b15 by rw [hf_12, va_up_of _ (Ne.symm n_h_q28_b15)]).trans e_q28_b15
  have e_q39 := (show f_12 q39 = f_11 q39 by rw [hf_12, va_up_of _ (Ne.symm n_h_q39)]).trans e_q39
  have e_q39_a := (show f_12 q39_a = f_11 q39_a by rw [hf_12, va_up_of _ (Ne.symm n_h_q39_a)]).trans e_q39_a
  have fr : ∀ x ∈ L, x ≠ h → f_12 x = f x := fun x hx hne => (show f_12 x = f_11 x by rw [hf_12, va_up_of _ hne]).trans (fr x hx hne)
  have e_h : f_12 h = .inr (5, [.ref q5, .ref q17, .ref q28, .ref q39, .null, .int 0, .int 0, .int 0]) := by rw [hf_12, va_up_at] <;> rfl
  refine gx_aload_n (q := 0) C dX5_init_50 rfl ?_
  refine gx_new C hD_11 hA (ci := 4) (fs := [.null]) tyX4_ok rfl in_X5_init_4 wd_X5_init_cl9 wd_X5_init_inRX4 wd_X5_init_iiRX4 (fun j hj => by rcases (show j = 0 by omega) with rfl; rfl) (Nat.le_of_ble_eq_true rfl) (Nat.le_of_ble_eq_true rfl) dX5_init_51 (fun q51 hD_q51 => ?_)
  refine gx_gen (fun f_13 hf_13 => ?_)
  have n_h_q51 := gD_ne hD_q51 m_h (List.mem_singleton.mpr rfl)
  have n_q5_q51 := gD_ne hD_q51 m_q5 (List.mem_singleton.mpr rfl)
  have n_q5_a_q51 := gD_ne hD_q51 m_q5_a (List.mem_singleton.mpr rfl)
  have n_q17_q51 := gD_ne hD_q51 m_q17 (List.mem_singleton.mpr rfl)
  have n_q17_r_q51 := gD_ne hD_q51 m_q17_r (List.mem_singleton.mpr rfl)
  have n_q17_a_q51 := gD_ne hD_q51 m_q17_a (List.mem_singleton.mpr rfl)
  have n_q28_q51 := gD_ne hD_q51 m_q28 (List.mem_singleton.mpr rfl)
  have n_q28_b0_q51 := gD_ne hD_q51 m_q28_b0 (List.mem_singleton.mpr rfl)
  have n_q28_b1_q51 := gD_ne hD_q51 m_q28_b1 (List.mem_singleton.mpr rfl)
  have n_q28_b2_q51 := gD_ne hD_q51 m_q28_b2 (List.mem_singleton.mpr rfl)
  have n_q28_b3_q51 := gD_ne hD_q51 m_q28_b3 (List.mem_singleton.mpr rfl)
  have n_q28_b4_q51 := gD_ne hD_q51 m_q28_b4 (List.mem_singleton.mpr rfl)
  have n_q28_b5_q51 := gD_ne hD_q51 m_q28_b5 (List.mem_singleton.mpr rfl)
  have n_q28_b6_q51 := gD_ne hD_q51 m_q28_b6 (List.mem_singleton.mpr rfl)
  have n_q28_b7_q51 := gD_ne hD_q51 m_q28_b7 (List.mem_singleton.mpr rfl)
  have n_q28_b8_q51 := gD_ne hD_q51 m_q28_b8 (List.mem_singleton.mpr rfl)
  have n_q28_b9_q51 := gD_ne hD_q51 m_q28_b9 (List.mem_singleton.mpr rfl)
  have n_q28_b10_q51 := gD_ne hD_q51 m_q28_b10 (List.mem_singleton.mpr rfl)
  have n_q28_b11_q51 := gD_ne hD_q51 m_q28_b11 (List.mem_singleton.mpr rfl)
  have n_q28_b12_q51 := gD_ne hD_q51 m_q28_b12 (List.mem_singleton.mpr rfl)
  have n_q28_b13_q51 := gD_ne hD_q51 m_q28_b13 (List.mem_singleton.mpr rfl)
  have n_q28_b14_q51 := gD_ne hD_q51 m_q28_b14 (List.mem_singleton.mpr rfl)
  have n_q28_b15_q51 := gD_ne hD_q51 m_q28_b15 (List.mem_singleton.mpr rfl)
  have n_q39_q51 := gD_ne hD_q51 m_q39 (List.mem_singleton.mpr rfl)
  have n_q39_a_q51 := gD_ne hD_q51 m_q39_a (List.mem_singleton.mpr rfl)
  have nL_q51 : ∀ x ∈ L, x ≠ q51 := fun x hx => gD_ne hD_q51 (inc x hx) (List.mem_singleton.mpr rfl)
  have e_h := (show f_13 h = f_12 h by rw [hf_13, va_up_of _ n_h_q51]).trans e_h
  have m_h := List.mem_append_left [q51] m_h
  have e_q5 := (show f_13 q5 = f_12 q5 by rw [hf_13, va_up_of _ n_q5_q51]).trans e_q5
  have m_q5 := List.mem_append_left [q51] m_q5
  have e_q5_a := (show f_13 q5_a = f_12 q5_a by rw [hf_13, va_up_of _ n_q5_a_q51]).trans e_q5_a
  have m_q5_a := List.mem_append_left [q51] m_q5_a
  have e_q17 := (show f_13 q17 = f_12 q17 by rw [hf_13, va_up_of _ n_q17_q51]).trans e_q17
  have m_q17 := List.mem_append_left [q51] m_q17
  have e_q17_r := (show f_13 q17_r = f_12 q17_r by rw [hf_13, va_up_of _ n_q17_r_q51]).trans e_q17_r
  have m_q17_r := List.mem_append_left [q51] m_q17_r
  have e_q17_a := (show f_13 q17_a = f_12 q17_a by rw [hf_13, va_up_of _ n_q17_a_q51]).trans e_q17_a
  have m_q17_a := List.mem_append_left [q51] m_q17_a
  have e_q28 := (show f_13 q28 = f_12 q28 by rw [hf_13, va_up_of _ n_q28_q51]).trans e_q28
  have m_q28 := List.mem_append_left [q51] m_q28
  have e_q28_b0 := (show f_13 q28_b0 = f_12 q28_b0 by rw [hf_13, va_up_of _ n_q28_b0_q51]).trans e_q28_b0
  have m_q28_b0 := List.mem_append_left [q51] m_q28_b0
  have e_q28_b1 := (show f_13 q28_b1 = f_12 q28_b1 by rw [hf_13, va_up_of _ n_q28_b1_q51]).trans e_q28_b1
  have m_q28_b1 := List.mem_append_left [q51] m_q28_b1
  have e_q28_b2 := (show f_13 q28_b2 = f_12 q28_b2 by rw [hf_13, va_up_of _ n_q28_b2_q51]).trans e_q28_b2
  have m_q28_b2 := List.mem_append_left [q51] m_q28_b2
  have e_q28_b3 := (show f_13 q28_b3 = f_12 q28_b3 by rw [hf_13, va_up_of _ n_q28_b3_q51]).trans e_q28_b3
  have m_q28_b3 := List.mem_append_left [q51] m_q28_b3
  have e_q28_b4 := (show f_13 q28_b4 = f_12 q28_b4 by rw [hf_13, va_up_of _ n_q28_b4_q51]).trans e_q28_b4
  have m_q28_b4 := List.mem_append_left [q51] m_q28_b4
  have e_q28_b5 := (show f_13 q28_b5 = f_12 q28_b5 by rw [hf_13, va_up_of _ n_q28_b5_q51]).trans e_q28_b5
  have m_q28_b5 := List.mem_append_left [q51] m_q28_b5
  have e_q28_b6 := (show f_13 q28_b6 = f_12 q28_b6 by rw [hf_13, va_up_of _ n_q28_b6_q51]).trans e_q28_b6
  have m_q28_b6 := List.mem_append_left [q51] m_q28_b6
  have e_q28_b7 := (show f_13 q28_b7 = f_12 q28_b7 by rw [hf_13, va_up_of _ n_q28_b7_q51]).trans e_q28_b7
  have m_q28_b7 := List.mem_append_left [q51] m_q28_b7
  have e_q28_b8 := (show f_13 q28_b8 = f_12 q28_b8 by rw [hf_13, va_up_of _ n_q28_b8_q51]).trans e_q28_b8
  have m_q28_b8 := List.mem_append_left [q51] m_q28_b8
  have e_q28_b9 := (show f_13 q28_b9 = f_12 q28_b9 by rw [hf_13, va_up_of _ n_q28_b9_q51]).trans e_q28_b9
  have m_q28_b9 := List.mem_append_left [q51] m_q28_b9
  have e_q28_b10 := (show f_13 q28_b10 = f_12 q28_b10 by rw [hf_13, va_up_of _ n_q28_b10_q51]).trans e_q28_b10
  have m_q28_b10 := List.mem_append_left [q51] m_q28_b10
  have e_q28_b11 := (show f_13 q28_b11 = f_12 q28_b11 by rw [hf_13, va_up_of _ n_q28_b11_q51]).trans e_q28_b11
  have m_q28_b11 := List.mem_append_left [q51] m_q28_b11
  have e_q28_b12 := (show f_13 q28_b12 = f_12 q28_b12 by rw [hf_13, va_up_of _ n_q28_b12_q51]).trans e_q28_b12
  have m_q28_b12 := List.mem_append_left [q51] m_q28_b12
  have e_q28_b13 := (show f_13 q28_b13 = f_12 q28_b13 by rw [hf_13, va_up_of _ n_q28_b13_q51]).trans e_q28_b13
  have m_q28_b13 := List.mem_append_left [q51] m_q28_b13
  have e_q28_b14 := (show f_13 q28_b14 = f_12 q28_b14 by rw [hf_13, va_up_of _ n_q28_b14_q51]).trans e_q28_b14
  have m_q28_b14 := List.mem_append_left [q51] m_q28_b14
  have e_q28_b15 := (show f_13 q28_b15 = f_12 q28_b15 by rw [hf_13, va_up_of _ n_q28_b15_q51]).trans e_q28_b15
  have m_q28_b15 := List.mem_append_left [q51] m_q28_b15
  have e_q39 := (show f_13 q39 = f_12 q39 by rw [hf_13, va_up_of _ n_q39_q51]).trans e_q39
  have m_q39 := List.mem_append_left [q51] m_q39
  have e_q39_a := (show f_13 q39_a = f_12 q39_a by rw [hf_13, va_up_of _ n_q39_a_q51]).trans e_q39_a
  have m_q39_a := List.mem_append_left [q51] m_q39_a
  have fr : ∀ x ∈ L, x ≠ h → f_13 x = f x := fun x hx hne => (show f_13 x = f_12 x by rw [hf_13, va_up_of _ (nL_q51 x hx)]).trans (fr x hx hne)
  have inc : ∀ x ∈ L, x ∈ (((((((((L ++ [q5]) ++ [q5_a]) ++ [q17]) ++ [q17_r, q17_a]) ++ [q28]) ++ [q28_b0, q28_b1, q28_b2, q28_b3, q28_b4, q28_b5, q28_b6, q28_b7, q28_b8, q28_b9, q28_b10, q28_b11, q28_b12, q28_b13, q28_b14, q28_b15]) ++ [q39]) ++ [q39_a]) ++ [q51]) := fun x hx => List.mem_append_left _ (inc x hx)
  have m_q51 : q51 ∈ (((((((((L ++ [q5]) ++ [q5_a]) ++ [q17]) ++ [q17_r, q17_a]) ++ [q28]) ++ [q28_b0, q28_b1, q28_b2, q28_b3, q28_b4, q28_b5, q28_b6, q28_b7, q28_b8, q28_b9, q28_b10, q28_b11, q28_b12, q28_b13, q28_b14, q28_b15]) ++ [q39]) ++ [q39_a]) ++ [q51]) := List.mem_append_right _ (List.mem_singleton.mpr rfl)
  have e_q51 : f_13 q51 = .inr (4, [.null]) := by rw [hf_13, va_up_at]
  refine gx_dup C rfl dX5_init_54 ?_
  refine gx_bipush (v := 10) C dX5_init_55 (by decide) ?_
  refine gx_callI C hAO hD_q51 hA (k_X4_init l hD_q51.1 m_q51 e_q51 (n := 10) (Nat.le_of_ble_eq_true rfl)) (cwI 1 C.2.2.2.2.1 gX5_init_X4_init rfl rfl rfl (C.2.2.2.2.1 _ wd_X5_init_iniRX4) (C.2.2.2.2.1 _ wd_X5_init_ml11) (C.2.2.2.2.1 _ wd_X5_init_im_X4_init) rfl kdN_X4_init ⟨Nat.le_of_ble_eq_true rfl, Nat.le_of_ble_eq_true rfl⟩) rfl rfl (Nat.le_of_ble_eq_true rfl) ⟨(Nat.le_of_ble_eq_true rfl), (Nat.le_of_ble_eq_true rfl)⟩ dX5_init_57 (fun v_14 N_14 f_14 hp_14 hD_14 => ?_)
  obtain ⟨rfl, q51_a, rfl, e_q51_n, e_q51_a, fr_n⟩ := hp_14
  refine gx_nil ?_
  have n_h_q51_a := gD_ne hD_14 m_h (show q51_a ∈ [q51_a] by simp)
  have n_q5_q51_a := gD_ne hD_14 m_q5 (show q51_a ∈ [q51_a] by simp)
  have n_q5_a_q51_a := gD_ne hD_14 m_q5_a (show q51_a ∈ [q51_a] by simp)
  have n_q17_q51_a := gD_ne hD_14 m_q17 (show q51_a ∈ [q51_a] by simp)
  have n_q17_r_q51_a := gD_ne hD_14 m_q17_r (show q51_a ∈ [q51_a] by simp)
  have n_q17_a_q51_a := gD_ne hD_14 m_q17_a (show q51_a ∈ [q51_a] by simp)
  have n_q28_q51_a := gD_ne hD_14 m_q28 (show q51_a ∈ [q51_a] by simp)
  have n_q28_b0_q51_a := gD_ne hD_14 m_q28_b0 (show q51_a ∈ [q51_a] by simp)
  have n_q28_b1_q51_a := gD_ne hD_14 m_q28_b1 (show q51_a ∈ [q51_a] by simp)
  have n_q28_b2_q51_a := gD_ne hD_14 m_q28_b2 (show q51_a ∈ [q51_a] by simp)
  have n_q28_b3_q51_a := gD_ne hD_14 m_q28_b3 (show q51_a ∈ [q51_a] by simp)
  have n_q28_b4_q51_a := gD_ne hD_14 m_q28_b4 (show q51_a ∈ [q51_a] by simp)
  have n_q28_b5_q51_a := gD_ne hD_14 m_q28_b5 (show q51_a ∈ [q51_a] by simp)
  have n_q28_b6_q51_a := gD_ne hD_14 m_q28_b6 (show q51_a ∈ [q51_a] by simp)
  have n_q28_b7_q51_a := gD_ne hD_14 m_q28_b7 (show q51_a ∈ [q51_a] by simp)
  have n_q28_b8_q51_a := gD_ne hD_14 m_q28_b8 (show q51_a ∈ [q51_a] by simp)
  have n_q28_b9_q51_a := gD_ne hD_14 m_q28_b9 (show q51_a ∈ [q51_a] by simp)
  have n_q28_b10_q51_a := gD_ne hD_14 m_q28_b10 (show q51_a ∈ [q51_a] by simp)
  have n_q28_b11_q51_a := gD_ne hD_14 m_q28_b11 (show q51_a ∈ [q51_a] by simp)
  have n_q28_b12_q51_a := gD_ne hD_14 m_q28_b12 (show q51_a ∈ [q51_a] by simp)
  have n_q28_b13_q51_a := gD_ne hD_14 m_q28_b13 (show q51_a ∈ [q51_a] by simp)
  have n_q28_b14_q51_a := gD_ne hD_14 m_q28_b14 (show q51_a ∈ [q51_a] by simp)
  have n_q28_b15_q51_a := gD_ne hD_14 m_q28_b15 (show q51_a ∈ [q51_a] by simp)
  have n_q39_q51_a := gD_ne hD_14 m_q39 (show q51_a ∈ [q51_a] by simp)
  have n_q39_a_q51_a := gD_ne hD_14 m_q39_a (show q51_a ∈ [q51_a] by simp)
  have n_q51_q51_a := gD_ne hD_14 m_q51 (show q51_a ∈ [q51_a] by simp)
  have nL_q51_a : ∀ x ∈ L, x ≠ q51_a := fun x hx => gD_ne hD_14 (inc x hx) (show q51_a ∈ [q51_a] by simp)
  have e_h := (fr_n h m_h n_h_q51).trans e_h
  have e_q5 := (fr_n q5 m_q5 n_q5_q51).trans e_q5
  have e_q5_a := (fr_n q5_a m_q5_a n_q5_a_q51).trans e_q5_a
  have e_q17 := (fr_n q17 m_q17 n_q17_q51).trans e_q17
  have e_q17_r := (fr_n q17_r m_q17_r n_q17_r_q51).trans e_q17_r
  have e_q17_a := (fr_n q17_a m_q17_a n_q17_a_q51).trans e_q17_a
  have e_q28 := (fr_n q28 m_q28 n_q28_q51).trans e_q28
  have e_q28_b0 := (fr_n q28_b0 m_q28_b0 n_q28_b0_q51).trans e_q28_b0
  have e_q28_b1 := (fr_n q28_b1 m_q28_b1 n_q28_b1_q51).trans e_q28_b1
  have e_q28_b2 := (fr_n q28_b2 m_q28_b2 n_q28_b2_q51).trans e_q28_b2
  have e_q28_b3 := (fr_n q28_b3 m_q28_b3 n_q28_b3_q51).trans e_q28_b3
  have e_q28_b4 := (fr_n q28_b4 m_q28_b4 n_q28_b4_q51).trans e_q28_b4
  have e_q28_b5 := (fr_n q28_b5 m_q28_b5 n_q28_b5_q51).trans e_q28_b5
  have e_q28_b6 := (fr_n q28_b6 m_q28_b6 n_q28_b6_q51).trans e_q28_b6
  have e_q28_b7 := (fr_n q28_b7 m_q28_b7 n_q28_b7_q51).trans e_q28_b7
  have e_q28_b8 := (fr_n q28_b8 m_q28_b8 n_q28_b8_q51).trans e_q28_b8
  have e_q28_b9 := (fr_n q28_b9 m_q28_b9 n_q28_b9_q51).trans e_q28_b9
  have e_q28_b10 := (fr_n q28_b10 m_q28_b10 n_q28_b10_q51).trans e_q28_b10
  have e_q28_b11 := (fr_n q28_b11 m_q28_b11 n_q28_b11_q51).trans e_q28_b11
  have e_q28_b12 := (fr_n q28_b12 m_q28_b12 n_q28_b12_q51).trans e_q28_b12
  have e_q28_b13 := (fr_n q28_b13 m_q28_b13 n_q28_b13_q51).trans e_q28_b13
  have e_q28_b14 := (fr_n q28_b14 m_q28_b14 n_q28_b14_q51).trans e_q28_b14
  have e_q28_b15 := (fr_n q28_b15 m_q28_b15 n_q28_b15_q51).trans e_q28_b15
  have e_q39 := (fr_n q39 m_q39 n_q39_q51).trans e_q39
  have e_q39_a := (fr_n q39_a m_q39_a n_q39_a_q51).trans e_q39_a
  have e_q51 := e_q51_n
  have fr : ∀ x ∈ L, x ≠ h → f_14 x = f x := fun x hx hne => (fr_n x (inc x hx) (nL_q51 x hx)).trans (fr x hx hne)
  have m_h : h ∈ ((((((((((L ++ [q5]) ++ [q5_a]) ++ [q17]) ++ [q17_r, q17_a]) ++ [q28]) ++ [q28_b0, q28_b1, q28_b2, q28_b3, q28_b4, q28_b5, q28_b6, q28_b7, q28_b8, q28_b9, q28_b10, q28_b11, q28_b12, q28_b13, q28_b14, q28_b15]) ++ [q39]) ++ [q39_a]) ++ [q51]) ++ [q51_a]) := List.mem_append_left _ m_h
  have m_q5 : q5 ∈ ((((((((((L ++ [q5]) ++ [q5_a]) ++ [q17]) ++ [q17_r, q17_a]) ++ [q28]) ++ [q28_b0, q28_b1, q28_b2, q28_b3, q28_b4, q28_b5, q28_b6, q28_b7, q28_b8, q28_b9, q28_b10, q28_b11, q28_b12, q28_b13, q28_b14, q28_b15]) ++ [q39]) ++ [q39_a]) ++ [q51]) ++ [q51_a]) := List.mem_append_left _ m_q5
  have m_q5_a : q5_a ∈ ((((((((((L ++ [q5]) ++ [q5_a]) ++ [q17]) ++ [q17_r, q17_a]) ++ [q28]) ++ [q28_b0, q28_b1, q28_b2, q28_b3, q28_b4, q28_b5, q28_b6, q28_b7, q28_b8, q28_b9, q28_b10, q28_b11, q28_b12, q28_b13, q28_b14, q28_b15]) ++ [q39]) ++ [q39_a]) ++ [q51]) ++ [q51_a]) := List.mem_append_left _ m_q5_a
  have m_q17 : q17 ∈ ((((((((((L ++ [q5]) ++ [q5_a]) ++ [q17]) ++ [q17_r, q17_a]) ++ [q28]) ++ [q28_b0, q28_b1, q28_b2, q28_b3, q28_b4, q28_b5, q28_b6, q28_b7, q28_b8, q28_b9, q28_b10, q28_b11, q28_b12, q28_b13, q28_b14, q28_b15]) ++ [q39]) ++ [q39_a]) ++ [q51]) ++ [q51_a]) := List.mem_append_left _ m_q17
  have m_q17_r : q17_r ∈ ((((((((((L ++ [q5]) ++ [q5_a]) ++ [q17]) ++ [q17_r, q17_a]) ++ [q28]) ++ [q28_b0, q28_b1, q28_b2, q28_b3, q28_b4, q28_b5, q28_b6, q28_b7, q28_b8, q28_b9, q28_b10, q28_b11, q28_b12, q28_b13, q28_b14, q28_b15]) ++ [q39]) ++ [q39_a]) ++ [q51]) ++ [q51_a]) := List.mem_append_left _ m_q17_r
  have m_q17_a : q17_a ∈ ((((((((((L ++ [q5]) ++ [q5_a]) ++ [q17]) ++ [q17_r, q17_a]) ++ [q28]) ++ [q28_b0, q28_b1, q28_b2, q28_b3, q28_b4, q28_b5, q28_b6, q28_b7, q28_b8, q28_b9, q28_b10, q28_b11, q28_b12, q28_b13, q28_b14, q28_b15]) ++ [q39]) ++ [q39_a]) ++ [q51]) ++ [q51_a]) := List.mem_append_left _ m_q17_a
  have m_q28 : q28 ∈ ((((((((((L ++ [q5]) ++ [q5_a]) ++ [q17]) ++ [q17_r, q17_a]) ++ [q28]) ++ [q28_b0, q28_b1, q28_b2, q28_b3, q28_b4, q28_b5, q28_b6, q28_b7, q28_b8, q28_b9, q28_b10, q28_b11, q28_b12, q28_b13, q28_b14, q28_b15]) ++ [q39]) ++ [q39_a]) ++ [q51]) ++ [q51_a]) := List.mem_append_left _ m_q28
  have m_q28_b0 : q28_b0 ∈ ((((((((((L ++ [q5]) ++ [q5_a]) ++ [q17]) ++ [q17_r, q17_a]) ++ [q28]) ++ [q28_b0, q28_b1, q28_b2, q28_b3, q28_b4, q28_b5, q28_b6, q28_b7, q28_b8, q28_b9, q28_b10, q28_b11, q28_b12, q28_b13, q28_b14, q28_b15]) ++ [q39]) ++ [q39_a]) ++ [q51]) ++ [q51_a]) := List.mem_append_left _ m_q28_b0
  have m_q28_b1 : q28_b1 ∈ ((((((((((L ++ [q5]) ++ [q5_a]) ++ [q17]) ++ [q17_r, q17_a]) ++ [q28]) ++ [q28_b0, q28_b1, q28_b2, q28_b3, q28_b4, q28_b5, q28_b6, q28_b7, q28_b8, q28_b9, q28_b10, q28_b11, q28_b12, q28_b13, q28_b14, q28_b15]) ++ [q39]) ++ [q39_a]) ++ [q51]) ++ [q51_a]) := List.mem_append_left _ m_q28_b1
  have m_q28_b2 : q28_b2 ∈ ((((((((((L ++ [q5]) ++ [q5_a]) ++ [q17]) ++ [q17_r, q17_a]) ++ [q28]) ++ [q28_b0, q28_b1, q28_b2, q28_b3, q28_b4, q28_b5, q28_b6, q28_b7, q28_b8, q28_b9, q28_b10, q28_b11, q28_b12, q28_b13, q28_b14, q28_b15]) ++ [q39]) ++ [q39_a]) ++ [q51]) ++ [q51_a]) := List.mem_append_left _ m_q28_b2
  have m_q28_b3 : q28_b3 ∈ ((((((((((L ++ [q5]) ++ [q5_a]) ++ [q17]) ++ [q17_r, q17_a]) ++ [q28]) ++ [q28_b0, q28_b1, q28_b2, q28_b3, q28_b4, q28_b5, q28_b6, q28_b7, q28_b8, q28_b9, q28_b10, q28_b11, q28_b12, q28_b13, q28_b14, q28_b15]) ++ [q39]) ++ [q39_a]) ++ [q51]) ++ [q51_a]) := List.mem_append_left _ m_q28_b3
  have m_q28_b4 : q28_b4 ∈ ((((((((((L ++ [q5]) ++ [q5_a]) ++ [q17]) ++ [q17_r, q17_a]) ++ [q28]) ++ [q28_b0, q28_b1, q28_b2, q28_b3, q28_b4, q28_b5, q28_b6, q28_b7, q28_b8, q28_b9, q28_b10, q28_b11, q28_b12, q28_b13, q28_b14, q28_b15]) ++ [q39]) ++ [q39_a]) ++ [q51]) ++ [q51_a]) := List.mem_append_left _ m_q28_b4
  have m_q28_b5 : q28_b5 ∈ ((((((((((L ++ [q5]) ++ [q5_a]) ++ [q17]) ++ [q17_r, q17_a]) ++ [q28]) ++ [q28_b0, q28_b1, q28_b2, q28_b3, q28_b4, q28_b5, q28_b6, q28_b7, q28_b8, q28_b9, q28_b10, q28_b11, q28_b12, q28_b13, q28_b14, q28_b15]) ++ [q39]) ++ [q39_a]) ++ [q51]) ++ [q51_a]) := List.mem_append_left _ m_q28_b5
  have m_q28_b6 : q28_b6 ∈ ((((((((((L ++ [q5]) ++ [q5_a]) ++ [q17]) ++ [q17_r, q17_a]) ++ [q28]) ++ [q28_b0, q28_b1, q28_b2, q28_b3, q28_b4, q28_b5, q28_b6, q28_b7, q28_b8, q28_b9, q28_b10, q28_b11, q28_b12, q28_b13, q28_b14, q28_b15]) ++ [q39]) ++ [q39_a]) ++ [q51]) ++ [q51_a]) := List.mem_append_left _ m_q28_b6
  have m_q28_b7 : q28_b7 ∈ ((((((((((L ++ [q5]) ++ [q5_a]) ++ [q17]) ++ [q17_r, q17_a]) ++ [q28]) ++ [q28_b0, q28_b1, q28_b2, q28_b3, q28_b4, q28_b5, q28_b6, q28_b7, q28_b8, q28_b9, q28_b10, q28_b11, q28_b12, q28_b13, q28_b14, q28_b15]) ++ [q39]) ++ [q39_a]) ++ [q51]) ++ [q51_a]) := List.mem_append_left _ m_q28_b7
  have m_q28_b8 : q28_b8 ∈ ((((((((((L ++ [q5]) ++ [q5_a]) ++ [q17]) ++ [q17_r, q17_a]) ++ [q28]) ++ [q28_b0, q28_b1, q28_b2, q28_b3, q28_b4, q28_b5, q28_b6, q28_b7, q28_b8, q28_b9, q28_b10, q28_b11, q28_b12, q28_b13, q28_b14, q28_b15]) ++ [q39]) ++ [q39_a]) ++ [q51]) ++ [q51_a]) := List.mem_append_left _ m_q28_b8
  have m_q28_b9 : q28_b9 ∈ ((((((((((L ++ [q5]) ++ [q5_a]) ++ [q17]) ++ [q17_r, q17_a]) ++ [q28]) ++ [q28_b0, q28_b1, q28_b2, q28_b3, q28_b4, q28_b5, q28_b6, q28_b7, q28_b8, q28_b9, q28_b10, q28_b11, q28_b12, q28_b13, q28_b14, q28_b15]) ++ [q39]) ++ [q39_a]) ++ [q51]) ++ [q51_a]) := List.mem_append_left _ m_q28_b9
  have m_q28_b10 : q28_b10 ∈ ((((((((((L ++ [q5]) ++ [q5_a]) ++ [q17]) ++ [q17_r, q17_a]) ++ [q28]) ++ [q28_b0, q28_b1, q28_b2, q28_b3, q28_b4, q28_b5, q28_b6, q28_b7, q28_b8, q28_b9, q28_b10, q28_b11, q28_b12, q28_b13, q28_b14, q28_b15]) ++ [q39]) ++ [q39_a]) ++ [q51]) ++ [q51_a]) := List.mem_append_left _ m_q28_b10
  have m_q28_b11 : q28_b11 ∈ ((((((((((L ++ [q5]) ++ [q5_a]) ++ [q17]) ++ [q17_r, q17_a]) ++ [q28]) ++ [q28_b0, q28_b1, q28_b2, q28_b3, q28_b4, q28_b5, q28_b6, q28_b7, q28_b8, q28_b9, q28_b10, q28_b11, q28_b12, q28_b13, q28_b14, q28_b15]) ++ [q39]) ++ [q39_a]) ++ [q51]) ++ [q51_a]) := List.mem_append_left _ m_q28_b11
  have m_q28_b12 : q28_b12 ∈ ((((((((((L ++ [q5]) ++ [q5_a]) ++ [q17]) ++ [q17_r, q17_a]) ++ [q28]) ++ [q28_b0, q28_b1, q28_b2, q28_b3, q28_b4, q28_b5, q28_b6, q28_b7, q28_b8, q28_b9, q28_b10, q28_b11, q28_b12, q28_b13, q28_b14, q28_b15]) ++ [q39]) ++ [q39_a]) ++ [q51]) ++ [q51_a]) := List.mem_append_left _ m_q28_b12
  have m_q28_b13 : q28_b13 ∈ ((((((((((L ++ [q5]) ++ [q5_a]) ++ [q17]) ++ [q17_r, q17_a]) ++ [q28]) ++ [q28_b0, q28_b1, q28_b2, q28_b3, q28_b4, q28_b5, q28_b6, q28_b7, q28_b8, q28_b9, q28_b10, q28_b11, q28_b12, q28_b13, q28_b14, q28_b15]) ++ [q39]) ++ [q39_a]) ++ [q51]) ++ [q51_a]) := List.mem_append_left _ m_q28_b13
  have m_q28_b14 : q28_b14 ∈ ((((((((((L ++ [q5]) ++ [q5_a]) ++ [q17]) ++ [q17_r, q17_a]) ++ [q28]) ++ [q28_b0, q28_b1, q28_b2, q28_b3, q28_b4, q28_b5, q28_b6, q28_b7, q28_b8, q28_b9, q28_b10, q28_b11, q28_b12, q28_b13, q28_b14, q28_b15]) ++ [q39]) ++ [q39_a]) ++ [q51]) ++ [q51_a]) := List.mem_append_left _ m_q28_b14
  have m_q28_b15 : q28_b15 ∈ ((((((((((L ++ [q5]) ++ [q5_a]) ++ [q17]) ++ [q17_r, q17_a]) ++ [q28]) ++ [q28_b0, q28_b1, q28_b2, q28_b3, q28_b4, q28_b5, q28_b6, q28_b7, q28_b8, q28_b9, q28_b10, q28_b11, q28_b12, q28_b13, q28_b14, q28_b15]) ++ [q39]) ++ [q39_a]) ++ [q51]) ++ [q51_a]) := List.mem_append_left _ m_q28_b15
  have m_q39 : q39 ∈ ((((((((((L ++ [q5]) ++ [q5_a]) ++ [q17]) ++ [q17_r, q17_a]) ++ [q28]) ++ [q28_b0, q28_b1, q28_b2, q28_b3, q28_b4, q28_b5, q28_b6, q28_b7, q28_b8, q28_b9, q28_b10, q28_b11, q28_b12, q28_b13, q28_b14, q28_b15]) ++ [q39]) ++ [q39_a]) ++ [q51]) ++ [q51_a]) := List.mem_append_left _ m_q39
  have m_q39_a : q39_a ∈ ((((((((((L ++ [q5]) ++ [q5_a]) ++ [q17]) ++ [q17_r, q17_a]) ++ [q28]) ++ [q28_b0, q28_b1, q28_b2, q28_b3, q28_b4, q28_b5, q28_b6, q28_b7, q28_b8, q28_b9, q28_b10, q28_b11, q28_b12, q28_b13, q28_b14, q28_b15]) ++ [q39]) ++ [q39_a]) ++ [q51]) ++ [q51_a]) := List.mem_append_left _ m_q39_a
  have m_q51 : q51 ∈ ((((((((((L ++ [q5]) ++ [q5_a]) ++ [q17]) ++ [q17_r, q17_a]) ++ [q28]) ++ [q28_b0, q28_b1, q28_b2, q28_b3, q28_b4, q28_b5, q28_b6, q28_b7, q28_b8, q28_b9, q28_b10, q28_b11, q28_b12, q28_b13, q28_b14, q28_b15]) ++ [q39]) ++ [q39_a]) ++ [q51]) ++ [q51_a]) := List.mem_append_left _ m_q51
  have inc : ∀ x ∈ L, x ∈ ((((((((((L ++ [q5]) ++ [q5_a]) ++ [q17]) ++ [q17_r, q17_a]) ++ [q28]) ++ [q28_b0, q28_b1, q28_b2, q28_b3, q28_b4, q28_b5, q28_b6, q28_b7, q28_b8, q28_b9, q28_b10, q28_b11, q28_b12, q28_b13, q28_b14, q28_b15]) ++ [q39]) ++ [q39_a]) ++ [q51]) ++ [q51_a]) := fun x hx => List.mem_append_left _ (inc x hx)
  have m_q51_a : q51_a ∈ ((((((((((L ++ [q5]) ++ [q5_a]) ++ [q17]) ++ [q17_r, q17_a]) ++ [q28]) ++ [q28_b0, q28_b1, q28_b2, q28_b3, q28_b4, q28_b5, q28_b6, q28_b7, q28_b8, q28_b9, q28_b10, q28_b11, q28_b12, q28_b13, q28_b14, q28_b15]) ++ [q39]) ++ [q39_a]) ++ [q51]) ++ [q51_a]) := List.mem_append_right _ (by simp)
  refine gx_putF C hD_14 (i := 4) (ty := (.object RX4)) tyX5_ok nmX5 m_h e_h rfl in_X5_init_5 (by decide) fl_X5_init_37 rfl hin rfl (by decide +kernel) rfl rfl (Nat.le_of_ble_eq_true rfl) rfl dX5_init_60 ?_
  refine gx_gen (fun f_15 hf_15 => ?_)
  have e_q5 := (show f_15 q5 = f_14 q5 by rw [hf_15, va_up_of _ (Ne.symm n_h_q5)]).trans e_q5
  have e_q5_a := (show f_15 q5_a = f_14 q5_a by rw [hf_15, va_up_of _ (Ne.symm n_h_q5_a)]).trans e_q5_a
  have e_q17 := (show f_15 q17 = f_14 q17 by rw [hf_15, va_up_of _ (Ne.symm n_h_q17)]).trans e_q17
  have e_q17_r := (show f_15 q17_r = f_14 q17_r by rw [hf_15, va_up_of _ (Ne.symm n_h_q17_r)]).trans e_q17_r
  have e_q17_a := (show f_15 q17_a = f_14 q17_a by rw [hf_15, va_up_of _ (Ne.symm n_h_q17_a)]).trans e_q17_a
  have e_q28 := (show f_15 q28 = f_14 q28 by rw [hf_15, va_up_of _ (Ne.symm n_h_q28)]).trans e_q28
  have e_q28_b0 := (show f_15 q28_b0 = f_14 q28_b0 by rw [hf_15, va_up_of _ (Ne.symm n_h_q28_b0)]).trans e_q28_b0
  have e_q28_b1 := (show f_15 q28_b1 = f_14 q28_b1 by rw [hf_15, va_up_of _ (Ne.symm n_h_q28_b1)]).trans e_q28_b1
  have e_q28_b2 := (show f_15 q28_b2 = f_14 q28_b2 by rw [hf_15, va_up_of _ (Ne.symm n_h_q28_b2)]).trans e_q28_b2
  have e_q28_b3 := (show f_15 q28_b3 = f_14 q28_b3 by rw [hf_15, va_up_of _ (Ne.symm n_h_q28_b3)]).trans e_q28_b3
  have e_q28_b4 := (show f_15 q28_b4 = f_14 q28_b4 by rw [hf_15, va_up_of _ (Ne.symm n_h_q28_b4)]).trans e_q28_b4
  have e_q28_b5 := (show f_15 q28_b5 = f_14 q28_b5 by rw [hf_15, va_up_of _ (Ne.symm n_h_q28_b5)]).trans e_q28_b5
  have e_q28_b6 := (show f_15 q28_b6 = f_14 q28_b6 by rw [hf_15, va_up_of _ (Ne.symm n_h_q28_b6)]).trans e_q28_b6
  have e_q28_b7 := (show f_15 q28_b7 = f_14 q28_b7 by rw [hf_15, va_up_of _ (Ne.symm n_h_q28_b7)]).trans e_q28_b7
  have e_q28_b8 := (show f_15 q28_b8 = f_14 q28_b8 by rw [hf_15, va_up_of _ (Ne.symm n_h_q28_b8)]).trans e_q28_b8
  have e_q28_b9 := (show f_15 q28_b9 = f_14 q28_b9 by rw [hf_15, va_up_of _ (Ne.symm n_h_q28_b9)]).trans e_q28_b9
  have e_q28_b10 := (show f_15 q28_b10 = f_14 q28_b10 by rw [hf_15, va_up_of _ (Ne.symm n_h_q28_b10)]).trans e_q28_b10
  have e_q28_b11 := (show f_15 q28_b11 = f_14 q28_b11 by rw [hf_15, va_up_of _ (Ne.symm n_h_q28_b11)]).trans e_q28_b11
  have e_q28_b12 := (show f_15 q28_b12 = f_14 q28_b12 by rw [hf_15, va_up_of _ (Ne.symm n_h_q28_b12)]).trans e_q28_b12
  have e_q28_b13 := (show f_15 q28_b13 = f_14 q28_b13 by rw [hf_15, va_up_of _ (Ne.symm n_h_q28_b13)]).trans e_q28_b13
  have e_q28_b14 := (show f_15 q28_b14 = f_14 q28_b14 by rw [hf_15, va_up_of _ (Ne.symm n_h_q28_b14)]).trans e_q28_b14
  have e_q28_b15 := (show f_15 q28_b15 = f_14 q28_b15 by rw [hf_15, va_up_of _ (Ne.symm n_h_q28_b15)]).trans e_q28_b15
  have e_q39 := (show f_15 q39 = f_14 q39 by rw [hf_15, va_up_of _ (Ne.symm n_h_q39)]).trans e_q39
  have e_q39_a := (show f_15 q39_a = f_14 q39_a by rw [hf_15, va_up_of _ (Ne.symm n_h_q39_a)]).trans e_q39_a
  have e_q51 := (show f_15 q51 = f_14 q51 by rw [hf_15, va_up_of _ (Ne.symm n_h_q51)]).trans e_q51
  have e_q51_a := (show f_15 q51_a = f_14 q51_a by rw [hf_15, va_up_of _ (Ne.symm n_h_q51_a)]).trans e_q51_a
  have fr : ∀ x ∈ L, x ≠ h → f_15 x = f x := fun x hx hne => (show f_15 x = f_14 x by rw [hf_15, va_up_of _ hne]).trans (fr x hx hne)
  have e_h : f_15 h = .inr (5, [.ref q5, .ref q17, .ref q28, .ref q39, .ref q51, .int 0, .int 0, .int 0]) := by rw [hf_15, va_up_at] <;> rfl
  refine gx_aload_n (q := 0) C dX5_init_63 rfl ?_
  refine gx_iconst (v := 1) C dX5_init_64 (by decide) ?_
  refine gx_put C hD_14 (i := 6) (ty := .int) tyX5_ok nmX5 m_h e_h rfl in_X5_init_5 (by decide) fl_X5_init_40 rfl (by decide +kernel) rfl rfl (Nat.le_of_ble_eq_true rfl) rfl dX5_init_65 ?_
  refine gx_gen (fun f_16 hf_16 => ?_)
  have e_q5 := (show f_16 q5 = f_15 q5 by rw [hf_16, va_up_of _ (Ne.symm n_h_q5)]).trans e_q5
  have e_q5_a := (show f_16 q5_a = f_15 q5_a by rw [hf_16, va_up_of _ (Ne.symm n_h_q5_a)]).trans e_q5_a
  have e_q17 := (show f_16 q17 = f_15 q17 by rw [hf_16, va_up_of _ (Ne.symm n_h_q17)]).trans e_q17
  have e_q17_r := (show f_16 q17_r = f_15 q17_r by rw [hf_16, va_up_of _ (Ne.symm n_h_q17_r)]).trans e_q17_r
  have e_q17_a := (show f_16 q17_a = f_15 q17_a by rw [hf_16, va_up_of _ (Ne.symm n_h_q17_a)]).trans e_q17_a
  have e_q28 := (show f_16 q28 = f_15 q28 by rw [hf_16, va_up_of _ (Ne.symm n_h_q28)]).trans e_q28
  have e_q28_b0 := (show f_16 q28_b0 = f_15 q28_b0 by rw [hf_16, va_up_of _ (Ne.symm n_h_q28_b0)]).trans e_q28_b0
  have e_q28_b1 := (show f_16 q28_b1 = f_15 q28_b1 by rw [hf_16, va_up_of _ (Ne.symm n_h_q28_b1)]).trans e_q28_b1
  have e_q28_b2 := (show f_16 q28_b2 = f_15 q28_b2 by rw [hf_16, va_up_of _ (Ne.symm n_h_q28_b2)]).trans e_q28_b2
  have e_q28_b3 := (show f_16 q28_b3 = f_15 q28_b3 by rw [hf_16, va_up_of _ (Ne.symm n_h_q28_b3)]).trans e_q28_b3
  have e_q28_b4 := (show f_16 q28_b4 = f_15 q28_b4 by rw [hf_16, va_up_of _ (Ne.symm n_h_q28_b4)]).trans e_q28_b4
  have e_q28_b5 := (show f_16 q28_b5 = f_15 q28_b5 by rw [hf_16, va_up_of _ (Ne.symm n_h_q28_b5)]).trans e_q28_b5
  have e_q28_b6 := (show f_16 q28_b6 = f_15 q28_b6 by rw [hf_16, va_up_of _ (Ne.symm n_h_q28_b6)]).trans e_q28_b6
  have e_q28_b7 := (show f_16 q28_b7 = f_15 q28_b7 by rw [hf_16, va_up_of _ (Ne.symm n_h_q28_b7)]).trans e_q28_b7
  have e_q28_b8 := (show f_16 q28_b8 = f_15 q28_b8 by rw [hf_16, va_up_of _ (Ne.symm n_h_q28_b8)]).trans e_q28_b8
  have e_q28_b9 := (show f_16 q28_b9 = f_15 q28_b9 by rw [hf_16, va_up_of _ (Ne.symm n_h_q28_b9)]).trans e_q28_b9
  have e_q28_b10 := (show f_16 q28_b10 = f_15 q28_b10 by rw [hf_16, va_up_of _ (Ne.symm n_h_q28_b10)]).trans e_q28_b10
  have e_q28_b11 := (show f_16 q28_b11 = f_15 q28_b11 by rw [hf_16, va_up_of _ (Ne.symm n_h_q28_b11)]).trans e_q28_b11
  have e_q28_b12 := (show f_16 q28_b12 = f_15 q28_b12 by rw [hf_16, va_up_of _ (Ne.symm n_h_q28_b12)]).trans e_q28_b12
  have e_q28_b13 := (show f_16 q28_b13 = f_15 q28_b13 by rw [hf_16, va_up_of _ (Ne.symm n_h_q28_b13)]).trans e_q28_b13
  have e_q28_b14 := (show f_16 q28_b14 = f_15 q28_b14 by rw [hf_16, va_up_of _ (Ne.symm n_h_q28_b14)]).trans e_q28_b14
  have e_q28_b15 := (show f_16 q28_b15 = f_15 q28_b15 by rw [hf_16, va_up_of _ (Ne.symm n_h_q28_b15)]).trans e_q28_b15
  have e_q39 := (show f_16 q39 = f_15 q39 by rw [hf_16, va_up_of _ (Ne.symm n_h_q39)]).trans e_q39
  have e_q39_a := (show f_16 q39_a = f_15 q39_a by rw [hf_16, va_up_of _ (Ne.symm n_h_q39_a)]).trans e_q39_a
  have e_q51 := (show f_16 q51 = f_15 q51 by rw [hf_16, va_up_of _ (Ne.symm n_h_q51)]).trans e_q51
  have e_q51_a := (show f_16 q51_a = f_15 q51_a by rw [hf_16, va_up_of _ (Ne.symm n_h_q51_a)]).trans e_q51_a
  have fr : ∀ x ∈ L, x ≠ h → f_16 x = f x := fun x hx hne => (show f_16 x = f_15 x by rw [hf_16, va_up_of _ hne]).trans (fr x hx hne)
  have e_h : f_16 h = .inr (5, [.ref q5, .ref q17, .ref q28, .ref q39, .ref q51, .int 0, .int 1, .int 0]) := by rw [hf_16, va_up_at] <;> rfl
  refine gx_aload_n (q := 0) C dX5_init_68 rfl ?_
  refine gx_get C (i := 0) m_h e_h rfl in_X5_init_5 (by decide) fl_X5_init_14 rfl dX5_init_69 ?_
  refine gx_iconst (v := 0) C dX5_init_72 (by decide) ?_
  refine gx_iconst (v := 2) C dX5_init_73 (by decide) ?_
  refine gx_callM C hD_14 (k_X4_write l hD_14.1 (n := 4) (by decide) m_q5 m_q5_a e_q5 e_q5_a _ _) m_q5 e_q5 rfl (cwV 2 C.2.2.2.2.1 gX5_init_X4_write rfl rfl rfl kdV_X4_write ⟨Nat.le_of_ble_eq_true rfl, Nat.le_of_ble_eq_true rfl⟩) rfl rfl (Nat.le_of_ble_eq_true rfl) ⟨(Nat.le_of_ble_eq_true rfl), (Nat.le_of_ble_eq_true rfl)⟩ dX5_init_74 (fun v_17 f_17 hp_17 => ?_)
  obtain ⟨rfl, hf_17⟩ := hp_17
  refine gx_nil ?_
  have e_h := (show f_17 h = f_16 h by rw [hf_17, va_up_of _ n_h_q5_a]).trans e_h
  have e_q5 := (show f_17 q5 = f_16 q5 by rw [hf_17, va_up_of _ n_q5_q5_a]).trans e_q5
  have e_q17 := (show f_17 q17 = f_16 q17 by rw [hf_17, va_up_of _ (Ne.symm n_q5_a_q17)]).trans e_q17
  have e_q17_r := (show f_17 q17_r = f_16 q17_r by rw [hf_17, va_up_of _ (Ne.symm n_q5_a_q17_r)]).trans e_q17_r
  have e_q17_a := (show f_17 q17_a = f_16 q17_a by rw [hf_17, va_up_of _ (Ne.symm n_q5_a_q17_a)]).trans e_q17_a
  have e_q28 := (show f_17 q28 = f_16 q28 by rw [hf_17, va_up_of _ (Ne.symm n_q5_a_q28)]).trans e_q28
  have e_q28_b0 := (show f_17 q28_b0 = f_16 q28_b0 by rw [hf_17, va_up_of _ (Ne.symm n_q5_a_q28_b0)]).trans e_q28_b0
  have e_q28_b1 := (show f_17 q28_b1 = f_16 q28_b1 by rw [hf_17, va_up_of _ (Ne.symm n_q5_a_q28_b1)]).trans e_q28_b1
  have e_q28_b2 := (show f_17 q28_b2 = f_16 q28_b2 by rw [hf_17, va_up_of _ (Ne.symm n_q5_a_q28_b2)]).trans e_q28_b2
  have e_q28_b3 := (show f_17 q28_b3 = f_16 q28_b3 by rw [hf_17, va_up_of _ (Ne.symm n_q5_a_q28_b3)]).trans e_q28_b3
  have e_q28_b4 := (show f_17 q28_b4 = f_16 q28_b4 by rw [hf_17, va_up_of _ (Ne.symm n_q5_a_q28_b4)]).trans e_q28_b4
  have e_q28_b5 := (show f_17 q28_b5 = f_16 q28_b5 by rw [hf_17, va_up_of _ (Ne.symm n_q5_a_q28_b5)]).trans e_q28_b5
  have e_q28_b6 := (show f_17 q28_b6 = f_16 q28_b6 by rw [hf_17, va_up_of _ (Ne.symm n_q5_a_q28_b6)]).trans e_q28_b6
  have e_q28_b7 := (show f_17 q28_b7 = f_16 q28_b7 by rw [hf_17, va_up_of _ (Ne.symm n_q5_a_q28_b7)]).trans e_q28_b7
  have e_q28_b8 := (show f_17 q28_b8 = f_16 q28_b8 by rw [hf_17, va_up_of _ (Ne.symm n_q5_a_q28_b8)]).trans e_q28_b8
  have e_q28_b9 := (show f_17 q28_b9 = f_16 q28_b9 by rw [hf_17, va_up_of _ (Ne.symm n_q5_a_q28_b9)]).trans e_q28_b9
  have e_q28_b10 := (show f_17 q28_b10 = f_16 q28_b10 by rw [hf_17, va_up_of _ (Ne.symm n_q5_a_q28_b10)]).trans e_q28_b10
  have e_q28_b11 := (show f_17 q28_b11 = f_16 q28_b11 by rw [hf_17, va_up_of _ (Ne.symm n_q5_a_q28_b11)]).trans e_q28_b11
  have e_q28_b12 := (show f_17 q28_b12 = f_16 q28_b12 by rw [hf_17, va_up_of _ (Ne.symm n_q5_a_q28_b12)]).trans e_q28_b12
  have e_q28_b13 := (show f_17 q28_b13 = f_16 q28_b13 by rw [hf_17, va_up_of _ (Ne.symm n_q5_a_q28_b13)]).trans e_q28_b13
  have e_q28_b14 := (show f_17 q28_b14 = f_16 q28_b14 by rw [hf_17, va_up_of _ (Ne.symm n_q5_a_q28_b14)]).trans e_q28_b14
  have e_q28_b15 := (show f_17 q28_b15 = f_16 q28_b15 by rw [hf_17, va_up_of _ (Ne.symm n_q5_a_q28_b15)]).trans e_q28_b15
  have e_q39 := (show f_17 q39 = f_16 q39 by rw [hf_17, va_up_of _ (Ne.symm n_q5_a_q39)]).trans e_q39
  have e_q39_a := (show f_17 q39_a = f_16 q39_a by rw [hf_17, va_up_of _ (Ne.symm n_q5_a_q39_a)]).trans e_q39_a
  have e_q51 := (show f_17 q51 = f_16 q51 by rw [hf_17, va_up_of _ (Ne.symm n_q5_a_q51)]).trans e_q51
  have e_q51_a := (show f_17 q51_a = f_16 q51_a by rw [hf_17, va_up_of _ (Ne.symm n_q5_a_q51_a)]).trans e_q51_a
  have fr : ∀ x ∈ L, x ≠ h → f_17 x = f x := fun x hx hne => (show f_17 x = f_16 x by rw [hf_17, va_up_of _ (nL_q5_a x hx)]).trans (fr x hx hne)
  have e_q5_a : f_17 q5_a = gIA k 4 (rPut 4 (fun _ => 0) 0 2) := by rw [hf_17, va_up_at] <;> rfl
  refine gx_aload_n (q := 0) C dX5_init_77 rfl ?_
  refine gx_get C (i := 0) m_h e_h rfl in_X5_init_5 (by decide) fl_X5_init_14 rfl dX5_init_78 ?_
  refine gx_iconst (v := 1) C dX5_init_81 (by decide) ?_
  refine gx_bipush (v := 8) C dX5_init_82 (by decide) ?_
  refine gx_callM C hD_14 (k_X4_write l hD_14.1 (n := 4) (by decide) m_q5 m_q5_a e_q5 e_q5_a _ _) m_q5 e_q5 rfl (cwV 2 C.2.2.2.2.1 gX5_init_X4_write rfl rfl rfl kdV_X4_write ⟨Nat.le_of_ble_eq_true rfl, Nat.le_of_ble_eq_true rfl⟩) rfl rfl (Nat.le_of_ble_eq_true rfl) ⟨(Nat.le_of_ble_eq_true rfl), (Nat.le_of_ble_eq_true rfl)⟩ dX5_init_84 (fun v_18 f_18 hp_18 => ?_)
  obtain ⟨rfl, hf_18⟩ := hp_18
  refine gx_nil ?_
  have e_h := (show f_18 h = f_17 h by rw [hf_18, va_up_of _ n_h_q5_a]).trans e_h
  have e_q5 := (show f_18 q5 = f_17 q5 by rw [hf_18, va_up_of _ n_q5_q5_a]).trans e_q5
  have e_q17 := (show f_18 q17 = f_17 q17 by rw [hf_18, va_up_of _ (Ne.symm n_q5_a_q17)]).trans e_q17
  have e_q17_r := (show f_18 q17_r = f_17 q17_r by rw [hf_18, va_up_of _ (Ne.symm n_q5_a_q17_r)]).trans e_q17_r
  have e_q17_a := (show f_18 q17_a = f_17 q17_a by rw [hf_18, va_up_of _ (Ne.symm n_q5_a_q17_a)]).trans e_q17_a
  have e_q28 := (show f_18 q28 = f_17 q28 by rw [hf_18, va_up_of _ (Ne.symm n_q5_a_q28)]).trans e_q28
  have e_q28_b0 := (show f_18 q28_b0 = f_17 q28_b0 by rw [hf_18, va_up_of _ (Ne.symm n_q5_a_q28_b0)]).trans e_q28_b0
  have e_q28_b1 := (show f_18 q28_b1 = f_17 q28_b1 by rw [hf_18, va_up_of _ (Ne.symm n_q5_a_q28_b1)]).trans e_q28_b1
  have e_q28_b2 := (show f_18 q28_b2 = f_17 q28_b2 by rw [hf_18, va_up_of _ (Ne.symm n_q5_a_q28_b2)]).trans e_q28_b2
  have e_q28_b3 := (show f_18 q28_b3 = f_17 q28_b3 by rw [hf_18, va_up_of _ (Ne.symm n_q5_a_q28_b3)]).trans e_q28_b3
  have e_q28_b4 := (show f_18 q28_b4 = f_17 q28_b4 by rw [hf_18, va_up_of _ (Ne.symm n_q5_a_q28_b4)]).trans e_q28_b4
  have e_q28_b5 := (show f_18 q28_b5 = f_17 q28_b5 by rw [hf_18, va_up_of _ (Ne.symm n_q5_a_q28_b5)]).trans e_q28_b5
  have e_q28_b6 := (show f_18 q28_b6 = f_17 q28_b6 by rw [hf_18, va_up_of _ (Ne.symm n_q5_a_q28_b6)]).trans e_q28_b6
  have e_q28_b7 := (show f_18 q28_b7 = f_17 q28_b7 by rw [hf_18, va_up_of _ (Ne.symm n_q5_a_q28_b7)]).trans e_q28_b7
  have e_q28_b8 := (show f_18 q28_b8 = f_17 q28_b8 by rw [hf_18, va_up_of _ (Ne.symm n_q5_a_q28_b8)]).trans e_q28_b8
  have e_q28_b9 := (show f_18 q28_b9 = f_17 q28_b9 by rw [hf_18, va_up_of _ (Ne.symm n_q5_a_q28_b9)]).trans e_q28_b9
  have e_q28_b10 := (show f_18 q28_b10 = f_17 q28_b10 by rw [hf_18, va_up_of _ (Ne.symm n_q5_a_q28_b10)]).trans e_q28_b10
  have e_q28_b11 := (show f_18 q28_b11 = f_17 q28_b11 by rw [hf_18, va_up_of _ (Ne.symm n_q5_a_q28_b11)]).trans e_q28_b11
  have e_q28_b12 := (show f_18 q28_b12 = f_17 q28_b12 by rw [hf_18, va_up_of _ (Ne.symm n_q5_a_q28_b12)]).trans e_q28_b12
  have e_q28_b13 := (show f_18 q28_b13 = f_17 q28_b13 by rw [hf_18, va_up_of _ (Ne.symm n_q5_a_q28_b13)]).trans e_q28_b13
  have e_q28_b14 := (show f_18 q28_b14 = f_17 q28_b14 by rw [hf_18, va_up_of _ (Ne.symm n_q5_a_q28_b14)]).trans e_q28_b14
  have e_q28_b15 := (show f_18 q28_b15 = f_17 q28_b15 by rw [hf_18, va_up_of _ (Ne.symm n_q5_a_q28_b15)]).trans e_q28_b15
  have e_q39 := (show f_18 q39 = f_17 q39 by rw [hf_18, va_up_of _ (Ne.symm n_q5_a_q39)]).trans e_q39
  have e_q39_a := (show f_18 q39_a = f_17 q39_a by rw [hf_18, va_up_of _ (Ne.symm n_q5_a_q39_a)]).trans e_q39_a
  have e_q51 := (show f_18 q51 = f_17 q51 by rw [hf_18, va_up_of _ (Ne.symm n_q5_a_q51)]).trans e_q51
  have e_q51_a := (show f_18 q51_a = f_17 q51_a by rw [hf_18, va_up_of _ (Ne.symm n_q5_a_q51_a)]).trans e_q51_a
  have fr : ∀ x ∈ L, x ≠ h → f_18 x = f x := fun x hx hne => (show f_18 x = f_17 x by rw [hf_18, va_up_of _ (nL_q5_a x hx)]).trans (fr x hx hne)
  have e_q5_a : f_18 q5_a = gIA k 4 (rPut 4 (rPut 4 (fun _ => 0) 0 2) 1 8) := by rw [hf_18, va_up_at] <;> rfl
  refine gx_aload_n (q := 0) C dX5_init_87 rfl ?_
  refine gx_get C (i := 0) m_h e_h rfl in_X5_init_5 (by decide) fl_X5_init_14 rfl dX5_init_88 ?_
  refine gx_iconst (v := 2) C dX5_init_91 (by decide) ?_
  refine gx_bipush (v := 120) C dX5_init_92 (by decide) ?_
  refine gx_callM C hD_14 (k_X4_write l hD_14.1 (n := 4) (by decide) m_q5 m_q5_a e_q5 e_q5_a _ _) m_q5 e_q5 rfl (cwV 2 C.2.2.2.2.1 gX5_init_X4_write rfl rfl rfl kdV_X4_write ⟨Nat.le_of_ble_eq_true rfl, Nat.le_of_ble_eq_true rfl⟩) rfl rfl (Nat.le_of_ble_eq_true rfl) ⟨(Nat.le_of_ble_eq_true rfl), (Nat.le_of_ble_eq_true rfl)⟩ dX5_init_94 (fun v_19 f_19 hp_19 => ?_)
  obtain ⟨rfl, hf_19⟩ := hp_19
  refine gx_nil ?_
  have e_h := (show f_19 h = f_18 h by rw [hf_19, va_up_of _ n_h_q5_a]).trans e_h
  have e_q5 := (show f_19 q5 = f_18 q5 by rw [hf_19, va_up_of _ n_q5_q5_a]).trans e_q5
  have e_q17 := (show f_19 q17 = f_18 q17 by rw [hf_19, va_up_of _ (Ne.symm n_q5_a_q17)]).trans e_q17
  have e_q17_r := (show f_19 q17_r = f_18 q17_r by rw [hf_19, va_up_of _ (Ne.symm n_q5_a_q17_r)]).trans e_q17_r
  have e_q17_a := (show f_19 q17_a = f_18 q17_a by rw [hf_19, va_up_of _ (Ne.symm n_q5_a_q17_a)]).trans e_q17_a
  have e_q28 := (show f_19 q28 = f_18 q28 by rw [hf_19, va_up_of _ (Ne.symm n_q5_a_q28)]).trans e_q28
  have e_q28_b0 := (show f_19 q28_b0 = f_18 q28_b0 by rw [hf_19, va_up_of _ (Ne.symm n_q5_a_q28_b0)]).trans e_q28_b0
  have e_q28_b1 := (show f_19 q28_b1 = f_18 q28_b1 by rw [hf_19, va_up_of _ (Ne.symm n_q5_a_q28_b1)]).trans e_q28_b1
  have e_q28_b2 := (show f_19 q28_b2 = f_18 q28_b2 by rw [hf_19, va_up_of _ (Ne.symm n_q5_a_q28_b2)]).trans e_q28_b2
  have e_q28_b3 := (show f_19 q28_b3 = f_18 q28_b3 by rw [hf_19, va_up_of _ (Ne.symm n_q5_a_q28_b3)]).trans e_q28_b3
  have e_q28_b4 := (show f_19 q28_b4 = f_18 q28_b4 by rw [hf_19, va_up_of _ (Ne.symm n_q5_a_q28_b4)]).trans e_q28_b4
  have e_q28_b5 := (show f_19 q28_b5 = f_18 q28_b5 by rw [hf_19, va_up_of _ (Ne.symm n_q5_a_q28_b5)]).trans e_q28_b5
  have e_q28_b6 := (show f_19 q28_b6 = f_18 q28_b6 by rw [hf_19, va_up_of _ (Ne.symm n_q5_a_q28_b6)]).trans e_q28_b6
  have e_q28_b7 := (show f_19 q28_b7 = f_18 q28_b7 by rw [hf_19, va_up_of _ (Ne.symm n_q5_a_q28_b7)]).trans e_q28_b7
  have e_q28_b8 := (show f_19 q28_b8 = f_18 q28_b8 by rw [hf_19, va_up_of _ (Ne.symm n_q5_a_q28_b8)]).trans e_q28_b8
  have e_q28_b9 := (show f_19 q28_b9 = f_18 q28_b9 by rw [hf_19, va_up_of _ (Ne.symm n_q5_a_q28_b9)]).trans e_q28_b9
  have e_q28_b10 := (show f_19 q28_b10 = f_18 q28_b10 by rw [hf_19, va_up_of _ (Ne.symm n_q5_a_q28_b10)]).trans e_q28_b10
  have e_q28_b11 := (show f_19 q28_b11 = f_18 q28_b11 by rw [hf_19, va_up_of _ (Ne.symm n_q5_a_q28_b11)]).trans e_q28_b11
  have e_q28_b12 := (show f_19 q28_b12 = f_18 q28_b12 by rw [hf_19, va_up_of _ (Ne.symm n_q5_a_q28_b12)]).trans e_q28_b12
  have e_q28_b13 := (show f_19 q28_b13 = f_18 q28_b13 by rw [hf_19, va_up_of _ (Ne.symm n_q5_a_q28_b13)]).trans e_q28_b13
  have e_q28_b14 := (show f_19 q28_b14 = f_18 q28_b14 by rw [hf_19, va_up_of _ (Ne.symm n_q5_a_q28_b14)]).trans e_q28_b14
  have e_q28_b15 := (show f_19 q28_b15 = f_18 q28_b15 by rw [hf_19, va_up_of _ (Ne.symm n_q5_a_q28_b15)]).trans e_q28_b15
  have e_q39 := (show f_19 q39 = f_18 q39 by rw [hf_19, va_up_of _ (Ne.symm n_q5_a_q39)]).trans e_q39
  have e_q39_a := (show f_19 q39_a = f_18 q39_a by rw [hf_19, va_up_of _ (Ne.symm n_q5_a_q39_a)]).trans e_q39_a
  have e_q51 := (show f_19 q51 = f_18 q51 by rw [hf_19, va_up_of _ (Ne.symm n_q5_a_q51)]).trans e_q51
  have e_q51_a := (show f_19 q51_a = f_18 q51_a by rw [hf_19, va_up_of _ (Ne.symm n_q5_a_q51_a)]).trans e_q51_a
  have fr : ∀ x ∈ L, x ≠ h → f_19 x = f x := fun x hx hne => (show f_19 x = f_18 x by rw [hf_19, va_up_of _ (nL_q5_a x hx)]).trans (fr x hx hne)
  have e_q5_a : f_19 q5_a = gIA k 4 (rPut 4 (rPut 4 (rPut 4 (fun _ => 0) 0 2) 1 8) 2 120) := by rw [hf_19, va_up_at] <;> rfl
  refine gx_aload_n (q := 0) C dX5_init_97 rfl ?_
  refine gx_get C (i := 0) m_h e_h rfl in_X5_init_5 (by decide) fl_X5_init_14 rfl dX5_init_98 ?_
  refine gx_iconst (v := 3) C dX5_init_101 (by decide) ?_
  refine gx_iconst (v := 3) C dX5_init_102 (by decide) ?_
  refine gx_callM C hD_14 (k_X4_write l hD_14.1 (n := 4) (by decide) m_q5 m_q5_a e_q5 e_q5_a _ _) m_q5 e_q5 rfl (cwV 2 C.2.2.2.2.1 gX5_init_X4_write rfl rfl rfl kdV_X4_write ⟨Nat.le_of_ble_eq_true rfl, Nat.le_of_ble_eq_true rfl⟩) rfl rfl (Nat.le_of_ble_eq_true rfl) ⟨(Nat.le_of_ble_eq_true rfl), (Nat.le_of_ble_eq_true rfl)⟩ dX5_init_103 (fun v_20 f_20 hp_20 => ?_)
  obtain ⟨rfl, hf_20⟩ := hp_20
  refine gx_nil ?_
  have e_h := (show f_20 h = f_19 h by rw [hf_20, va_up_of _ n_h_q5_a]).trans e_h
  have e_q5 := (show f_20 q5 = f_19 q5 by rw [hf_20, va_up_of _ n_q5_q5_a]).trans e_q5
  have e_q17 := (show f_20 q17 = f_19 q17 by rw [hf_20, va_up_of _ (Ne.symm n_q5_a_q17)]).trans e_q17
  have e_q17_r := (show f_20 q17_r = f_19 q17_r by rw [hf_20, va_up_of _ (Ne.symm n_q5_a_q17_r)]).trans e_q17_r
  have e_q17_a := (show f_20 q17_a = f_19 q17_a by rw [hf_20, va_up_of _ (Ne.symm n_q5_a_q17_a)]).trans e_q17_a
  have e_q28 := (show f_20 q28 = f_19 q28 by rw [hf_20, va_up_of _ (Ne.symm n_q5_a_q28)]).trans e_q28
  have e_q28_b0 := (show f_20 q28_b0 = f_19 q28_b0 by rw [hf_20, va_up_of _ (Ne.symm n_q5_a_q28_b0)]).trans e_q28_b0
  have e_q28_b1 := (show f_20 q28_b1 = f_19 q28_b1 by rw [hf_20, va_up_of _ (Ne.symm n_q5_a_q28_b1)]).trans e_q28_b1
  have e_q28_b2 := (show f_20 q28_b2 = f_19 q28_b2 by rw [hf_20, va_up_of _ (Ne.symm n_q5_a_q28_b2)]).trans e_q28_b2
  have e_q28_b3 := (show f_20 q28_b3 = f_19 q28_b3 by rw [hf_20, va_up_of _ (Ne.symm n_q5_a_q28_b3)]).trans e_q28_b3
  have e_q28_b4 := (show f_20 q28_b4 = f_19 q28_b4 by rw [hf_20, va_up_of _ (Ne.symm n_q5_a_q28_b4)]).trans e_q28_b4
  have e_q28_b5 := (show f_20 q28_b5 = f_19 q28_b5 by rw [hf_20, va_up_of _ (Ne.symm n_q5_a_q28_b5)]).trans e_q28_b5
  have e_q28_b6 := (show f_20 q28_b6 = f_19 q28_b6 by rw [hf_20, va_up_of _ (Ne.symm n_q5_a_q28_b6)]).trans e_q28_b6
  have e_q28_b7 := (show f_20 q28_b7 = f_19 q28_b7 by rw [hf_20, va_up_of _ (Ne.symm n_q5_a_q28_b7)]).trans e_q28_b7
  have e_q28_b8 := (show f_20 q28_b8 = f_19 q28_b8 by rw [hf_20, va_up_of _ (Ne.symm n_q5_a_q28_b8)]).trans e_q28_b8
  have e_q28_b9 := (show f_20 q28_b9 = f_19 q28_b9 by rw [hf_20, va_up_of _ (Ne.symm n_q5_a_q28_b9)]).trans e_q28_b9
  have e_q28_b10 := (show f_20 q28_b10 = f_19 q28_b10 by rw [hf_20, va_up_of _ (Ne.symm n_q5_a_q28_b10)]).trans e_q28_b10
  have e_q28_b11 := (show f_20 q28_b11 = f_19 q28_b11 by rw [hf_20, va_up_of _ (Ne.symm n_q5_a_q28_b11)]).trans e_q28_b11
  have e_q28_b12 := (show f_20 q28_b12 = f_19 q28_b12 by rw [hf_20, va_up_of _ (Ne.symm n_q5_a_q28_b12)]).trans e_q28_b12
  have e_q28_b13 := (show f_20 q28_b13 = f_19 q28_b13 by rw [hf_20, va_up_of _ (Ne.symm n_q5_a_q28_b13)]).trans e_q28_b13
  have e_q28_b14 := (show f_20 q28_b14 = f_19 q28_b14 by rw [hf_20, va_up_of _ (Ne.symm n_q5_a_q28_b14)]).trans e_q28_b14
  have e_q28_b15 := (show f_20 q28_b15 = f_19 q28_b15 by rw [hf_20, va_up_of _ (Ne.symm n_q5_a_q28_b15)]).trans e_q28_b15
  have e_q39 := (show f_20 q39 = f_19 q39 by rw [hf_20, va_up_of _ (Ne.symm n_q5_a_q39)]).trans e_q39
  have e_q39_a := (show f_20 q39_a = f_19 q39_a by rw [hf_20, va_up_of _ (Ne.symm n_q5_a_q39_a)]).trans e_q39_a
  have e_q51 := (show f_20 q51 = f_19 q51 by rw [hf_20, va_up_of _ (Ne.symm n_q5_a_q51)]).trans e_q51
  have e_q51_a := (show f_20 q51_a = f_19 q51_a by rw [hf_20, va_up_of _ (Ne.symm n_q5_a_q51_a)]).trans e_q51_a
  have fr : ∀ x ∈ L, x ≠ h → f_20 x = f x := fun x hx hne => (show f_20 x = f_19 x by rw [hf_20, va_up_of _ (nL_q5_a x hx)]).trans (fr x hx hne)
  have e_q5_a : f_20 q5_a = gIA k 4 (rPut 4 (rPut 4 (rPut 4 (rPut 4 (fun _ => 0) 0 2) 1 8) 2 120) 3 3) := by rw [hf_20, va_up_at] <;> rfl
  refine gx_iconst (v := 0) C dX5_init_106 (by decide) ?_
  refine gx_istore_n C (i := 1) [(1, _), (0, _)] dX5_init_107 rfl (by decide) rfl ?_
  refine gx_iload_n (q := 0) C dX5_init_108 rfl ?_
  refine gx_iconst (v := 4) C dX5_init_109 (by decide) ?_
  refine gx_icmp_ge (tgt := 129) C dX5_init_110 (by decide) (fun c_110 => ?_) (fun c_110 => ?_)
  exact absurd c_110 (by decide)
  refine gx_aload_n (q := 1) C dX5_init_113 rfl ?_
  refine gx_get C (i := 3) m_h e_h rfl in_X5_init_5 (by decide) fl_X5_init_34 rfl dX5_init_114 ?_
  refine gx_iload_n (q := 0) C dX5_init_117 rfl ?_
  refine gx_bipush (v := 20) C dX5_init_118 (by decide) ?_
  refine gx_callM C hD_14 (k_X4_write l hD_14.1 (n := 4) (by decide) m_q39 m_q39_a e_q39 e_q39_a _ _) m_q39 e_q39 rfl (cwV 2 C.2.2.2.2.1 gX5_init_X4_write rfl rfl rfl kdV_X4_write ⟨Nat.le_of_ble_eq_true rfl, Nat.le_of_ble_eq_true rfl⟩) rfl rfl (Nat.le_of_ble_eq_true rfl) ⟨(Nat.le_of_ble_eq_true rfl), (Nat.le_of_ble_eq_true rfl)⟩ dX5_init_120 (fun v_21 f_21 hp_21 => ?_)
  obtain ⟨rfl, hf_21⟩ := hp_21
  refine gx_nil ?_
  have e_h := (show f_21 h = f_20 h by rw [hf_21, va_up_of _ n_h_q39_a]).trans e_h
  have e_q5 := (show f_21 q5 = f_20 q5 by rw [hf_21, va_up_of _ n_q5_q39_a]).trans e_q5
  have e_q5_a := (show f_21 q5_a = f_20 q5_a by rw [hf_21, va_up_of _ n_q5_a_q39_a]).trans e_q5_a
  have e_q17 := (show f_21 q17 = f_20 q17 by rw [hf_21, va_up_of _ n_q17_q39_a]).trans e_q17
  have e_q17_r := (show f_21 q17_r = f_20 q17_r by rw [hf_21, va_up_of _ n_q17_r_q39_a]).trans e_q17_r
  have e_q17_a := (show f_21 q17_a = f_20 q17_a by rw [hf_21, va_up_of _ n_q17_a_q39_a]).trans e_q17_a
  have e_q28 := (show f_21 q28 = f_20 q28 by rw [hf_21, va_up_of _ n_q28_q39_a]).trans e_q28
  have e_q28_b0 := (show f_21 q28_b0 = f_20 q28_b0 by rw [hf_21, va_up_of _ n_q28_b0_q39_a]).trans e_q28_b0
  have e_q28_b1 := (show f_21 q28_b1 = f_20 q28_b1 by rw [hf_21, va_up_of _ n_q28_b1_q39_a]).trans e_q28_b1
  have e_q28_b2 := (show f_21 q28_b2 = f_20 q28_b2 by rw [hf_21, va_up_of _ n_q28_b2_q39_a]).trans e_q28_b2
  have e_q28_b3 := (show f_21 q28_b3 = f_20 q28_b3 by rw [hf_21, va_up_of _ n_q28_b3_q39_a]).trans e_q28_b3
  have e_q28_b4 := (show f_21 q28_b4 = f_20 q28_b4 by rw [hf_21, va_up_of _ n_q28_b4_q39_a]).trans e_q28_b4
  have e_q28_b5 := (show f_21 q28_b5 = f_20 q28_b5 by rw [hf_21, va_up_of _ n_q28_b5_q39_a]).trans e_q28_b5
  have e_q28_b6 := (show f_21 q28_b6 = f_20 q28_b6 by rw [hf_21, va_up_of _ n_q28_b6_q39_a]).trans e_q28_b6
  have e_q28_b7 := (show f_21 q28_b7 = f_20 q28_b7 by rw [hf_21, va_up_of _ n_q28_b7_q39_a]).trans e_q28_b7
  have e_q28_b8 := (show f_21 q28_b8 = f_20 q28_b8 by rw [hf_21, va_up_of _ n_q28_b8_q39_a]).trans e_q28_b8
  have e_q28_b9 := (show f_21 q28_b9 = f_20 q28_b9 by rw [hf_21, va_up_of _ n_q28_b9_q39_a]).trans e_q28_b9
  have e_q28_b10 := (show f_21 q28_b10 = f_20 q28_b10 by rw [hf_21, va_up_of _ n_q28_b10_q39_a]).trans e_q28_b10
  have e_q28_b11 := (show f_21 q28_b11 = f_20 q28_b11 by rw [hf_21, va_up_of _ n_q28_b11_q39_a]).trans e_q28_b11
  have e_q28_b12 := (show f_21 q28_b12 = f_20 q28_b12 by rw [hf_21, va_up_of _ n_q28_b12_q39_a]).trans e_q28_b12
  have e_q28_b13 := (show f_21 q28_b13 = f_20 q28_b13 by rw [hf_21, va_up_of _ n_q28_b13_q39_a]).trans e_q28_b13
  have e_q28_b14 := (show f_21 q28_b14 = f_20 q28_b14 by rw [hf_21, va_up_of _ n_q28_b14_q39_a]).trans e_q28_b14
  have e_q28_b15 := (show f_21 q28_b15 = f_20 q28_b15 by rw [hf_21, va_up_of _ n_q28_b15_q39_a]).trans e_q28_b15
  have e_q39 := (show f_21 q39 = f_20 q39 by rw [hf_21, va_up_of _ n_q39_q39_a]).trans e_q39
  have e_q51 := (show f_21 q51 = f_20 q51 by rw [hf_21, va_up_of _ (Ne.symm n_q39_a_q51)]).trans e_q51
  have e_q51_a := (show f_21 q51_a = f_20 q51_a by rw [hf_21, va_up_of _ (Ne.symm n_q39_a_q51_a)]).trans e_q51_a
  have fr : ∀ x ∈ L, x ≠ h → f_21 x = f x := fun x hx hne => (show f_21 x = f_20 x by rw [hf_21, va_up_of _ (nL_q39_a x hx)]).trans (fr x hx hne)
  have e_q39_a : f_21 q39_a = gIA k 4 (rPut 4 (fun _ => 0) 0 20) := by rw [hf_21, va_up_at] <;> rfl
  refine gx_iinc C (q := 0) (v := 1) [(1, _), (0, _)] dX5_init_123 rfl (by decide) (by decide) rfl ?_
  refine gx_goto (tgt := 108) C dX5_init_126 (by decide) ?_
  refine gx_iload_n (q := 0) C dX5_init_108 rfl ?_
  refine gx_iconst (v := 4) C dX5_init_109 (by decide) ?_
  refine gx_icmp_ge (tgt := 129) C dX5_init_110 (by decide) (fun c_110_1 => ?_) (fun c_110_1 => ?_)
  exact absurd c_110_1 (by decide)
  refine gx_aload_n (q := 1) C dX5_init_113 rfl ?_
  refine gx_get C (i := 3) m_h e_h rfl in_X5_init_5 (by decide) fl_X5_init_34 rfl dX5_init_114 ?_
  refine gx_iload_n (q := 0) C dX5_init_117 rfl ?_
  refine gx_bipush (v := 20) C dX5_init_118 (by decide) ?_
  refine gx_callM C hD_14 (k_X4_write l hD_14.1 (n := 4) (by decide) m_q39 m_q39_a e_q39 e_q39_a _ _) m_q39 e_q39 rfl (cwV 2 C.2.2.2.2.1 gX5_init_X4_write rfl rfl rfl kdV_X4_write ⟨Nat.le_of_ble_eq_true rfl, Nat.le_of_ble_eq_true rfl⟩) rfl rfl (Nat.le_of_ble_eq_true rfl) ⟨(Nat.le_of_ble_eq_true rfl), (Nat.le_of_ble_eq_true rfl)⟩ dX5_init_120 (fun v_22 f_22 hp_22 => ?_)
  obtain ⟨rfl, hf_22⟩ := hp_22
  refine gx_nil ?_
  have e_h := (show f_22 h = f_21 h by rw [hf_22, va_up_of _ n_h_q39_a]).trans e_h
  have e_q5 := (show f_22 q5 = f_21 q5 by rw [hf_22, va_up_of _ n_q5_q39_a]).trans e_q5
  have e_q5_a := (show f_22 q5_a = f_21 q5_a by rw [hf_22, va_up_of _ n_q5_a_q39_a]).trans e_q5_a
  have e_q17 := (show f_22 q17 = f_21 q17 by rw [hf_22, va_up_of _ n_q17_q39_a]).trans e_q17
  have e_q17_r := (show f_22 q17_r = f_21 q17_r by rw [hf_22, va_up_of _ n_q17_r_q39_a]).trans e_q17_r
  have e_q17_a := (show f_22 q17_a = f_21 q17_a by rw [hf_22, va_up_of _ n_q17_a_q39_a]).trans e_q17_a
  have e_q28 := (show f_22 q28 = f_21 q28 by rw [hf_22, va_up_of _ n_q28_q39_a]).trans e_q28
  have e_q28_b0 := (show f_22 q28_b0 = f_21 q28_b0 by rw [hf_22, va_up_of _ n_q28_b0_q39_a]).trans e_q28_b0
  have e_q28_b1 := (show f_22 q28_b1 = f_21 q28_b1 by rw [hf_22, va_up_of _ n_q28_b1_q39_a]).trans e_q28_b1
  have e_q28_b2 := (show f_22 q28_b2 = f_21 q28_b2 by rw [hf_22, va_up_of _ n_q28_b2_q39_a]).trans e_q28_b2
  have e_q28_b3 := (show f_22 q28_b3 = f_21 q28_b3 by rw [hf_22, va_up_of _ n_q28_b3_q39_a]).trans e_q28_b3
  have e_q28_b4 := (show f_22 q28_b4 = f_21 q28_b4 by rw [hf_22, va_up_of _ n_q28_b4_q39_a]).trans e_q28_b4
  have e_q28_b5 := (show f_22 q28_b5 = f_21 q28_b5 by rw [hf_22, va_up_of _ n_q28_b5_q39_a]).trans e_q28_b5
  have e_q28_b6 := (show f_22 q28_b6 = f_21 q28_b6 by rw [hf_22, va_up_of _ n_q28_b6_q39_a]).trans e_q28_b6
  have e_q28_b7 := (show f_22 q28_b7 = f_21 q28_b7 by rw [hf_22, va_up_of _ n_q28_b7_q39_a]).trans e_q28_b7
  have e_q28_b8 := (show f_22 q28_b8 = f_21 q28_b8 by rw [hf_22, va_up_of _ n_q28_b8_q39_a]).trans e_q28_b8
  have e_q28_b9 := (show f_22 q28_b9 = f_21 q28_b9 by rw [hf_22, va_up_of _ n_q28_b9_q39_a]).trans e_q28_b9
  have e_q28_b10 := (show f_22 q28_b10 = f_21 q28_b10 by rw [hf_22, va_up_of _ n_q28_b10_q39_a]).trans e_q28_b10
  have e_q28_b11 := (show f_22 q28_b11 = f_21 q28_b11 by rw [hf_22, va_up_of _ n_q28_b11_q39_a]).trans e_q28_b11
  have e_q28_b12 := (show f_22 q28_b12 = f_21 q28_b12 by rw [hf_22, va_up_of _ n_q28_b12_q39_a]).trans e_q28_b12
  have e_q28_b13 := (show f_22 q28_b13 = f_21 q28_b13 by rw [hf_22, va_up_of _ n_q28_b13_q39_a]).trans e_q28_b13
  have e_q28_b14 := (show f_22 q28_b14 = f_21 q28_b14 by rw [hf_22, va_up_of _ n_q28_b14_q39_a]).trans e_q28_b14
  have e_q28_b15 := (show f_22 q28_b15 = f_21 q28_b15 by rw [hf_22, va_up_of _ n_q28_b15_q39_a]).trans e_q28_b15
  have e_q39 := (show f_22 q39 = f_21 q39 by rw [hf_22, va_up_of _ n_q39_q39_a]).trans e_q39
  have e_q51 := (show f_22 q51 = f_21 q51 by rw [hf_22, va_up_of _ (Ne.symm n_q39_a_q51)]).trans e_q51
  have e_q51_a := (show f_22 q51_a = f_21 q51_a by rw [hf_22, va_up_of _ (Ne.symm n_q39_a_q51_a)]).trans e_q51_a
  have fr : ∀ x ∈ L, x ≠ h → f_22 x = f x := fun x hx hne => (show f_22 x = f_21 x by rw [hf_22, va_up_of _ (nL_q39_a x hx)]).trans (fr x hx hne)
  have e_q39_a : f_22 q39_a = gIA k 4 (rPut 4 (rPut 4 (fun _ => 0) 0 20) 1 20) := by rw [hf_22, va_up_at] <;> rfl
  refine gx_iinc C (q := 0) (v := 2) [(1, _), (0, _)] dX5_init_123 rfl (by decide) (by decide) rfl ?_
  refine gx_goto (tgt := 108) C dX5_init_126 (by decide) ?_
  refine gx_iload_n (q := 0) C dX5_init_108 rfl ?_
  refine gx_iconst (v := 4) C dX5_init_109 (by decide) ?_
  refine gx_icmp_ge (tgt := 129) C dX5_init_110 (by decide) (fun c_110_2 => ?_) (fun c_110_2 => ?_)
  exact absurd c_110_2 (by decide)
  refine gx_aload_n (q := 1) C dX5_init_113 rfl ?_
  refine gx_get C (i := 3) m_h e_h rfl in_X5_init_5 (by decide) fl_X5_init_34 rfl dX5_init_114 ?_
  refine gx_iload_n (q := 0) C dX5_init_117 rfl ?_
  refine gx_bipush (v := 20) C dX5_init_118 (by decide) ?_
  refine gx_callM C hD_14 (k_X4_write l hD_14.1 (n := 4) (by decide) m_q39 m_q39_a e_q39 e_q39_a _ _) m_q39 e_q39 rfl (cwV 2 C.2.2.2.2.1 gX5_init_X4_write rfl rfl rfl kdV_X4_write ⟨Nat.le_of_ble_eq_true rfl, Nat.le_of_ble_eq_true rfl⟩) rfl rfl (Nat.le_of_ble_eq_true rfl) ⟨(Nat.le_of_ble_eq_true rfl), (Nat.le_of_ble_eq_true rfl)⟩ dX5_init_120 (fun v_23 f_23 hp_23 => ?_)
  obtain ⟨rfl, hf_23⟩ := hp_23
  refine gx_nil ?_
  have e_h := (show f_23 h = f_22 h by rw [hf_23, va_up_of _ n_h_q39_a]).trans e_h
  have e_q5 := (show f_23 q5 = f_22 q5 by rw [hf_23, va_up_of _ n_q5_q39_a]).trans e_q5
  have e_q5_a := (show f_23 q5_a = f_22 q5_a by rw [hf_23, va_up_of _ n_q5_a_q39_a]).trans e_q5_a
  have e_q17 := (show f_23 q17 = f_22 q17 by rw [hf_23, va_up_of _ n_q17_q39_a]).trans e_q17
  have e_q17_r := (show f_23 q17_r = f_22 q17_r by rw [hf_23, va_up_of _ n_q17_r_q39_a]).trans e_q17_r
  have e_q17_a := (show f_23 q17_a = f_22 q17_a by rw [hf_23, va_up_of _ n_q17_a_q39_a]).trans e_q17_a
  have e_q28 := (show f_23 q28 = f_22 q28 by rw [hf_23, va_up_of _ n_q28_q39_a]).trans e_q28
  have e_q28_b0 := (show f_23 q28_b0 = f_22 q28_b0 by rw [hf_23, va_up_of _ n_q28_b0_q39_a]).trans e_q28_b0
  have e_q28_b1 := (show f_23 q28_b1 = f_22 q28_b1 by rw [hf_23, va_up_of _ n_q28_b1_q39_a]).trans e_q28_b1
  have e_q28_b2 := (show f_23 q28_b2 = f_22 q28_b2 by rw [hf_23, va_up_of _ n_q28_b2_q39_a]).trans e_q28_b2
  have e_q28_b3 := (show f_23 q28_b3 = f_22 q28_b3 by rw [hf_23, va_up_of _ n_q28_b3_q39_a]).trans e_q28_b3
  have e_q28_b4 := (show f_23 q28_b4 = f_22 q28_b4 by rw [hf_23, va_up_of _ n_q28_b4_q39_a]).trans e_q28_b4
  have e_q28_b5 := (show f_23 q28_b5 = f_22 q28_b5 by rw [hf_23, va_up_of _ n_q28_b5_q39_a]).trans e_q28_b5
  have e_q28_b6 := (show f_23 q28_b6 = f_22 q28_b6 by rw [hf_23, va_up_of _ n_q28_b6_q39_a]).trans e_q28_b6
  have e_q28_b7 := (show f_23 q28_b7 = f_22 q28_b7 by rw [hf_23, va_up_of _ n_q28_b7_q39_a]).trans e_q28_b7
  have e_q28_b8 := (show f_23 q28_b8 = f_22 q28_b8 by rw [hf_23, va_up_of _ n_q28_b8_q39_a]).trans e_q28_b8
  have e_q28_b9 := (show f_23 q28_b9 = f_22 q28_b9 by rw [hf_23, va_up_of _ n_q28_b9_q39_a]).trans e_q28_b9
  have e_q28_b10 := (show f_23 q28_b10 = f_22 q28_b10 by rw [hf_23, va_up_of _ n_q28_b10_q39_a]).trans e_q28_b10
  have e_q28_b11 := (show f_23 q28_b11 = f_22 q28_b11 by rw [hf_23, va_up_of _ n_q28_b11_q39_a]).trans e_q28_b11
  have e_q28_b12 := (show f_23 q28_b12 = f_22 q28_b12 by rw [hf_23, va_up_of _ n_q28_b12_q39_a]).trans e_q28_b12
  have e_q28_b13 := (show f_23 q28_b13 = f_22 q28_b13 by rw [hf_23, va_up_of _ n_q28_b13_q39_a]).trans e_q28_b13
  have e_q28_b14 := (show f_23 q28_b14 = f_22 q28_b14 by rw [hf_23, va_up_of _ n_q28_b14_q39_a]).trans e_q28_b14
  have e_q28_b15 := (show f_23 q28_b15 = f_22 q28_b15 by rw [hf_23, va_up_of _ n_q28_b15_q39_a]).trans e_q28_b15
  have e_q39 := (show f_23 q39 = f_22 q39 by rw [hf_23, va_up_of _ n_q39_q39_a]).trans e_q39
  have e_q51 := (show f_23 q51 = f_22 q51 by rw [hf_23, va_up_of _ (Ne.symm n_q39_a_q51)]).trans e_q51
  have e_q51_a := (show f_23 q51_a = f_22 q51_a by rw [hf_23, va_up_of _ (Ne.symm n_q39_a_q51_a)]).trans e_q51_a
  have fr : ∀ x ∈ L, x ≠ h → f_23 x = f x := fun x hx hne => (show f_23 x = f_22 x by rw [hf_23, va_up_of _ (nL_q39_a x hx)]).trans (fr x hx hne)
  have e_q39_a : f_23 q39_a = gIA k 4 (rPut 4 (rPut 4 (rPut 4 (fun _ => 0) 0 20) 1 20) 2 20) := by rw [hf_23, va_up_at] <;> rfl
  refine gx_iinc C (q := 0) (v := 3) [(1, _), (0, _)] dX5_init_123 rfl (by decide) (by decide) rfl ?_
  refine gx_goto (tgt := 108) C dX5_init_126 (by decide) ?_
  refine gx_iload_n (q := 0) C dX5_init_108 rfl ?_
  refine gx_iconst (v := 4) C dX5_init_109 (by decide) ?_
  refine gx_icmp_ge (tgt := 129) C dX5_init_110 (by decide) (fun c_110_3 => ?_) (fun c_110_3 => ?_)
  exact absurd c_110_3 (by decide)
  refine gx_aload_n (q := 1) C dX5_init_113 rfl ?_
  refine gx_get C (i := 3) m_h e_h rfl in_X5_init_5 (by decide) fl_X5_init_34 rfl dX5_init_114 ?_
  refine gx_iload_n (q := 0) C dX5_init_117 rfl ?_
  refine gx_bipush (v := 20) C dX5_init_118 (by decide) ?_
  refine gx_callM C hD_14 (k_X4_write l hD_14.1 (n := 4) (by decide) m_q39 m_q39_a e_q39 e_q39_a _ _) m_q39 e_q39 rfl (cwV 2 C.2.2.2.2.1 gX5_init_X4_write rfl rfl rfl kdV_X4_write ⟨Nat.le_of_ble_eq_true rfl, Nat.le_of_ble_eq_true rfl⟩) rfl rfl (Nat.le_of_ble_eq_true rfl) ⟨(Nat.le_of_ble_eq_true rfl), (Nat.le_of_ble_eq_true rfl)⟩ dX5_init_120 (fun v_24 f_24 hp_24 => ?_)
  obtain ⟨rfl, hf_24⟩ := hp_24
  refine gx_nil ?_
  have e_h := (show f_24 h = f_23 h by rw [hf_24, va_up_of _ n_h_q39_a]).trans e_h
  have e_q5 := (show f_24 q5 = f_23 q5 by rw [hf_24, va_up_of _ n_q5_q39_a]).trans e_q5
  have e_q5_a := (show f_24 q5_a = f_23 q5_a by rw [hf_24, va_up_of _ n_q5_a_q39_a]).trans e_q5_a
  have e_q17 := (show f_24 q17 = f_23 q17 by rw [hf_24, va_up_of _ n_q17_q39_a]).trans e_q17
  have e_q17_r := (show f_24 q17_r = f_23 q17_r by rw [hf_24, va_up_of _ n_q17_r_q39_a]).trans e_q17_r
  have e_q17_a := (show f_24 q17_a = f_23 q17_a by rw [hf_24, va_up_of _ n_q17_a_q39_a]).trans e_q17_a
  have e_q28 := (show f_24 q28 = f_23 q28 by rw [hf_24, va_up_of _ n_q28_q39_a]).trans e_q28
  have e_q28_b0 := (show f_24 q28_b0 = f_23 q28_b0 by rw [hf_24, va_up_of _ n_q28_b0_q39_a]).trans e_q28_b0
  have e_q28_b1 := (show f_24 q28_b1 = f_23 q28_b1 by rw [hf_24, va_up_of _ n_q28_b1_q39_a]).trans e_q28_b1
  have e_q28_b2 := (show f_24 q28_b2 = f_23 q28_b2 by rw [hf_24, va_up_of _ n_q28_b2_q39_a]).trans e_q28_b2
  have e_q28_b3 := (show f_24 q28_b3 = f_23 q28_b3 by rw [hf_24, va_up_of _ n_q28_b3_q39_a]).trans e_q28_b3
  have e_q28_b4 := (show f_24 q28_b4 = f_23 q28_b4 by rw [hf_24, va_up_of _ n_q28_b4_q39_a]).trans e_q28_b4
  have e_q28_b5 := (show f_24 q28_b5 = f_23 q28_b5 by rw [hf_24, va_up_of _ n_q28_b5_q39_a]).trans e_q28_b5
  have e_q28_b6 := (show f_24 q28_b6 = f_23 q28_b6 by rw [hf_24, va_up_of _ n_q28_b6_q39_a]).trans e_q28_b6
  have e_q28_b7 := (show f_24 q28_b7 = f_23 q28_b7 by rw [hf_24, va_up_of _ n_q28_b7_q39_a]).trans e_q28_b7
  have e_q28_b8 := (show f_24 q28_b8 = f_23 q28_b8 by rw [hf_24, va_up_of _ n_q28_b8_q39_a]).trans e_q28_b8
  have e_q28_b9 := (show f_24 q28_b9 = f_23 q28_b9 by rw [hf_24, va_up_of _ n_q28_b9_q39_a]).trans e_q28_b9
  have e_q28_b10 := (show f_24 q28_b10 = f_23 q28_b10 by rw [hf_24, va_up_of _ n_q28_b10_q39_a]).trans e_q28_b10
  have e_q28_b11 := (show f_24 q28_b11 = f_23 q28_b11 by rw [hf_24, va_up_of _ n_q28_b11_q39_a]).trans e_q28_b11
  have e_q28_b12 := (show f_24 q28_b12 = f_23 q28_b12 by rw [hf_24, va_up_of _ n_q28_b12_q39_a]).trans e_q28_b12
  have e_q28_b13 := (show f_24 q28_b13 = f_23 q28_b13 by rw [hf_24, va_up_of _ n_q28_b13_q39_a]).trans e_q28_b13
  have e_q28_b14 := (show f_24 q28_b14 = f_23 q28_b14 by rw [hf_24, va_up_of _ n_q28_b14_q39_a]).trans e_q28_b14
  have e_q28_b15 := (show f_24 q28_b15 = f_23 q28_b15 by rw [hf_24, va_up_of _ n_q28_b15_q39_a]).trans e_q28_b15
  have e_q39 := (show f_24 q39 = f_23 q39 by rw [hf_24, va_up_of _ n_q39_q39_a]).trans e_q39
  have e_q51 := (show f_24 q51 = f_23 q51 by rw [hf_24, va_up_of _ (Ne.symm n_q39_a_q51)]).trans e_q51
  have e_q51_a := (show f_24 q51_a = f_23 q51_a by rw [hf_24, va_up_of _ (Ne.symm n_q39_a_q51_a)]).trans e_q51_a
  have fr : ∀ x ∈ L, x ≠ h → f_24 x = f x := fun x hx hne => (show f_24 x = f_23 x by rw [hf_24, va_up_of _ (nL_q39_a x hx)]).trans (fr x hx hne)
  have e_q39_a : f_24 q39_a = gIA k 4 (rPut 4 (rPut 4 (rPut 4 (rPut 4 (fun _ => 0) 0 20) 1 20) 2 20) 3 20) := by rw [hf_24, va_up_at] <;> rfl
  refine gx_iinc C (q := 0) (v := 4) [(1, _), (0, _)] dX5_init_123 rfl (by decide) (by decide) rfl ?_
  refine gx_goto (tgt := 108) C dX5_init_126 (by decide) ?_
  refine gx_iload_n (q := 0) C dX5_init_108 rfl ?_
  refine gx_iconst (v := 4) C dX5_init_109 (by decide) ?_
  refine gx_icmp_ge (tgt := 129) C dX5_init_110 (by decide) (fun c_110_4 => ?_) (fun c_110_4 => ?_)
  have hLc : ((((((((((L ++ [q5]) ++ [q5_a]) ++ [q17]) ++ [q17_r, q17_a]) ++ [q28]) ++ [q28_b0, q28_b1, q28_b2, q28_b3, q28_b4, q28_b5, q28_b6, q28_b7, q28_b8, q28_b9, q28_b10, q28_b11, q28_b12, q28_b13, q28_b14, q28_b15]) ++ [q39]) ++ [q39_a]) ++ [q51]) ++ [q51_a]) = L ++ [q5, q5_a, q17, q17_r, q17_a, q28, q28_b0, q28_b1, q28_b2, q28_b3, q28_b4, q28_b5, q28_b6, q28_b7, q28_b8, q28_b9, q28_b10, q28_b11, q28_b12, q28_b13, q28_b14, q28_b15, q39, q39_a, q51, q51_a] := by simp
  have hD9 := hD_14
  rw [hLc] at hD9
  have nd := nod_cons hD9 hh
  refine gx_vretA C hr (N := [q5, q5_a, q17, q17_r, q17_a, q28, q28_b0, q28_b1, q28_b2, q28_b3, q28_b4, q28_b5, q28_b6, q28_b7, q28_b8, q28_b9, q28_b10, q28_b11, q28_b12, q28_b13, q28_b14, q28_b15, q39, q39_a, q51, q51_a]) hLc hD_14 dX5_init_129 ?_
  refine ⟨rfl, rfl, ⟨fun i hi => ?_, fun i j hi hj => wsB_inj nd (Nat.le_refl _) i j hi hj, e_h, e_q17, e_q28, fun r hr => ?_⟩, fr⟩
  · rcases List.mem_cons.mp (wsB_in (T := h :: [q5, q5_a, q17, q17_r, q17_a, q28, q28_b0, q28_b1, q28_b2, q28_b3, q28_b4, q28_b5, q28_b6, q28_b7, q28_b8, q28_b9, q28_b10, q28_b11, q28_b12, q28_b13, q28_b14, q28_b15, q39, q39_a, q51, q51_a]) (b := 0) (Nat.le_refl _) i hi) with z | z
    · rw [z]; exact List.mem_append_left _ hh
    · exact List.mem_append_right _ z
  · rcases (show r = 0 ∨ r = 1 ∨ r = 2 ∨ r = 3 ∨ r = 4 ∨ r = 5 ∨ r = 6 ∨ r = 7 ∨ r = 8 ∨ r = 9 ∨ r = 10 ∨ r = 11 by omega) with rfl | rfl | rfl | rfl | rfl | rfl | rfl | rfl | rfl | rfl | rfl | rfl
    · exact ⟨e_q5, e_q5_a⟩
    · exact ⟨e_q17_r, e_q17_a⟩
    · exact ⟨e_q28_b0, e_q28_b1⟩
    · exact ⟨e_q28_b2, e_q28_b3⟩
    · exact ⟨e_q28_b4, e_q28_b5⟩
    · exact ⟨e_q28_b6, e_q28_b7⟩
    · exact ⟨e_q28_b8, e_q28_b9⟩
    · exact ⟨e_q28_b10, e_q28_b11⟩
    · exact ⟨e_q28_b12, e_q28_b13⟩
    · exact ⟨e_q28_b14, e_q28_b15⟩
    · exact ⟨e_q39, e_q39_a⟩
    · exact ⟨e_q51, e_q51_a⟩
  exact absurd (by decide) c_110_4
