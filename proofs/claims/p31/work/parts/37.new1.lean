section
variable {p : Program} {l : Launch} {e : Env} {R : Room} {s : State} {m : MethodId} {args : Array Value} {below : List Frame} {meth : Method} {c : Code} {k : gK} {nL : Nat} {rd : Prop} {A : Nat → Prop} {H0 : Heap} {Q : State → Prop} {L : List Nat} {cells slots : Nat} {f : Nat → va_E} {pc : Nat} {lv : List (Nat × Value)} {st : List Value}
theorem gx_gen (kk : ∀ f2, f2 = f → gW p l e R s m args below meth c k nL rd A H0 Q L cells slots f2 pc lv st) : gW p l e R s m args below meth c k nL rd A H0 Q L cells slots f pc lv st := kk f rfl
end
theorem max0 {n : Nat} (hn : n ≤ 1000) : (if nI n < 0 then (0 : Int32) else nI n) = nI n := if_neg (nI_pos (by omega))
theorem kdN_X4_init : yX4_init.cls ≠ "java/lang/invoke/MethodHandle" ∧ yX4_init.cls ≠ "java/lang/invoke/VarHandle" ∧ (parseMethodDescriptor yX4_init.desc).map (fun d => d.parameters.length) = some 1 := by decide +kernel
theorem wd_X4_init_oi : Cond.methodLink RX4 1 objectInit ∈ wsX4_init := by decide +kernel
theorem wd_X4_init_oj : Cond.instanceMethod objectInit ∈ wsX4_init := by decide +kernel
theorem wd_X4_init_ok : Cond.code objectInit ⟨#[0xb1]⟩ 1 none ∈ wsX4_init := by decide +kernel
theorem wd_X4_init_ml7 : Cond.methodLink RX4 7 Lib.Math.max.name ∈ wsX4_init := by decide +kernel
theorem wd_X4_init_ms_max : Cond.static Lib.Math.max.name ∈ wsX4_init := by decide +kernel
theorem wd_X4_init_mi : Cond.initialized "java/lang/Math" ∈ wsX4_init := by decide +kernel
theorem wd_X4_init_mc_max : Cond.code Lib.Math.max.name Lib.Math.max.code 2 (some .int) ∈ wsX4_init := by decide +kernel
theorem wd_X4_init_arrint : Cond.arrayClass .int ∈ wsX4_init := by decide +kernel
theorem in_X4_init_4 : ∀ w ∈ u_ws RX4 TX4 1, w ∈ wsX4_init := by decide +kernel
theorem fl_X4_init_13 : Cond.fieldLink RX4 13 (TX4 0).1 (TX4 0).2.1 (TX4 0).2.2.1 ∈ wsX4_init := by decide +kernel
abbrev rmX4_init (n : Nat) : Room := { frames := 1, cells := 1, slots := n, locals := 24 }
set_option maxHeartbeats 4000000 in
set_option maxRecDepth 100000 in
theorem k_X4_init (l : Launch) {k : gK} {L : List Nat} {f : Nat → va_E} (hL : L.Nodup) {h : Nat} (hh : h ∈ L) (hf : f h = .inr (4, [.null])) {n : Nat} (hn : n ≤ 1000) : kA l k L f yX4_init wsX4_init (rmX4_init n) [.ref h, .int (nI n)] 1 n (fun v N f2 => v = none ∧ ∃ a, N = [a] ∧ f2 h = .inr (4, [.ref a]) ∧ f2 a = gIA k n (fun _ => 0) ∧ ∀ x ∈ L, x ≠ h → f2 x = f x) := by
  refine kA_of (cc := cX4_init) (maxL := 2) (ret := none) hL (by decide) rfl (Nat.le_of_ble_eq_true rfl) ?_
  intro p e s m args below meth c C hr hin hAO hD
  have hA : ∀ q, s.heap.size ≤ q → q ∈ L ∨ s.heap.size ≤ q := fun _ h => Or.inr h
  have m_h := hh
  have e_h := hf
  have inc : ∀ x ∈ L, x ∈ L := fun _ h => h
  have fr : ∀ x ∈ L, x ≠ h → f x = f x := fun _ _ _ => rfl
  refine gx_lv [(0, _), (1, _)] [0, 1] rfl ?_
  refine gx_aload_n (q := 0) C dX4_init_0 rfl ?_
  refine gx_objInit C wd_X4_init_oi wd_X4_init_oj wd_X4_init_ok (Nat.le_of_ble_eq_true rfl) (Nat.le_of_ble_eq_true rfl) dX4_init_1 ?_
  refine gx_aload_n (q := 0) C dX4_init_4 rfl ?_
  refine gx_iload_n (q := 1) C dX4_init_5 rfl ?_
  refine gx_iconst (v := 0) C dX4_init_6 (by decide) ?_
  refine gx_max C wd_X4_init_ml7 wd_X4_init_ms_max wd_X4_init_mi wd_X4_init_mc_max (Nat.le_of_ble_eq_true rfl) (Nat.le_of_ble_eq_true rfl) ⟨Nat.le_of_ble_eq_true rfl, Nat.le_of_ble_eq_true rfl⟩ dX4_init_7 ?_
  refine gx_top (nI n) (max0 hn) ?_
  refine gx_newI C hD hA (N := n) wd_X4_init_arrint (nI_pos (by omega)) (nI_clamp (by omega)) (by omega) (Nat.le_of_ble_eq_true rfl) (by show 0 + n ≤ n; omega) dX4_init_10 (fun q10 hD_q10 => ?_)
  refine gx_gen (fun f_1 hf_1 => ?_)
  have n_h_q10 := gD_ne hD_q10 m_h (List.mem_singleton.mpr rfl)
  have nL_q10 : ∀ x ∈ L, x ≠ q10 := fun x hx => gD_ne hD_q10 (inc x hx) (List.mem_singleton.mpr rfl)
  have e_h := (show f_1 h = f h by rw [hf_1, va_up_of _ n_h_q10]).trans e_h
  have m_h := List.mem_append_left [q10] m_h
  have fr : ∀ x ∈ L, x ≠ h → f_1 x = f x := fun x hx hne => (show f_1 x = f x by rw [hf_1, va_up_of _ (nL_q10 x hx)]).trans (fr x hx hne)
  have inc : ∀ x ∈ L, x ∈ (L ++ [q10]) := fun x hx => List.mem_append_left _ (inc x hx)
  have m_q10 : q10 ∈ (L ++ [q10]) := List.mem_append_right _ (List.mem_singleton.mpr rfl)
  have e_q10 : f_1 q10 = gIA k n (fun _ => 0) := by rw [hf_1, va_up_at]
  refine gx_putF C hD_q10 (i := 0) (ty := (.array .int)) tyX4_ok nmX4 m_h e_h rfl in_X4_init_4 (by decide) fl_X4_init_13 rfl hin rfl (by decide +kernel) rfl rfl (Nat.le_of_ble_eq_true rfl) rfl dX4_init_12 ?_
  refine gx_gen (fun f_2 hf_2 => ?_)
  have e_q10 := (show f_2 q10 = f_1 q10 by rw [hf_2, va_up_of _ (Ne.symm n_h_q10)]).trans e_q10
  have fr : ∀ x ∈ L, x ≠ h → f_2 x = f x := fun x hx hne => (show f_2 x = f_1 x by rw [hf_2, va_up_of _ hne]).trans (fr x hx hne)
  have e_h : f_2 h = .inr (4, [.ref q10]) := by rw [hf_2, va_up_at] <;> rfl
  refine gx_widen (k2 := 1) (n2 := n) (Nat.le_refl _) (by omega) ?_
  refine gx_vretA C hr (N := [q10]) (by simp) hD_q10 dX4_init_15 ?_
  exact ⟨rfl, q10, rfl, e_h, e_q10, fr⟩
theorem kdN_X0_init : yX0_init.cls ≠ "java/lang/invoke/MethodHandle" ∧ yX0_init.cls ≠ "java/lang/invoke/VarHandle" ∧ (parseMethodDescriptor yX0_init.desc).map (fun d => d.parameters.length) = some 0 := by decide +kernel
theorem wd_X0_init_oi : Cond.methodLink RX0 3 objectInit ∈ wsX0_init := by decide +kernel
theorem wd_X0_init_oj : Cond.instanceMethod objectInit ∈ wsX0_init := by decide +kernel
theorem wd_X0_init_ok : Cond.code objectInit ⟨#[0xb1]⟩ 1 none ∈ wsX0_init := by decide +kernel
theorem wd_X0_init_cl9 : Cond.classLink RX0 9 RX4 ∈ wsX0_init := by decide +kernel
theorem wd_X0_init_inRX4 : Cond.instantiable RX4 1 ∈ wsX0_init := by decide +kernel
theorem wd_X0_init_iiRX4 : Cond.initialized RX4 ∈ wsX0_init := by decide +kernel
theorem in_X0_init_4 : ∀ w ∈ u_ws RX4 TX4 1, w ∈ wsX0_init := by decide +kernel
theorem wd_X0_init_ml11 : Cond.methodLink RX0 11 yX4_init ∈ wsX0_init := by decide +kernel
theorem wd_X0_init_im_X4_init : Cond.instanceMethod yX4_init ∈ wsX0_init := by decide +kernel
theorem wd_X0_init_iniRX4 : Cond.initialized RX4 ∈ wsX0_init := by decide +kernel
theorem in_X0_init_0 : ∀ w ∈ u_ws RX0 TX0 3, w ∈ wsX0_init := by decide +kernel
theorem fl_X0_init_14 : Cond.fieldLink RX0 14 (TX0 0).1 (TX0 0).2.1 (TX0 0).2.2.1 ∈ wsX0_init := by decide +kernel
abbrev rmX0_init : Room := { frames := 2, cells := 2, slots := 106, locals := 45 }
set_option maxHeartbeats 4000000 in
set_option maxRecDepth 100000 in
theorem k_X0_init (l : Launch) {k : gK} {L : List Nat} {f : Nat → va_E} (hL : L.Nodup) {h : Nat} (hh : h ∈ L) (hf : f h = .inr (0, [.null, .int 0, .int 0])) : kA l k L f yX0_init wsX0_init rmX0_init [.ref h] 2 106 (fun v N f2 => v = none ∧ ∃ r a, N = [r, a] ∧ f2 h = .inr (0, [.ref r, .int 0, .int 0]) ∧ f2 r = .inr (4, [.ref a]) ∧ f2 a = gIA k 105 (fun _ => 0) ∧ ∀ x ∈ L, x ≠ h → f2 x = f x) := by
  refine kA_of (cc := cX0_init) (maxL := 1) (ret := none) hL (by decide) rfl (Nat.le_of_ble_eq_true rfl) ?_
  intro p e s m args below meth c C hr hin hAO hD
  have hA : ∀ q, s.heap.size ≤ q → q ∈ L ∨ s.heap.size ≤ q := fun _ h => Or.inr h
  have m_h := hh
  have e_h := hf
  have inc : ∀ x ∈ L, x ∈ L := fun _ h => h
  have fr : ∀ x ∈ L, x ≠ h → f x = f x := fun _ _ _ => rfl
  refine gx_lv [(0, _)] [0] rfl ?_
  refine gx_aload_n (q := 0) C dX0_init_0 rfl ?_
  refine gx_objInit C wd_X0_init_oi wd_X0_init_oj wd_X0_init_ok (Nat.le_of_ble_eq_true rfl) (Nat.le_of_ble_eq_true rfl) dX0_init_1 ?_
  refine gx_aload_n (q := 0) C dX0_init_4 rfl ?_
  refine gx_new C hD hA (ci := 4) (fs := [.null]) tyX4_ok rfl in_X0_init_4 wd_X0_init_cl9 wd_X0_init_inRX4 wd_X0_init_iiRX4 (fun j hj => by rcases (show j = 0 by omega) with rfl; rfl) (Nat.le_of_ble_eq_true rfl) (Nat.le_of_ble_eq_true rfl) dX0_init_5 (fun q5 hD_q5 => ?_)
  refine gx_gen (fun f_1 hf_1 => ?_)
  have n_h_q5 := gD_ne hD_q5 m_h (List.mem_singleton.mpr rfl)
  have nL_q5 : ∀ x ∈ L, x ≠ q5 := fun x hx => gD_ne hD_q5 (inc x hx) (List.mem_singleton.mpr rfl)
  have e_h := (show f_1 h = f h by rw [hf_1, va_up_of _ n_h_q5]).trans e_h
  have m_h := List.mem_append_left [q5] m_h
  have fr : ∀ x ∈ L, x ≠ h → f_1 x = f x := fun x hx hne => (show f_1 x = f x by rw [hf_1, va_up_of _ (nL_q5 x hx)]).trans (fr x hx hne)
  have inc : ∀ x ∈ L, x ∈ (L ++ [q5]) := fun x hx => List.mem_append_left _ (inc x hx)
  have m_q5 : q5 ∈ (L ++ [q5]) := List.mem_append_right _ (List.mem_singleton.mpr rfl)
  have e_q5 : f_1 q5 = .inr (4, [.null]) := by rw [hf_1, va_up_at]
  refine gx_dup C rfl dX0_init_8 ?_
  refine gx_bipush (v := 105) C dX0_init_9 (by decide) ?_
  refine gx_callI C hAO hD_q5 hA (k_X4_init l hD_q5.1 m_q5 e_q5 (n := 105) (Nat.le_of_ble_eq_true rfl)) (cwI 1 C.2.2.2.2.1 gX0_init_X4_init rfl rfl rfl (C.2.2.2.2.1 _ wd_X0_init_iniRX4) (C.2.2.2.2.1 _ wd_X0_init_ml11) (C.2.2.2.2.1 _ wd_X0_init_im_X4_init) rfl kdN_X4_init ⟨Nat.le_of_ble_eq_true rfl, Nat.le_of_ble_eq_true rfl⟩) rfl rfl (Nat.le_of_ble_eq_true rfl) ⟨(Nat.le_of_ble_eq_true rfl), (Nat.le_of_ble_eq_true rfl)⟩ dX0_init_11 (fun v_2 N_2 f_2 hp_2 hD_2 => ?_)
  obtain ⟨rfl, q5_a, rfl, e_q5_n, e_q5_a, fr_n⟩ := hp_2
  refine gx_nil ?_
  have n_h_q5_a := gD_ne hD_2 m_h (show q5_a ∈ [q5_a] by simp)
  have n_q5_q5_a := gD_ne hD_2 m_q5 (show q5_a ∈ [q5_a] by simp)
  have nL_q5_a : ∀ x ∈ L, x ≠ q5_a := fun x hx => gD_ne hD_2 (inc x hx) (show q5_a ∈ [q5_a] by simp)
  have e_h := (fr_n h m_h n_h_q5).trans e_h
  have e_q5 := e_q5_n
  have fr : ∀ x ∈ L, x ≠ h → f_2 x = f x := fun x hx hne => (fr_n x (inc x hx) (nL_q5 x hx)).trans (fr x hx hne)
  have m_h : h ∈ ((L ++ [q5]) ++ [q5_a]) := List.mem_append_left _ m_h
  have m_q5 : q5 ∈ ((L ++ [q5]) ++ [q5_a]) := List.mem_append_left _ m_q5
  have inc : ∀ x ∈ L, x ∈ ((L ++ [q5]) ++ [q5_a]) := fun x hx => List.mem_append_left _ (inc x hx)
  have m_q5_a : q5_a ∈ ((L ++ [q5]) ++ [q5_a]) := List.mem_append_right _ (by simp)
  refine gx_putF C hD_2 (i := 0) (ty := (.object RX4)) tyX0_ok nmX0 m_h e_h rfl in_X0_init_0 (by decide) fl_X0_init_14 rfl hin rfl (by decide +kernel) rfl rfl (Nat.le_of_ble_eq_true rfl) rfl dX0_init_14 ?_
  refine gx_gen (fun f_3 hf_3 => ?_)
  have e_q5 := (show f_3 q5 = f_2 q5 by rw [hf_3, va_up_of _ (Ne.symm n_h_q5)]).trans e_q5
  have e_q5_a := (show f_3 q5_a = f_2 q5_a by rw [hf_3, va_up_of _ (Ne.symm n_h_q5_a)]).trans e_q5_a
  have fr : ∀ x ∈ L, x ≠ h → f_3 x = f x := fun x hx hne => (show f_3 x = f_2 x by rw [hf_3, va_up_of _ hne]).trans (fr x hx hne)
  have e_h : f_3 h = .inr (0, [.ref q5, .int 0, .int 0]) := by rw [hf_3, va_up_at] <;> rfl
  refine gx_vretA C hr (N := [q5, q5_a]) (by simp) hD_2 dX0_init_17 ?_
  exact ⟨rfl, q5, q5_a, rfl, e_h, e_q5, e_q5_a, fr⟩
theorem kdN_X3_init : yX3_init.cls ≠ "java/lang/invoke/MethodHandle" ∧ yX3_init.cls ≠ "java/lang/invoke/VarHandle" ∧ (parseMethodDescriptor yX3_init.desc).map (fun d => d.parameters.length) = some 0 := by decide +kernel
theorem wd_X3_init_oi : Cond.methodLink RX3 3 objectInit ∈ wsX3_init := by decide +kernel
theorem wd_X3_init_oj : Cond.instanceMethod objectInit ∈ wsX3_init := by decide +kernel
theorem wd_X3_init_ok : Cond.code objectInit ⟨#[0xb1]⟩ 1 none ∈ wsX3_init := by decide +kernel
theorem wd_X3_init_cl9 : Cond.classLink RX3 9 RX4 ∈ wsX3_init := by decide +kernel
theorem wd_X3_init_inRX4 : Cond.instantiable RX4 1 ∈ wsX3_init := by decide +kernel
theorem wd_X3_init_iiRX4 : Cond.initialized RX4 ∈ wsX3_init := by decide +kernel
theorem in_X3_init_4 : ∀ w ∈ u_ws RX4 TX4 1, w ∈ wsX3_init := by decide +kernel
theorem wd_X3_init_ml11 : Cond.methodLink RX3 11 yX4_init ∈ wsX3_init := by decide +kernel
theorem wd_X3_init_im_X4_init : Cond.instanceMethod yX4_init ∈ wsX3_init := by decide +kernel
theorem wd_X3_init_iniRX4 : Cond.initialized RX4 ∈ wsX3_init := by decide +kernel
theorem in_X3_init_3 : ∀ w ∈ u_ws RX3 TX3 9, w ∈ wsX3_init := by decide +kernel
theorem fl_X3_init_14 : Cond.fieldLink RX3 14 (TX3 0).1 (TX3 0).2.1 (TX3 0).2.2.1 ∈ wsX3_init := by decide +kernel
theorem fl_X3_init_20 : Cond.fieldLink RX3 20 (TX3 1).1 (TX3 1).2.1 (TX3 1).2.2.1 ∈ wsX3_init := by decide +kernel
theorem fl_X3_init_23 : Cond.fieldLink RX3 23 (TX3 2).1 (TX3 2).2.1 (TX3 2).2.2.1 ∈ wsX3_init := by decide +kernel
theorem fl_X3_init_26 : Cond.fieldLink RX3 26 (TX3 3).1 (TX3 3).2.1 (TX3 3).2.2.1 ∈ wsX3_init := by decide +kernel
theorem fl_X3_init_29 : Cond.fieldLink RX3 29 (TX3 4).1 (TX3 4).2.1 (TX3 4).2.2.1 ∈ wsX3_init := by decide +kernel
theorem fl_X3_init_32 : Cond.fieldLink RX3 32 (TX3 5).1 (TX3 5).2.1 (TX3 5).2.2.1 ∈ wsX3_init := by decide +kernel
theorem fl_X3_init_35 : Cond.fieldLink RX3 35 (TX3 6).1 (TX3 6).2.1 (TX3 6).2.2.1 ∈ wsX3_init := by decide +kernel
theorem fl_X3_init_38 : Cond.fieldLink RX3 38 (TX3 7).1 (TX3 7).2.1 (TX3 7).2.2.1 ∈ wsX3_init := by decide +kernel
abbrev rmX3_init : Room := { frames := 2, cells := 16, slots := 168, locals := 45 }
set_option maxHeartbeats 4000000 in
set_option maxRecDepth 100000 in
theorem k_X3_init (l : Launch) {k : gK} {L : List Nat} {f : Nat → va_E} (hL : L.Nodup) {h : Nat} (hh : h ∈ L) (hf : f h = .inr (3, [.null, .null, .null, .null, .null, .null, .null, .null, .int 0])) : kA l k L f yX3_init wsX3_init rmX3_init [.ref h] 16 168 (fun v N f2 => v = none ∧ ∃ b0 b1 b2 b3 b4 b5 b6 b7 b8 b9 b10 b11 b12 b13 b14 b15, N = [b0, b1, b2, b3, b4, b5, b6, b7, b8, b9, b10, b11, b12, b13, b14, b15] ∧ f2 h = .inr (3, [.ref b0, .ref b2, .ref b4, .ref b6, .ref b8, .ref b10, .ref b12, .ref b14, .int 0]) ∧ f2 b0 = .inr (4, [.ref b1]) ∧ f2 b1 = gIA k 20 (fun _ => 0) ∧ f2 b2 = .inr (4, [.ref b3]) ∧ f2 b3 = gIA k 20 (fun _ => 0) ∧ f2 b4 = .inr (4, [.ref b5]) ∧ f2 b5 = gIA k 20 (fun _ => 0) ∧ f2 b6 = .inr (4, [.ref b7]) ∧ f2 b7 = gIA k 20 (fun _ => 0) ∧ f2 b8 = .inr (4, [.ref b9]) ∧ f2 b9 = gIA k 20 (fun _ => 0) ∧ f2 b10 = .inr (4, [.ref b11]) ∧ f2 b11 = gIA k 20 (fun _ => 0) ∧ f2 b12 = .inr (4, [.ref b13]) ∧ f2 b13 = gIA k 20 (fun _ => 0) ∧ f2 b14 = .inr (4, [.ref b15]) ∧ f2 b15 = gIA k 20 (fun _ => 0) ∧ ∀ x ∈ L, x ≠ h → f2 x = f x) := by
  refine kA_of (cc := cX3_init) (maxL := 1) (ret := none) hL (by decide) rfl (Nat.le_of_ble_eq_true rfl) ?_
  intro p e s m args below meth c C hr hin hAO hD
  have hA : ∀ q, s.heap.size ≤ q → q ∈ L ∨ s.heap.size ≤ q := fun _ h => Or.inr h
  have m_h := hh
  have e_h := hf
  have inc : ∀ x ∈ L, x ∈ L := fun _ h => h
  have fr : ∀ x ∈ L, x ≠ h → f x = f x := fun _ _ _ => rfl
  refine gx_lv [(0, _)] [0] rfl ?_
  refine gx_aload_n (q := 0) C dX3_init_0 rfl ?_
  refine gx_objInit C wd_X3_init_oi wd_X3_init_oj wd_X3_init_ok (Nat.le_of_ble_eq_true rfl) (Nat.le_of_ble_eq_true rfl) dX3_init_1 ?_
  refine gx_aload_n (q := 0) C dX3_init_4 rfl ?_
  refine gx_new C hD hA (ci := 4) (fs := [.null]) tyX4_ok rfl in_X3_init_4 wd_X3_init_cl9 wd_X3_init_inRX4 wd_X3_init_iiRX4 (fun j hj => by rcases (show j = 0 by omega) with rfl; rfl) (Nat.le_of_ble_eq_true rfl) (Nat.le_of_ble_eq_true rfl) dX3_init_5 (fun q5 hD_q5 => ?_)
  refine gx_gen (fun f_1 hf_1 => ?_)
  have n_h_q5 := gD_ne hD_q5 m_h (List.mem_singleton.mpr rfl)
  have nL_q5 : ∀ x ∈ L, x ≠ q5 := fun x hx => gD_ne hD_q5 (inc x hx) (List.mem_singleton.mpr rfl)
  have e_h := (show f_1 h = f h by rw [hf_1, va_up_of _ n_h_q5]).trans e_h
  have m_h := List.mem_append_left [q5] m_h
  have fr : ∀ x ∈ L, x ≠ h → f_1 x = f x := fun x hx hne => (show f_1 x = f x by rw [hf_1, va_up_of _ (nL_q5 x hx)]).trans (fr x hx hne)
  have inc : ∀ x ∈ L, x ∈ (L ++ [q5]) := fun x hx => List.mem_append_left _ (inc x hx)
  have m_q5 : q5 ∈ (L ++ [q5]) := List.mem_append_right _ (List.mem_singleton.mpr rfl)
  have e_q5 : f_1 q5 = .inr (4, [.null]) := by rw [hf_1, va_up_at]
  refine gx_dup C rfl dX3_init_8 ?_
  refine gx_bipush (v := 20) C dX3_init_9 (by decide) ?_
  refine gx_callI C hAO hD_q5 hA (k_X4_init l hD_q5.1 m_q5 e_q5 (n := 20) (Nat.le_of_ble_eq_true rfl)) (cwI 1 C.2.2.2.2.1 gX3_init_X4_init rfl rfl rfl (C.2.2.2.2.1 _ wd_X3_init_iniRX4) (C.2.2.2.2.1 _ wd_X3_init_ml11) (C.2.2.2.2.1 _ wd_X3_init_im_X4_init) rfl kdN_X4_init ⟨Nat.le_of_ble_eq_true rfl, Nat.le_of_ble_eq_true rfl⟩) rfl rfl (Nat.le_of_ble_eq_true rfl) ⟨(Nat.le_of_ble_eq_true rfl), (Nat.le_of_ble_eq_true rfl)⟩ dX3_init_11 (fun v_2 N_2 f_2 hp_2 hD_2 => ?_)
  obtain ⟨rfl, q5_a, rfl, e_q5_n, e_q5_a, fr_n⟩ := hp_2
  refine gx_nil ?_
  have n_h_q5_a := gD_ne hD_2 m_h (show q5_a ∈ [q5_a] by simp)
  have n_q5_q5_a := gD_ne hD_2 m_q5 (show q5_a ∈ [q5_a] by simp)
  have nL_q5_a : ∀ x ∈ L, x ≠ q5_a := fun x hx => gD_ne hD_2 (inc x hx) (show q5_a ∈ [q5_a] by simp)
  have e_h := (fr_n h m_h n_h_q5).trans e_h
  have e_q5 := e_q5_n
  have fr : ∀ x ∈ L, x ≠ h → f_2 x = f x := fun x hx hne => (fr_n x (inc x hx) (nL_q5 x hx)).trans (fr x hx hne)
  have m_h : h ∈ ((L ++ [q5]) ++ [q5_a]) := List.mem_append_left _ m_h
  have m_q5 : q5 ∈ ((L ++ [q5]) ++ [q5_a]) := List.mem_append_left _ m_q5
  have inc : ∀ x ∈ L, x ∈ ((L ++ [q5]) ++ [q5_a]) := fun x hx => List.mem_append_left _ (inc x hx)
  have m_q5_a : q5_a ∈ ((L ++ [q5]) ++ [q5_a]) := List.mem_append_right _ (by simp)
  refine gx_putF C hD_2 (i := 0) (ty := (.object RX4)) tyX3_ok nmX3 m_h e_h rfl in_X3_init_3 (by decide) fl_X3_init_14 rfl hin rfl (by decide +kernel) rfl rfl (Nat.le_of_ble_eq_true rfl) rfl dX3_init_14 ?_
  refine gx_gen (fun f_3 hf_3 => ?_)
  have e_q5 := (show f_3 q5 = f_2 q5 by rw [hf_3, va_up_of _ (Ne.symm n_h_q5)]).trans e_q5
  have e_q5_a := (show f_3 q5_a = f_2 q5_a by rw [hf_3, va_up_of _ (Ne.symm n_h_q5_a)]).trans e_q5_a
  have fr : ∀ x ∈ L, x ≠ h → f_3 x = f x := fun x hx hne => (show f_3 x = f_2 x by rw [hf_3, va_up_of _ hne]).trans (fr x hx hne)
  have e_h : f_3 h = .inr (3, [.ref q5, .null, .null, .null, .null, .null, .null, .null, .int 0]) := by rw [hf_3, va_up_at] <;> rfl
  refine gx_aload_n (q := 0) C dX3_init_17 rfl ?_
  refine gx_new C hD_2 hA (ci := 4) (fs := [.null]) tyX4_ok rfl in_X3_init_4 wd_X3_init_cl9 wd_X3_init_inRX4 wd_X3_init_iiRX4 (fun j hj => by rcases (show j = 0 by omega) with rfl; rfl) (Nat.le_of_ble_eq_true rfl) (Nat.le_of_ble_eq_true rfl) dX3_init_18 (fun q18 hD_q18 => ?_)
  refine gx_gen (fun f_4 hf_4 => ?_)
  have n_h_q18 := gD_ne hD_q18 m_h (List.mem_singleton.mpr rfl)
  have n_q5_q18 := gD_ne hD_q18 m_q5 (List.mem_singleton.mpr rfl)
  have n_q5_a_q18 := gD_ne hD_q18 m_q5_a (List.mem_singleton.mpr rfl)
  have nL_q18 : ∀ x ∈ L, x ≠ q18 := fun x hx => gD_ne hD_q18 (inc x hx) (List.mem_singleton.mpr rfl)
  have e_h := (show f_4 h = f_3 h by rw [hf_4, va_up_of _ n_h_q18]).trans e_h
  have m_h := List.mem_append_left [q18] m_h
  have e_q5 := (show f_4 q5 = f_3 q5 by rw [hf_4, va_up_of _ n_q5_q18]).trans e_q5
  have m_q5 := List.mem_append_left [q18] m_q5
  have e_q5_a := (show f_4 q5_a = f_3 q5_a by rw [hf_4, va_up_of _ n_q5_a_q18]).trans e_q5_a
  have m_q5_a := List.mem_append_left [q18] m_q5_a
  have fr : ∀ x ∈ L, x ≠ h → f_4 x = f x := fun x hx hne => (show f_4 x = f_3 x by rw [hf_4, va_up_of _ (nL_q18 x hx)]).trans (fr x hx hne)
  have inc : ∀ x ∈ L, x ∈ (((L ++ [q5]) ++ [q5_a]) ++ [q18]) := fun x hx => List.mem_append_left _ (inc x hx)
  have m_q18 : q18 ∈ (((L ++ [q5]) ++ [q5_a]) ++ [q18]) := List.mem_append_right _ (List.mem_singleton.mpr rfl)
  have e_q18 : f_4 q18 = .inr (4, [.null]) := by rw [hf_4, va_up_at]
  refine gx_dup C rfl dX3_init_21 ?_
  refine gx_bipush (v := 20) C dX3_init_22 (by decide) ?_
  refine gx_callI C hAO hD_q18 hA (k_X4_init l hD_q18.1 m_q18 e_q18 (n := 20) (Nat.le_of_ble_eq_true rfl)) (cwI 1 C.2.2.2.2.1 gX3_init_X4_init rfl rfl rfl (C.2.2.2.2.1 _ wd_X3_init_iniRX4) (C.2.2.2.2.1 _ wd_X3_init_ml11) (C.2.2.2.2.1 _ wd_X3_init_im_X4_init) rfl kdN_X4_init ⟨Nat.le_of_ble_eq_true rfl, Nat.le_of_ble_eq_true rfl⟩) rfl rfl (Nat.le_of_ble_eq_true rfl) ⟨(Nat.le_of_ble_eq_true rfl), (Nat.le_of_ble_eq_true rfl)⟩ dX3_init_24 (fun v_5 N_5 f_5 hp_5 hD_5 => ?_)
  obtain ⟨rfl, q18_a, rfl, e_q18_n, e_q18_a, fr_n⟩ := hp_5
  refine gx_nil ?_
  have n_h_q18_a := gD_ne hD_5 m_h (show q18_a ∈ [q18_a] by simp)
  have n_q5_q18_a := gD_ne hD_5 m_q5 (show q18_a ∈ [q18_a] by simp)
  have n_q5_a_q18_a := gD_ne hD_5 m_q5_a (show q18_a ∈ [q18_a] by simp)
  have n_q18_q18_a := gD_ne hD_5 m_q18 (show q18_a ∈ [q18_a] by simp)
  have nL_q18_a : ∀ x ∈ L, x ≠ q18_a := fun x hx => gD_ne hD_5 (inc x hx) (show q18_a ∈ [q18_a] by simp)
  have e_h := (fr_n h m_h n_h_q18).trans e_h
  have e_q5 := (fr_n q5 m_q5 n_q5_q18).trans e_q5
  have e_q5_a := (fr_n q5_a m_q5_a n_q5_a_q18).trans e_q5_a
  have e_q18 := e_q18_n
  have fr : ∀ x ∈ L, x ≠ h → f_5 x = f x := fun x hx hne => (fr_n x (inc x hx) (nL_q18 x hx)).trans (fr x hx hne)
  have m_h : h ∈ ((((L ++ [q5]) ++ [q5_a]) ++ [q18]) ++ [q18_a]) := List.mem_append_left _ m_h
  have m_q5 : q5 ∈ ((((L ++ [q5]) ++ [q5_a]) ++ [q18]) ++ [q18_a]) := List.mem_append_left _ m_q5
  have m_q5_a : q5_a ∈ ((((L ++ [q5]) ++ [q5_a]) ++ [q18]) ++ [q18_a]) := List.mem_append_left _ m_q5_a
  have m_q18 : q18 ∈ ((((L ++ [q5]) ++ [q5_a]) ++ [q18]) ++ [q18_a]) := List.mem_append_left _ m_q18
  have inc : ∀ x ∈ L, x ∈ ((((L ++ [q5]) ++ [q5_a]) ++ [q18]) ++ [q18_a]) := fun x hx => List.mem_append_left _ (inc x hx)
  have m_q18_a : q18_a ∈ ((((L ++ [q5]) ++ [q5_a]) ++ [q18]) ++ [q18_a]) := List.mem_append_right _ (by simp)
  refine gx_putF C hD_5 (i := 1) (ty := (.object RX4)) tyX3_ok nmX3 m_h e_h rfl in_X3_init_3 (by decide) fl_X3_init_20 rfl hin rfl (by decide +kernel) rfl rfl (Nat.le_of_ble_eq_true rfl) rfl dX3_init_27 ?_
  refine gx_gen (fun f_6 hf_6 => ?_)
  have e_q5 := (show f_6 q5 = f_5 q5 by rw [hf_6, va_up_of _ (Ne.symm n_h_q5)]).trans e_q5
  have e_q5_a := (show f_6 q5_a = f_5 q5_a by rw [hf_6, va_up_of _ (Ne.symm n_h_q5_a)]).trans e_q5_a
  have e_q18 := (show f_6 q18 = f_5 q18 by rw [hf_6, va_up_of _ (Ne.symm n_h_q18)]).trans e_q18
  have e_q18_a := (show f_6 q18_a = f_5 q18_a by rw [hf_6, va_up_of _ (Ne.symm n_h_q18_a)]).trans e_q18_a
  have fr : ∀ x ∈ L, x ≠ h → f_6 x = f x := fun x hx hne => (show f_6 x = f_5 x by rw [hf_6, va_up_of _ hne]).trans (fr x hx hne)
  have e_h : f_6 h = .inr (3, [.ref q5, .ref q18, .null, .null, .null, .null, .null, .null, .int 0]) := by rw [hf_6, va_up_at] <;> rfl
  refine gx_aload_n (q := 0) C dX3_init_30 rfl ?_
  refine gx_new C hD_5 hA (ci := 4) (fs := [.null]) tyX4_ok rfl in_X3_init_4 wd_X3_init_cl9 wd_X3_init_inRX4 wd_X3_init_iiRX4 (fun j hj => by rcases (show j = 0 by omega) with rfl; rfl) (Nat.le_of_ble_eq_true rfl) (Nat.le_of_ble_eq_true rfl) dX3_init_31 (fun q31 hD_q31 => ?_)
  refine gx_gen (fun f_7 hf_7 => ?_)
  have n_h_q31 := gD_ne hD_q31 m_h (List.mem_singleton.mpr rfl)
  have n_q5_q31 := gD_ne hD_q31 m_q5 (List.mem_singleton.mpr rfl)
  have n_q5_a_q31 := gD_ne hD_q31 m_q5_a (List.mem_singleton.mpr rfl)
  have n_q18_q31 := gD_ne hD_q31 m_q18 (List.mem_singleton.mpr rfl)
  have n_q18_a_q31 := gD_ne hD_q31 m_q18_a (List.mem_singleton.mpr rfl)
  have nL_q31 : ∀ x ∈ L, x ≠ q31 := fun x hx => gD_ne hD_q31 (inc x hx) (List.mem_singleton.mpr rfl)
  have e_h := (show f_7 h = f_6 h by rw [hf_7, va_up_of _ n_h_q31]).trans e_h
  have m_h := List.mem_append_left [q31] m_h
  have e_q5 := (show f_7 q5 = f_6 q5 by rw [hf_7, va_up_of _ n_q5_q31]).trans e_q5
  have m_q5 := List.mem_append_left [q31] m_q5
  have e_q5_a := (show f_7 q5_a = f_6 q5_a by rw [hf_7, va_up_of _ n_q5_a_q31]).trans e_q5_a
  have m_q5_a := List.mem_append_left [q31] m_q5_a
  have e_q18 := (show f_7 q18 = f_6 q18 by rw [hf_7, va_up_of _ n_q18_q31]).trans e_q18
  have m_q18 := List.mem_append_left [q31] m_q18
  have e_q18_a := (show f_7 q18_a = f_6 q18_a by rw [hf_7, va_up_of _ n_q18_a_q31]).trans e_q18_a
  have m_q18_a := List.mem_append_left [q31] m_q18_a
  have fr : ∀ x ∈ L, x ≠ h → f_7 x = f x := fun x hx hne => (show f_7 x = f_6 x by rw [hf_7, va_up_of _ (nL_q31 x hx)]).trans (fr x hx hne)
  have inc : ∀ x ∈ L, x ∈ (((((L ++ [q5]) ++ [q5_a]) ++ [q18]) ++ [q18_a]) ++ [q31]) := fun x hx => List.mem_append_left _ (inc x hx)
  have m_q31 : q31 ∈ (((((L ++ [q5]) ++ [q5_a]) ++ [q18]) ++ [q18_a]) ++ [q31]) := List.mem_append_right _ (List.mem_singleton.mpr rfl)
  have e_q31 : f_7 q31 = .inr (4, [.null]) := by rw [hf_7, va_up_at]
  refine gx_dup C rfl dX3_init_34 ?_
  refine gx_bipush (v := 20) C dX3_init_35 (by decide) ?_
  refine gx_callI C hAO hD_q31 hA (k_X4_init l hD_q31.1 m_q31 e_q31 (n := 20) (Nat.le_of_ble_eq_true rfl)) (cwI 1 C.2.2.2.2.1 gX3_init_X4_init rfl rfl rfl (C.2.2.2.2.1 _ wd_X3_init_iniRX4) (C.2.2.2.2.1 _ wd_X3_init_ml11) (C.2.2.2.2.1 _ wd_X3_init_im_X4_init) rfl kdN_X4_init ⟨Nat.le_of_ble_eq_true rfl, Nat.le_of_ble_eq_true rfl⟩) rfl rfl (Nat.le_of_ble_eq_true rfl) ⟨(Nat.le_of_ble_eq_true rfl), (Nat.le_of_ble_eq_true rfl)⟩ dX3_init_37 (fun v_8 N_8 f_8 hp_8 hD_8 => ?_)
  obtain ⟨rfl, q31_a, rfl, e_q31_n, e_q31_a, fr_n⟩ := hp_8
  refine gx_nil ?_
  have n_h_q31_a := gD_ne hD_8 m_h (show q31_a ∈ [q31_a] by simp)
  have n_q5_q31_a := gD_ne hD_8 m_q5 (show q31_a ∈ [q31_a] by simp)
  have n_q5_a_q31_a := gD_ne hD_8 m_q5_a (show q31_a ∈ [q31_a] by simp)
  have n_q18_q31_a := gD_ne hD_8 m_q18 (show q31_a ∈ [q31_a] by simp)
  have n_q18_a_q31_a := gD_ne hD_8 m_q18_a (show q31_a ∈ [q31_a] by simp)
  have n_q31_q31_a := gD_ne hD_8 m_q31 (show q31_a ∈ [q31_a] by simp)
  have nL_q31_a : ∀ x ∈ L, x ≠ q31_a := fun x hx => gD_ne hD_8 (inc x hx) (show q31_a ∈ [q31_a] by simp)
  have e_h := (fr_n h m_h n_h_q31).trans e_h
  have e_q5 := (fr_n q5 m_q5 n_q5_q31).trans e_q5
  have e_q5_a := (fr_n q5_a m_q5_a n_q5_a_q31).trans e_q5_a
  have e_q18 := (fr_n q18 m_q18 n_q18_q31).trans e_q18
  have e_q18_a := (fr_n q18_a m_q18_a n_q18_a_q31).trans e_q18_a
  have e_q31 := e_q31_n
  have fr : ∀ x ∈ L, x ≠ h → f_8 x = f x := fun x hx hne => (fr_n x (inc x hx) (nL_q31 x hx)).trans (fr x hx hne)
  have m_h : h ∈ ((((((L ++ [q5]) ++ [q5_a]) ++ [q18]) ++ [q18_a]) ++ [q31]) ++ [q31_a]) := List.mem_append_left _ m_h
  have m_q5 : q5 ∈ ((((((L ++ [q5]) ++ [q5_a]) ++ [q18]) ++ [q18_a]) ++ [q31]) ++ [q31_a]) := List.mem_append_left _ m_q5
  have m_q5_a : q5_a ∈ ((((((L ++ [q5]) ++ [q5_a]) ++ [q18]) ++ [q18_a]) ++ [q31]) ++ [q31_a]) := List.mem_append_left _ m_q5_a
  have m_q18 : q18 ∈ ((((((L ++ [q5]) ++ [q5_a]) ++ [q18]) ++ [q18_a]) ++ [q31]) ++ [q31_a]) := List.mem_append_left _ m_q18
  have m_q18_a : q18_a ∈ ((((((L ++ [q5]) ++ [q5_a]) ++ [q18]) ++ [q18_a]) ++ [q31]) ++ [q31_a]) := List.mem_append_left _ m_q18_a
  have m_q31 : q31 ∈ ((((((L ++ [q5]) ++ [q5_a]) ++ [q18]) ++ [q18_a]) ++ [q31]) ++ [q31_a]) := List.mem_append_left _ m_q31
  have inc : ∀ x ∈ L, x ∈ ((((((L ++ [q5]) ++ [q5_a]) ++ [q18]) ++ [q18_a]) ++ [q31]) ++ [q31_a]) := fun x hx => List.mem_append_left _ (inc x hx)
  have m_q31_a : q31_a ∈ ((((((L ++ [q5]) ++ [q5_a]) ++ [q18]) ++ [q18_a]) ++ [q31]) ++ [q31_a]) := List.mem_append_right _ (by simp)
  refine gx_putF C hD_8 (i := 2) (ty := (.object RX4)) tyX3_ok nmX3 m_h e_h rfl in_X3_init_3 (by decide) fl_X3_init_23 rfl hin rfl (by decide +kernel) rfl rfl (Nat.le_of_ble_eq_true rfl) rfl dX3_init_40 ?_
  refine gx_gen (fun f_9 hf_9 => ?_)
  have e_q5 := (show f_9 q5 = f_8 q5 by rw [hf_9, va_up_of _ (Ne.symm n_h_q5)]).trans e_q5
  have e_q5_a := (show f_9 q5_a = f_8 q5_a by rw [hf_9, va_up_of _ (Ne.symm n_h_q5_a)]).trans e_q5_a
  have e_q18 := (show f_9 q18 = f_8 q18 by rw [hf_9, va_up_of _ (Ne.symm n_h_q18)]).trans e_q18
  have e_q18_a := (show f_9 q18_a = f_8 q18_a by rw [hf_9, va_up_of _ (Ne.symm n_h_q18_a)]).trans e_q18_a
  have e_q31 := (show f_9 q31 = f_8 q31 by rw [hf_9, va_up_of _ (Ne.symm n_h_q31)]).trans e_q31
  have e_q31_a := (show f_9 q31_a = f_8 q31_a by rw [hf_9, va_up_of _ (Ne.symm n_h_q31_a)]).trans e_q31_a
  have fr : ∀ x ∈ L, x ≠ h → f_9 x = f x := fun x hx hne => (show f_9 x = f_8 x by rw [hf_9, va_up_of _ hne]).trans (fr x hx hne)
  have e_h : f_9 h = .inr (3, [.ref q5, .ref q18, .ref q31, .null, .null, .null, .null, .null, .int 0]) := by rw [hf_9, va_up_at] <;> rfl
  refine gx_aload_n (q := 0) C dX3_init_43 rfl ?_
  refine gx_new C hD_8 hA (ci := 4) (fs := [.null]) tyX4_ok rfl in_X3_init_4 wd_X3_init_cl9 wd_X3_init_inRX4 wd_X3_init_iiRX4 (fun j hj => by rcases (show j = 0 by omega) with rfl; rfl) (Nat.le_of_ble_eq_true rfl) (Nat.le_of_ble_eq_true rfl) dX3_init_44 (fun q44 hD_q44 => ?_)
  refine gx_gen (fun f_10 hf_10 => ?_)
  have n_h_q44 := gD_ne hD_q44 m_h (List.mem_singleton.mpr rfl)
  have n_q5_q44 := gD_ne hD_q44 m_q5 (List.mem_singleton.mpr rfl)
  have n_q5_a_q44 := gD_ne hD_q44 m_q5_a (List.mem_singleton.mpr rfl)
  have n_q18_q44 := gD_ne hD_q44 m_q18 (List.mem_singleton.mpr rfl)
  have n_q18_a_q44 := gD_ne hD_q44 m_q18_a (List.mem_singleton.mpr rfl)
  have n_q31_q44 := gD_ne hD_q44 m_q31 (List.mem_singleton.mpr rfl)
  have n_q31_a_q44 := gD_ne hD_q44 m_q31_a (List.mem_singleton.mpr rfl)
  have nL_q44 : ∀ x ∈ L, x ≠ q44 := fun x hx => gD_ne hD_q44 (inc x hx) (List.mem_singleton.mpr rfl)
  have e_h := (show f_10 h = f_9 h by rw [hf_10, va_up_of _ n_h_q44]).trans e_h
  have m_h := List.mem_append_left [q44] m_h
  have e_q5 := (show f_10 q5 = f_9 q5 by rw [hf_10, va_up_of _ n_q5_q44]).trans e_q5
  have m_q5 := List.mem_append_left [q44] m_q5
  have e_q5_a := (show f_10 q5_a = f_9 q5_a by rw [hf_10, va_up_of _ n_q5_a_q44]).trans e_q5_a
  have m_q5_a := List.mem_append_left [q44] m_q5_a
  have e_q18 := (show f_10 q18 = f_9 q18 by rw [hf_10, va_up_of _ n_q18_q44]).trans e_q18
  have m_q18 := List.mem_append_left [q44] m_q18
  have e_q18_a := (show f_10 q18_a = f_9 q18_a by rw [hf_10, va_up_of _ n_q18_a_q44]).trans e_q18_a
  have m_q18_a := List.mem_append_left [q44] m_q18_a
  have e_q31 := (show f_10 q31 = f_9 q31 by rw [hf_10, va_up_of _ n_q31_q44]).trans e_q31
  have m_q31 := List.mem_append_left [q44] m_q31
  have e_q31_a := (show f_10 q31_a = f_9 q31_a by rw [hf_10, va_up_of _ n_q31_a_q44]).trans e_q31_a
  have m_q31_a := List.mem_append_left [q44] m_q31_a
  have fr : ∀ x ∈ L, x ≠ h → f_10 x = f x := fun x hx hne => (show f_10 x = f_9 x by rw [hf_10, va_up_of _ (nL_q44 x hx)]).trans (fr x hx hne)
  have inc : ∀ x ∈ L, x ∈ (((((((L ++ [q5]) ++ [q5_a]) ++ [q18]) ++ [q18_a]) ++ [q31]) ++ [q31_a]) ++ [q44]) := fun x hx => List.mem_append_left _ (inc x hx)
  have m_q44 : q44 ∈ (((((((L ++ [q5]) ++ [q5_a]) ++ [q18]) ++ [q18_a]) ++ [q31]) ++ [q31_a]) ++ [q44]) := List.mem_append_right _ (List.mem_singleton.mpr rfl)
  have e_q44 : f_10 q44 = .inr (4, [.null]) := by rw [hf_10, va_up_at]
  refine gx_dup C rfl dX3_init_47 ?_
  refine gx_bipush (v := 20) C dX3_init_48 (by decide) ?_
  refine gx_callI C hAO hD_q44 hA (k_X4_init l hD_q44.1 m_q44 e_q44 (n := 20) (Nat.le_of_ble_eq_true rfl)) (cwI 1 C.2.2.2.2.1 gX3_init_X4_init rfl rfl rfl (C.2.2.2.2.1 _ wd_X3_init_iniRX4) (C.2.2.2.2.1 _ wd_X3_init_ml11) (C.2.2.2.2.1 _ wd_X3_init_im_X4_init) rfl kdN_X4_init ⟨Nat.le_of_ble_eq_true rfl, Nat.le_of_ble_eq_true rfl⟩) rfl rfl (Nat.le_of_ble_eq_true rfl) ⟨(Nat.le_of_ble_eq_true rfl), (Nat.le_of_ble_eq_true rfl)⟩ dX3_init_50 (fun v_11 N_11 f_11 hp_11 hD_11 => ?_)
  obtain ⟨rfl, q44_a, rfl, e_q44_n, e_q44_a, fr_n⟩ := hp_11
  refine gx_nil ?_
  have n_h_q44_a := gD_ne hD_11 m_h (show q44_a ∈ [q44_a] by simp)
  have n_q5_q44_a := gD_ne hD_11 m_q5 (show q44_a ∈ [q44_a] by simp)
  have n_q5_a_q44_a := gD_ne hD_11 m_q5_a (show q44_a ∈ [q44_a] by simp)
  have n_q18_q44_a := gD_ne hD_11 m_q18 (show q44_a ∈ [q44_a] by simp)
  have n_q18_a_q44_a := gD_ne hD_11 m_q18_a (show q44_a ∈ [q44_a] by simp)
  have n_q31_q44_a := gD_ne hD_11 m_q31 (show q44_a ∈ [q44_a] by simp)
  have n_q31_a_q44_a := gD_ne hD_11 m_q31_a (show q44_a ∈ [q44_a] by simp)
  have n_q44_q44_a := gD_ne hD_11 m_q44 (show q44_a ∈ [q44_a] by simp)
  have nL_q44_a : ∀ x ∈ L, x ≠ q44_a := fun x hx => gD_ne hD_11 (inc x hx) (show q44_a ∈ [q44_a] by simp)
  have e_h := (fr_n h m_h n_h_q44).trans e_h
  have e_q5 := (fr_n q5 m_q5 n_q5_q44).trans e_q5
  have e_q5_a := (fr_n q5_a m_q5_a n_q5_a_q44).trans e_q5_a
  have e_q18 := (fr_n q18 m_q18 n_q18_q44).trans e_q18
  have e_q18_a := (fr_n q18_a m_q18_a n_q18_a_q44).trans e_q18_a
  have e_q31 := (fr_n q31 m_q31 n_q31_q44).trans e_q31
  have e_q31_a := (fr_n q31_a m_q31_a n_q31_a_q44).trans e_q31_a
  have e_q44 := e_q44_n
  have fr : ∀ x ∈ L, x ≠ h → f_11 x = f x := fun x hx hne => (fr_n x (inc x hx) (nL_q44 x hx)).trans (fr x hx hne)
  have m_h : h ∈ ((((((((L ++ [q5]) ++ [q5_a]) ++ [q18]) ++ [q18_a]) ++ [q31]) ++ [q31_a]) ++ [q44]) ++ [q44_a]) := List.mem_append_left _ m_h
  have m_q5 : q5 ∈ ((((((((L ++ [q5]) ++ [q5_a]) ++ [q18]) ++ [q18_a]) ++ [q31]) ++ [q31_a]) ++ [q44]) ++ [q44_a]) := List.mem_append_left _ m_q5
  have m_q5_a : q5_a ∈ ((((((((L ++ [q5]) ++ [q5_a]) ++ [q18]) ++ [q18_a]) ++ [q31]) ++ [q31_a]) ++ [q44]) ++ [q44_a]) := List.mem_append_left _ m_q5_a
  have m_q18 : q18 ∈ ((((((((L ++ [q5]) ++ [q5_a]) ++ [q18]) ++ [q18_a]) ++ [q31]) ++ [q31_a]) ++ [q44]) ++ [q44_a]) := List.mem_append_left _ m_q18
  have m_q18_a : q18_a ∈ ((((((((L ++ [q5]) ++ [q5_a]) ++ [q18]) ++ [q18_a]) ++ [q31]) ++ [q31_a]) ++ [q44]) ++ [q44_a]) := List.mem_append_left _ m_q18_a
  have m_q31 : q31 ∈ ((((((((L ++ [q5]) ++ [q5_a]) ++ [q18]) ++ [q18_a]) ++ [q31]) ++ [q31_a]) ++ [q44]) ++ [q44_a]) := List.mem_append_left _ m_q31
  have m_q31_a : q31_a ∈ ((((((((L ++ [q5]) ++ [q5_a]) ++ [q18]) ++ [q18_a]) ++ [q31]) ++ [q31_a]) ++ [q44]) ++ [q44_a]) := List.mem_append_left _ m_q31_a
  have m_q44 : q44 ∈ ((((((((L ++ [q5]) ++ [q5_a]) ++ [q18]) ++ [q18_a]) ++ [q31]) ++ [q31_a]) ++ [q44]) ++ [q44_a]) := List.mem_append_left _ m_q44
  have inc : ∀ x ∈ L, x ∈ ((((((((L ++ [q5]) ++ [q5_a]) ++ [q18]) ++ [q18_a]) ++ [q31]) ++ [q31_a]) ++ [q44]) ++ [q44_a]) := fun x hx => List.mem_append_left _ (inc x hx)
  have m_q44_a : q44_a ∈ ((((((((L ++ [q5]) ++ [q5_a]) ++ [q18]) ++ [q18_a]) ++ [q31]) ++ [q31_a]) ++ [q44]) ++ [q44_a]) := List.mem_append_right _ (by simp)
  refine gx_putF C hD_11 (i := 3) (ty := (.object RX4)) tyX3_ok nmX3 m_h e_h rfl in_X3_init_3 (by decide) fl_X3_init_26 rfl hin rfl (by decide +kernel) rfl rfl (Nat.le_of_ble_eq_true rfl) rfl dX3_init_53 ?_
  refine gx_gen (fun f_12 hf_12 => ?_)
  have e_q5 := (show f_12 q5 = f_11 q5 by rw [hf_12, va_up_of _ (Ne.symm n_h_q5)]).trans e_q5
  have e_q5_a := (show f_12 q5_a = f_11 q5_a by rw [hf_12, va_up_of _ (Ne.symm n_h_q5_a)]).trans e_q5_a
  have e_q18 := (show f_12 q18 = f_11 q18 by rw [hf_12, va_up_of _ (Ne.symm n_h_q18)]).trans e_q18
  have e_q18_a := (show f_12 q18_a = f_11 q18_a by rw [hf_12, va_up_of _ (Ne.symm n_h_q18_a)]).trans e_q18_a
  have e_q31 := (show f_12 q31 = f_11 q31 by rw [hf_12, va_up_of _ (Ne.symm n_h_q31)]).trans e_q31
  have e_q31_a := (show f_12 q31_a = f_11 q31_a by rw [hf_12, va_up_of _ (Ne.symm n_h_q31_a)]).trans e_q31_a
  have e_q44 := (show f_12 q44 = f_11 q44 by rw [hf_12, va_up_of _ (Ne.symm n_h_q44)]).trans e_q44
  have e_q44_a := (show f_12 q44_a = f_11 q44_a by rw [hf_12, va_up_of _ (Ne.symm n_h_q44_a)]).trans e_q44_a
  have fr : ∀ x ∈ L, x ≠ h → f_12 x = f x := fun x hx hne => (show f_12 x = f_11 x by rw [hf_12, va_up_of _ hne]).trans (fr x hx hne)
  have e_h : f_12 h = .inr (3, [.ref q5, .ref q18, .ref q31, .ref q44, .null, .null, .null, .null, .int 0]) := by rw [hf_12, va_up_at] <;> rfl
  refine gx_aload_n (q := 0) C dX3_init_56 rfl ?_
  refine gx_new C hD_11 hA (ci := 4) (fs := [.null]) tyX4_ok rfl in_X3_init_4 wd_X3_init_cl9 wd_X3_init_inRX4 wd_X3_init_iiRX4 (fun j hj => by rcases (show j = 0 by omega) with rfl; rfl) (Nat.le_of_ble_eq_true rfl) (Nat.le_of_ble_eq_true rfl) dX3_init_57 (fun q57 hD_q57 => ?_)
  refine gx_gen (fun f_13 hf_13 => ?_)
  have n_h_q57 := gD_ne hD_q57 m_h (List.mem_singleton.mpr rfl)
  have n_q5_q57 := gD_ne hD_q57 m_q5 (List.mem_singleton.mpr rfl)
  have n_q5_a_q57 := gD_ne hD_q57 m_q5_a (List.mem_singleton.mpr rfl)
  have n_q18_q57 := gD_ne hD_q57 m_q18 (List.mem_singleton.mpr rfl)
  have n_q18_a_q57 := gD_ne hD_q57 m_q18_a (List.mem_singleton.mpr rfl)
  have n_q31_q57 := gD_ne hD_q57 m_q31 (List.mem_singleton.mpr rfl)
  have n_q31_a_q57 := gD_ne hD_q57 m_q31_a (List.mem_singleton.mpr rfl)
  have n_q44_q57 := gD_ne hD_q57 m_q44 (List.mem_singleton.mpr rfl)
  have n_q44_a_q57 := gD_ne hD_q57 m_q44_a (List.mem_singleton.mpr rfl)
  have nL_q57 : ∀ x ∈ L, x ≠ q57 := fun x hx => gD_ne hD_q57 (inc x hx) (List.mem_singleton.mpr rfl)
  have e_h := (show f_13 h = f_12 h by rw [hf_13, va_up_of _ n_h_q57]).trans e_h
  have m_h := List.mem_append_left [q57] m_h
  have e_q5 := (show f_13 q5 = f_12 q5 by rw [hf_13, va_up_of _ n_q5_q57]).trans e_q5
  have m_q5 := List.mem_append_left [q57] m_q5
  have e_q5_a := (show f_13 q5_a = f_12 q5_a by rw [hf_13, va_up_of _ n_q5_a_q57]).trans e_q5_a
  have m_q5_a := List.mem_append_left [q57] m_q5_a
  have e_q18 := (show f_13 q18 = f_12 q18 by rw [hf_13, va_up_of _ n_q18_q57]).trans e_q18
  have m_q18 := List.mem_append_left [q57] m_q18
  have e_q18_a := (show f_13 q18_a = f_12 q18_a by rw [hf_13, va_up_of _ n_q18_a_q57]).trans e_q18_a
  have m_q18_a := List.mem_append_left [q57] m_q18_a
  have e_q31 := (show f_13 q31 = f_12 q31 by rw [hf_13, va_up_of _ n_q31_q57]).trans e_q31
  have m_q31 := List.mem_append_left [q57] m_q31
  have e_q31_a := (show f_13 q31_a = f_12 q31_a by rw [hf_13, va_up_of _ n_q31_a_q57]).trans e_q31_a
  have m_q31_a := List.mem_append_left [q57] m_q31_a
  have e_q44 := (show f_13 q44 = f_12 q44 by rw [hf_13, va_up_of _ n_q44_q57]).trans e_q44
  have m_q44 := List.mem_append_left [q57] m_q44
  have e_q44_a := (show f_13 q44_a = f_12 q44_a by rw [hf_13, va_up_of _ n_q44_a_q57]).trans e_q44_a
  have m_q44_a := List.mem_append_left [q57] m_q44_a
  have fr : ∀ x ∈ L, x ≠ h → f_13 x = f x := fun x hx hne => (show f_13 x = f_12 x by rw [hf_13, va_up_of _ (nL_q57 x hx)]).trans (fr x hx hne)
  have inc : ∀ x ∈ L, x ∈ (((((((((L ++ [q5]) ++ [q5_a]) ++ [q18]) ++ [q18_a]) ++ [q31]) ++ [q31_a]) ++ [q44]) ++ [q44_a]) ++ [q57]) := fun x hx => List.mem_append_left _ (inc x hx)
  have m_q57 : q57 ∈ (((((((((L ++ [q5]) ++ [q5_a]) ++ [q18]) ++ [q18_a]) ++ [q31]) ++ [q31_a]) ++ [q44]) ++ [q44_a]) ++ [q57]) := List.mem_append_right _ (List.mem_singleton.mpr rfl)
  have e_q57 : f_13 q57 = .inr (4, [.null]) := by rw [hf_13, va_up_at]
  refine gx_dup C rfl dX3_init_60 ?_
  refine gx_bipush (v := 20) C dX3_init_61 (by decide) ?_
  refine gx_callI C hAO hD_q57 hA (k_X4_init l hD_q57.1 m_q57 e_q57 (n := 20) (Nat.le_of_ble_eq_true rfl)) (cwI 1 C.2.2.2.2.1 gX3_init_X4_init rfl rfl rfl (C.2.2.2.2.1 _ wd_X3_init_iniRX4) (C.2.2.2.2.1 _ wd_X3_init_ml11) (C.2.2.2.2.1 _ wd_X3_init_im_X4_init) rfl kdN_X4_init ⟨Nat.le_of_ble_eq_true rfl, Nat.le_of_ble_eq_true rfl⟩) rfl rfl (Nat.le_of_ble_eq_true rfl) ⟨(Nat.le_of_ble_eq_true rfl), (Nat.le_of_ble_eq_true rfl)⟩ dX3_init_63 (fun v_14 N_14 f_14 hp_14 hD_14 => ?_)
  obtain ⟨rfl, q57_a, rfl, e_q57_n, e_q57_a, fr_n⟩ := hp_14
  refine gx_nil ?_
  have n_h_q57_a := gD_ne hD_14 m_h (show q57_a ∈ [q57_a] by simp)
  have n_q5_q57_a := gD_ne hD_14 m_q5 (show q57_a ∈ [q57_a] by simp)
  have n_q5_a_q57_a := gD_ne hD_14 m_q5_a (show q57_a ∈ [q57_a] by simp)
  have n_q18_q57_a := gD_ne hD_14 m_q18 (show q57_a ∈ [q57_a] by simp)
  have n_q18_a_q57_a := gD_ne hD_14 m_q18_a (show q57_a ∈ [q57_a] by simp)
  have n_q31_q57_a := gD_ne hD_14 m_q31 (show q57_a ∈ [q57_a] by simp)
  have n_q31_a_q57_a := gD_ne hD_14 m_q31_a (show q57_a ∈ [q57_a] by simp)
  have n_q44_q57_a := gD_ne hD_14 m_q44 (show q57_a ∈ [q57_a] by simp)
  have n_q44_a_q57_a := gD_ne hD_14 m_q44_a (show q57_a ∈ [q57_a] by simp)
  have n_q57_q57_a := gD_ne hD_14 m_q57 (show q57_a ∈ [q57_a] by simp)
  have nL_q57_a : ∀ x ∈ L, x ≠ q57_a := fun x hx => gD_ne hD_14 (inc x hx) (show q57_a ∈ [q57_a] by simp)
  have e_h := (fr_n h m_h n_h_q57).trans e_h
  have e_q5 := (fr_n q5 m_q5 n_q5_q57).trans e_q5
  have e_q5_a := (fr_n q5_a m_q5_a n_q5_a_q57).trans e_q5_a
  have e_q18 := (fr_n q18 m_q18 n_q18_q57).trans e_q18
  have e_q18_a := (fr_n q18_a m_q18_a n_q18_a_q57).trans e_q18_a
  have e_q31 := (fr_n q31 m_q31 n_q31_q57).trans e_q31
  have e_q31_a := (fr_n q31_a m_q31_a n_q31_a_q57).trans e_q31_a
  have e_q44 := (fr_n q44 m_q44 n_q44_q57).trans e_q44
  have e_q44_a := (fr_n q44_a m_q44_a n_q44_a_q57).trans e_q44_a
  have e_q57 := e_q57_n
  have fr : ∀ x ∈ L, x ≠ h → f_14 x = f x := fun x hx hne => (fr_n x (inc x hx) (nL_q57 x hx)).trans (fr x hx hne)
  have m_h : h ∈ ((((((((((L ++ [q5]) ++ [q5_a]) ++ [q18]) ++ [q18_a]) ++ [q31]) ++ [q31_a]) ++ [q44]) ++ [q44_a]) ++ [q57]) ++ [q57_a]) := List.mem_append_left _ m_h
  have m_q5 : q5 ∈ ((((((((((L ++ [q5]) ++ [q5_a]) ++ [q18]) ++ [q18_a]) ++ [q31]) ++ [q31_a]) ++ [q44]) ++ [q44_a]) ++ [q57]) ++ [q57_a]) := List.mem_append_left _ m_q5
  have m_q5_a : q5_a ∈ ((((((((((L ++ [q5]) ++ [q5_a]) ++ [q18]) ++ [q18_a]) ++ [q31]) ++ [q31_a]) ++ [q44]) ++ [q44_a]) ++ [q57]) ++ [q57_a]) := List.mem_append_left _ m_q5_a
  have m_q18 : q18 ∈ ((((((((((L ++ [q5]) ++ [q5_a]) ++ [q18]) ++ [q18_a]) ++ [q31]) ++ [q31_a]) ++ [q44]) ++ [q44_a]) ++ [q57]) ++ [q57_a]) := List.mem_append_left _ m_q18
  have m_q18_a : q18_a ∈ ((((((((((L ++ [q5]) ++ [q5_a]) ++ [q18]) ++ [q18_a]) ++ [q31]) ++ [q31_a]) ++ [q44]) ++ [q44_a]) ++ [q57]) ++ [q57_a]) := List.mem_append_left _ m_q18_a
  have m_q31 : q31 ∈ ((((((((((L ++ [q5]) ++ [q5_a]) ++ [q18]) ++ [q18_a]) ++ [q31]) ++ [q31_a]) ++ [q44]) ++ [q44_a]) ++ [q57]) ++ [q57_a]) := List.mem_append_left _ m_q31
  have m_q31_a : q31_a ∈ ((((((((((L ++ [q5]) ++ [q5_a]) ++ [q18]) ++ [q18_a]) ++ [q31]) ++ [q31_a]) ++ [q44]) ++ [q44_a]) ++ [q57]) ++ [q57_a]) := List.mem_append_left _ m_q31_a
  have m_q44 : q44 ∈ ((((((((((L ++ [q5]) ++ [q5_a]) ++ [q18]) ++ [q18_a]) ++ [q31]) ++ [q31_a]) ++ [q44]) ++ [q44_a]) ++ [q57]) ++ [q57_a]) := List.mem_append_left _ m_q44
  have m_q44_a : q44_a ∈ ((((((((((L ++ [q5]) ++ [q5_a]) ++ [q18]) ++ [q18_a]) ++ [q31]) ++ [q31_a]) ++ [q44]) ++ [q44_a]) ++ [q57]) ++ [q57_a]) := List.mem_append_left _ m_q44_a
  have m_q57 : q57 ∈ ((((((((((L ++ [q5]) ++ [q5_a]) ++ [q18]) ++ [q18_a]) ++ [q31]) ++ [q31_a]) ++ [q44]) ++ [q44_a]) ++ [q57]) ++ [q57_a]) := List.mem_append_left _ m_q57
  have inc : ∀ x ∈ L, x ∈ ((((((((((L ++ [q5]) ++ [q5_a]) ++ [q18]) ++ [q18_a]) ++ [q31]) ++ [q31_a]) ++ [q44]) ++ [q44_a]) ++ [q57]) ++ [q57_a]) := fun x hx => List.mem_append_left _ (inc x hx)
  have m_q57_a : q57_a ∈ ((((((((((L ++ [q5]) ++ [q5_a]) ++ [q18]) ++ [q18_a]) ++ [q31]) ++ [q31_a]) ++ [q44]) ++ [q44_a]) ++ [q57]) ++ [q57_a]) := List.mem_append_right _ (by simp)
  refine gx_putF C hD_14 (i := 4) (ty := (.object RX4)) tyX3_ok nmX3 m_h e_h rfl in_X3_init_3 (by decide) fl_X3_init_29 rfl hin rfl (by decide +kernel) rfl rfl (Nat.le_of_ble_eq_true rfl) rfl dX3_init_66 ?_
  refine gx_gen (fun f_15 hf_15 => ?_)
  have e_q5 := (show f_15 q5 = f_14 q5 by rw [hf_15, va_up_of _ (Ne.symm n_h_q5)]).trans e_q5
  have e_q5_a := (show f_15 q5_a = f_14 q5_a by rw [hf_15, va_up_of _ (Ne.symm n_h_q5_a)]).trans e_q5_a
  have e_q18 := (show f_15 q18 = f_14 q18 by rw [hf_15, va_up_of _ (Ne.symm n_h_q18)]).trans e_q18
  have e_q18_a := (show f_15 q18_a = f_14 q18_a by rw [hf_15, va_up_of _ (Ne.symm n_h_q18_a)]).trans e_q18_a
  have e_q31 := (show f_15 q31 = f_14 q31 by rw [hf_15, va_up_of _ (Ne.symm n_h_q31)]).trans e_q31
  have e_q31_a := (show f_15 q31_a = f_14 q31_a by rw [hf_15, va_up_of _ (Ne.symm n_h_q31_a)]).trans e_q31_a
  have e_q44 := (show f_15 q44 = f_14 q44 by rw [hf_15, va_up_of _ (Ne.symm n_h_q44)]).trans e_q44
  have e_q44_a := (show f_15 q44_a = f_14 q44_a by rw [hf_15, va_up_of _ (Ne.symm n_h_q44_a)]).trans e_q44_a
  have e_q57 := (show f_15 q57 = f_14 q57 by rw [hf_15, va_up_of _ (Ne.symm n_h_q57)]).trans e_q57
  have e_q57_a := (show f_15 q57_a = f_14 q57_a by rw [hf_15, va_up_of _ (Ne.symm n_h_q57_a)]).trans e_q57_a
  have fr : ∀ x ∈ L, x ≠ h → f_15 x = f x := fun x hx hne => (show f_15 x = f_14 x by rw [hf_15, va_up_of _ hne]).trans (fr x hx hne)
  have e_h : f_15 h = .inr (3, [.ref q5, .ref q18, .ref q31, .ref q44, .ref q57, .null, .null, .null, .int 0]) := by rw [hf_15, va_up_at] <;> rfl
  refine gx_aload_n (q := 0) C dX3_init_69 rfl ?_
  refine gx_new C hD_14 hA (ci := 4) (fs := [.null]) tyX4_ok rfl in_X3_init_4 wd_X3_init_cl9 wd_X3_init_inRX4 wd_X3_init_iiRX4 (fun j hj => by rcases (show j = 0 by omega) with rfl; rfl) (Nat.le_of_ble_eq_true rfl) (Nat.le_of_ble_eq_true rfl) dX3_init_70 (fun q70 hD_q70 => ?_)
  refine gx_gen (fun f_16 hf_16 => ?_)
  have n_h_q70 := gD_ne hD_q70 m_h (List.mem_singleton.mpr rfl)
  have n_q5_q70 := gD_ne hD_q70 m_q5 (List.mem_singleton.mpr rfl)
  have n_q5_a_q70 := gD_ne hD_q70 m_q5_a (List.mem_singleton.mpr rfl)
  have n_q18_q70 := gD_ne hD_q70 m_q18 (List.mem_singleton.mpr rfl)
  have n_q18_a_q70 := gD_ne hD_q70 m_q18_a (List.mem_singleton.mpr rfl)
  have n_q31_q70 := gD_ne hD_q70 m_q31 (List.mem_singleton.mpr rfl)
  have n_q31_a_q70 := gD_ne hD_q70 m_q31_a (List.mem_singleton.mpr rfl)
  have n_q44_q70 := gD_ne hD_q70 m_q44 (List.mem_singleton.mpr rfl)
  have n_q44_a_q70 := gD_ne hD_q70 m_q44_a (List.mem_singleton.mpr rfl)
  have n_q57_q70 := gD_ne hD_q70 m_q57 (List.mem_singleton.mpr rfl)
  have n_q57_a_q70 := gD_ne hD_q70 m_q57_a (List.mem_singleton.mpr rfl)
  have nL_q70 : ∀ x ∈ L, x ≠ q70 := fun x hx => gD_ne hD_q70 (inc x hx) (List.mem_singleton.mpr rfl)
  have e_h := (show f_16 h = f_15 h by rw [hf_16, va_up_of _ n_h_q70]).trans e_h
  have m_h := List.mem_append_left [q70] m_h
  have e_q5 := (show f_16 q5 = f_15 q5 by rw [hf_16, va_up_of _ n_q5_q70]).trans e_q5
  have m_q5 := List.mem_append_left [q70] m_q5
  have e_q5_a := (show f_16 q5_a = f_15 q5_a by rw [hf_16, va_up_of _ n_q5_a_q70]).trans e_q5_a
  have m_q5_a := List.mem_append_left [q70] m_q5_a
  have e_q18 := (show f_16 q18 = f_15 q18 by rw [hf_16, va_up_of _ n_q18_q70]).trans e_q18
  have m_q18 := List.mem_append_left [q70] m_q18
  have e_q18_a := (show f_16 q18_a = f_15 q18_a by rw [hf_16, va_up_of _ n_q18_a_q70]).trans e_q18_a
  have m_q18_a := List.mem_append_left [q70] m_q18_a
  have e_q31 := (show f_16 q31 = f_15 q31 by rw [hf_16, va_up_of _ n_q31_q70]).trans e_q31
  have m_q31 := List.mem_append_left [q70] m_q31
  have e_q31_a := (show f_16 q31_a = f_15 q31_a by rw [hf_16, va_up_of _ n_q31_a_q70]).trans e_q31_a
  have m_q31_a := List.mem_append_left [q70] m_q31_a
  have e_q44 := (show f_16 q44 = f_15 q44 by rw [hf_16, va_up_of _ n_q44_q70]).trans e_q44
  have m_q44 := List.mem_append_left [q70] m_q44
  have e_q44_a := (show f_16 q44_a = f_15 q44_a by rw [hf_16, va_up_of _ n_q44_a_q70]).trans e_q44_a
  have m_q44_a := List.mem_append_left [q70] m_q44_a
  have e_q57 := (show f_16 q57 = f_15 q57 by rw [hf_16, va_up_of _ n_q57_q70]).trans e_q57
  have m_q57 := List.mem_append_left [q70] m_q57
  have e_q57_a := (show f_16 q57_a = f_15 q57_a by rw [hf_16, va_up_of _ n_q57_a_q70]).trans e_q57_a
  have m_q57_a := List.mem_append_left [q70] m_q57_a
  have fr : ∀ x ∈ L, x ≠ h → f_16 x = f x := fun x hx hne => (show f_16 x = f_15 x by rw [hf_16, va_up_of _ (nL_q70 x hx)]).trans (fr x hx hne)
  have inc : ∀ x ∈ L, x ∈ (((((((((((L ++ [q5]) ++ [q5_a]) ++ [q18]) ++ [q18_a]) ++ [q31]) ++ [q31_a]) ++ [q44]) ++ [q44_a]) ++ [q57]) ++ [q57_a]) ++ [q70]) := fun x hx => List.mem_append_left _ (inc x hx)
  have m_q70 : q70 ∈ (((((((((((L ++ [q5]) ++ [q5_a]) ++ [q18]) ++ [q18_a]) ++ [q31]) ++ [q31_a]) ++ [q44]) ++ [q44_a]) ++ [q57]) ++ [q57_a]) ++ [q70]) := List.mem_append_right _ (List.mem_singleton.mpr rfl)
  have e_q70 : f_16 q70 = .inr (4, [.null]) := by rw [hf_16, va_up_at]
  refine gx_dup C rfl dX3_init_73 ?_
  refine gx_bipush (v := 20) C dX3_init_74 (by decide) ?_
  refine gx_callI C hAO hD_q70 hA (k_X4_init l hD_q70.1 m_q70 e_q70 (n := 20) (Nat.le_of_ble_eq_true rfl)) (cwI 1 C.2.2.2.2.1 gX3_init_X4_init rfl rfl rfl (C.2.2.2.2.1 _ wd_X3_init_iniRX4) (C.2.2.2.2.1 _ wd_X3_init_ml11) (C.2.2.2.2.1 _ wd_X3_init_im_X4_init) rfl kdN_X4_init ⟨Nat.le_of_ble_eq_true rfl, Nat.le_of_ble_eq_true rfl⟩) rfl rfl (Nat.le_of_ble_eq_true rfl) ⟨(Nat.le_of_ble_eq_true rfl), (Nat.le_of_ble_eq_true rfl)⟩ dX3_init_76 (fun v_17 N_17 f_17 hp_17 hD_17 => ?_)
  obtain ⟨rfl, q70_a, rfl, e_q70_n, e_q70_a, fr_n⟩ := hp_17
  refine gx_nil ?_
  have n_h_q70_a := gD_ne hD_17 m_h (show q70_a ∈ [q70_a] by simp)
  have n_q5_q70_a := gD_ne hD_17 m_q5 (show q70_a ∈ [q70_a] by simp)
  have n_q5_a_q70_a := gD_ne hD_17 m_q5_a (show q70_a ∈ [q70_a] by simp)
  have n_q18_q70_a := gD_ne hD_17 m_q18 (show q70_a ∈ [q70_a] by simp)
  have n_q18_a_q70_a := gD_ne hD_17 m_q18_a (show q70_a ∈ [q70_a] by simp)
  have n_q31_q70_a := gD_ne hD_17 m_q31 (show q70_a ∈ [q70_a] by simp)
  have n_q31_a_q70_a := gD_ne hD_17 m_q31_a (show q70_a ∈ [q70_a] by simp)
  have n_q44_q70_a := gD_ne hD_17 m_q44 (show q70_a ∈ [q70_a] by simp)
  have n_q44_a_q70_a := gD_ne hD_17 m_q44_a (show q70_a ∈ [q70_a] by simp)
  have n_q57_q70_a := gD_ne hD_17 m_q57 (show q70_a ∈ [q70_a] by simp)
  have n_q57_a_q70_a := gD_ne hD_17 m_q57_a (show q70_a ∈ [q70_a] by simp)
  have n_q70_q70_a := gD_ne hD_17 m_q70 (show q70_a ∈ [q70_a] by simp)
  have nL_q70_a : ∀ x ∈ L, x ≠ q70_a := fun x hx => gD_ne hD_17 (inc x hx) (show q70_a ∈ [q70_a] by simp)
  have e_h := (fr_n h m_h n_h_q70).trans e_h
  have e_q5 := (fr_n q5 m_q5 n_q5_q70).trans e_q5
  have e_q5_a := (fr_n q5_a m_q5_a n_q5_a_q70).trans e_q5_a
  have e_q18 := (fr_n q18 m_q18 n_q18_q70).trans e_q18
  have e_q18_a := (fr_n q18_a m_q18_a n_q18_a_q70).trans e_q18_a
  have e_q31 := (fr_n q31 m_q31 n_q31_q70).trans e_q31
  have e_q31_a := (fr_n q31_a m_q31_a n_q31_a_q70).trans e_q31_a
  have e_q44 := (fr_n q44 m_q44 n_q44_q70).trans e_q44
  have e_q44_a := (fr_n q44_a m_q44_a n_q44_a_q70).trans e_q44_a
  have e_q57 := (fr_n q57 m_q57 n_q57_q70).trans e_q57
  have e_q57_a := (fr_n q57_a m_q57_a n_q57_a_q70).trans e_q57_a
  have e_q70 := e_q70_n
  have fr : ∀ x ∈ L, x ≠ h → f_17 x = f x := fun x hx hne => (fr_n x (inc x hx) (nL_q70 x hx)).trans (fr x hx hne)
  have m_h : h ∈ ((((((((((((L ++ [q5]) ++ [q5_a]) ++ [q18]) ++ [q18_a]) ++ [q31]) ++ [q31_a]) ++ [q44]) ++ [q44_a]) ++ [q57]) ++ [q57_a]) ++ [q70]) ++ [q70_a]) := List.mem_append_left _ m_h
  have m_q5 : q5 ∈ ((((((((((((L ++ [q5]) ++ [q5_a]) ++ [q18]) ++ [q18_a]) ++ [q31]) ++ [q31_a]) ++ [q44]) ++ [q44_a]) ++ [q57]) ++ [q57_a]) ++ [q70]) ++ [q70_a]) := List.mem_append_left _ m_q5
  have m_q5_a : q5_a ∈ ((((((((((((L ++ [q5]) ++ [q5_a]) ++ [q18]) ++ [q18_a]) ++ [q31]) ++ [q31_a]) ++ [q44]) ++ [q44_a]) ++ [q57]) ++ [q57_a]) ++ [q70]) ++ [q70_a]) := List.mem_append_left _ m_q5_a
  have m_q18 : q18 ∈ ((((((((((((L ++ [q5]) ++ [q5_a]) ++ [q18]) ++ [q18_a]) ++ [q31]) ++ [q31_a]) ++ [q44]) ++ [q44_a]) ++ [q57]) ++ [q57_a]) ++ [q70]) ++ [q70_a]) := List.mem_append_left _ m_q18
  have m_q18_a : q18_a ∈ ((((((((((((L ++ [q5]) ++ [q5_a]) ++ [q18]) ++ [q18_a]) ++ [q31]) ++ [q31_a]) ++ [q44]) ++ [q44_a]) ++ [q57]) ++ [q57_a]) ++ [q70]) ++ [q70_a]) := List.mem_append_left _ m_q18_a
  have m_q31 : q31 ∈ ((((((((((((L ++ [q5]) ++ [q5_a]) ++ [q18]) ++ [q18_a]) ++ [q31]) ++ [q31_a]) ++ [q44]) ++ [q44_a]) ++ [q57]) ++ [q57_a]) ++ [q70]) ++ [q70_a]) := List.mem_append_left _ m_q31
  have m_q31_a : q31_a ∈ ((((((((((((L ++ [q5]) ++ [q5_a]) ++ [q18]) ++ [q18_a]) ++ [q31]) ++ [q31_a]) ++ [q44]) ++ [q44_a]) ++ [q57]) ++ [q57_a]) ++ [q70]) ++ [q70_a]) := List.mem_append_left _ m_q31_a
  have m_q44 : q44 ∈ ((((((((((((L ++ [q5]) ++ [q5_a]) ++ [q18]) ++ [q18_a]) ++ [q31]) ++ [q31_a]) ++ [q44]) ++ [q44_a]) ++ [q57]) ++ [q57_a]) ++ [q70]) ++ [q70_a]) := List.mem_append_left _ m_q44
  have m_q44_a : q44_a ∈ ((((((((((((L ++ [q5]) ++ [q5_a]) ++ [q18]) ++ [q18_a]) ++ [q31]) ++ [q31_a]) ++ [q44]) ++ [q44_a]) ++ [q57]) ++ [q57_a]) ++ [q70]) ++ [q70_a]) := List.mem_append_left _ m_q44_a
  have m_q57 : q57 ∈ ((((((((((((L ++ [q5]) ++ [q5_a]) ++ [q18]) ++ [q18_a]) ++ [q31]) ++ [q31_a]) ++ [q44]) ++ [q44_a]) ++ [q57]) ++ [q57_a]) ++ [q70]) ++ [q70_a]) := List.mem_append_left _ m_q57
  have m_q57_a : q57_a ∈ ((((((((((((L ++ [q5]) ++ [q5_a]) ++ [q18]) ++ [q18_a]) ++ [q31]) ++ [q31_a]) ++ [q44]) ++ [q44_a]) ++ [q57]) ++ [q57_a]) ++ [q70]) ++ [q70_a]) := List.mem_append_left _ m_q57_a
  have m_q70 : q70 ∈ ((((((((((((L ++ [q5]) ++ [q5_a]) ++ [q18]) ++ [q18_a]) ++ [q31]) ++ [q31_a]) ++ [q44]) ++ [q44_a]) ++ [q57]) ++ [q57_a]) ++ [q70]) ++ [q70_a]) := List.mem_append_left _ m_q70
  have inc : ∀ x ∈ L, x ∈ ((((((((((((L ++ [q5]) ++ [q5_a]) ++ [q18]) ++ [q18_a]) ++ [q31]) ++ [q31_a]) ++ [q44]) ++ [q44_a]) ++ [q57]) ++ [q57_a]) ++ [q70]) ++ [q70_a]) := fun x hx => List.mem_append_left _ (inc x hx)
  have m_q70_a : q70_a ∈ ((((((((((((L ++ [q5]) ++ [q5_a]) ++ [q18]) ++ [q18_a]) ++ [q31]) ++ [q31_a]) ++ [q44]) ++ [q44_a]) ++ [q57]) ++ [q57_a]) ++ [q70]) ++ [q70_a]) := List.mem_append_right _ (by simp)
  refine gx_putF C hD_17 (i := 5) (ty := (.object RX4)) tyX3_ok nmX3 m_h e_h rfl in_X3_init_3 (by decide) fl_X3_init_32 rfl hin rfl (by decide +kernel) rfl rfl (Nat.le_of_ble_eq_true rfl) rfl dX3_init_79 ?_
  refine gx_gen (fun f_18 hf_18 => ?_)
  have e_q5 := (show f_18 q5 = f_17 q5 by rw [hf_18, va_up_of _ (Ne.symm n_h_q5)]).trans e_q5
  have e_q5_a := (show f_18 q5_a = f_17 q5_a by rw [hf_18, va_up_of _ (Ne.symm n_h_q5_a)]).trans e_q5_a
  have e_q18 := (show f_18 q18 = f_17 q18 by rw [hf_18, va_up_of _ (Ne.symm n_h_q18)]).trans e_q18
  have e_q18_a := (show f_18 q18_a = f_17 q18_a by rw [hf_18, va_up_of _ (Ne.symm n_h_q18_a)]).trans e_q18_a
  have e_q31 := (show f_18 q31 = f_17 q31 by rw [hf_18, va_up_of _ (Ne.symm n_h_q31)]).trans e_q31
  have e_q31_a := (show f_18 q31_a = f_17 q31_a by rw [hf_18, va_up_of _ (Ne.symm n_h_q31_a)]).trans e_q31_a
  have e_q44 := (show f_18 q44 = f_17 q44 by rw [hf_18, va_up_of _ (Ne.symm n_h_q44)]).trans e_q44
  have e_q44_a := (show f_18 q44_a = f_17 q44_a by rw [hf_18, va_up_of _ (Ne.symm n_h_q44_a)]).trans e_q44_a
  have e_q57 := (show f_18 q57 = f_17 q57 by rw [hf_18, va_up_of _ (Ne.symm n_h_q57)]).trans e_q57
  have e_q57_a := (show f_18 q57_a = f_17 q57_a by rw [hf_18, va_up_of _ (Ne.symm n_h_q57_a)]).trans e_q57_a
  have e_q70 := (show f_18 q70 = f_17 q70 by rw [hf_18, va_up_of _ (Ne.symm n_h_q70)]).trans e_q70
  have e_q70_a := (show f_18 q70_a = f_17 q70_a by rw [hf_18, va_up_of _ (Ne.symm n_h_q70_a)]).trans e_q70_a
  have fr : ∀ x ∈ L, x ≠ h → f_18 x = f x := fun x hx hne => (show f_18 x = f_17 x by rw [hf_18, va_up_of _ hne]).trans (fr x hx hne)
  have e_h : f_18 h = .inr (3, [.ref q5, .ref q18, .ref q31, .ref q44, .ref q57, .ref q70, .null, .null, .int 0]) := by rw [hf_18, va_up_at] <;> rfl
  refine gx_aload_n (q := 0) C dX3_init_82 rfl ?_
  refine gx_new C hD_17 hA (ci := 4) (fs := [.null]) tyX4_ok rfl in_X3_init_4 wd_X3_init_cl9 wd_X3_init_inRX4 wd_X3_init_iiRX4 (fun j hj => by rcases (show j = 0 by omega) with rfl; rfl) (Nat.le_of_ble_eq_true rfl) (Nat.le_of_ble_eq_true rfl) dX3_init_83 (fun q83 hD_q83 => ?_)
  refine gx_gen (fun f_19 hf_19 => ?_)
  have n_h_q83 := gD_ne hD_q83 m_h (List.mem_singleton.mpr rfl)
  have n_q5_q83 := gD_ne hD_q83 m_q5 (List.mem_singleton.mpr rfl)
  have n_q5_a_q83 := gD_ne hD_q83 m_q5_a (List.mem_singleton.mpr rfl)
  have n_q18_q83 := gD_ne hD_q83 m_q18 (List.mem_singleton.mpr rfl)
  have n_q18_a_q83 := gD_ne hD_q83 m_q18_a (List.mem_singleton.mpr rfl)
  have n_q31_q83 := gD_ne hD_q83 m_q31 (List.mem_singleton.mpr rfl)
  have n_q31_a_q83 := gD_ne hD_q83 m_q31_a (List.mem_singleton.mpr rfl)
  have n_q44_q83 := gD_ne hD_q83 m_q44 (List.mem_singleton.mpr rfl)
  have n_q44_a_q83 := gD_ne hD_q83 m_q44_a (List.mem_singleton.mpr rfl)
  have n_q57_q83 := gD_ne hD_q83 m_q57 (List.mem_singleton.mpr rfl)
  have n_q57_a_q83 := gD_ne hD_q83 m_q57_a (List.mem_singleton.mpr rfl)
  have n_q70_q83 := gD_ne hD_q83 m_q70 (List.mem_singleton.mpr rfl)
  have n_q70_a_q83 := gD_ne hD_q83 m_q70_a (List.mem_singleton.mpr rfl)
  have nL_q83 : ∀ x ∈ L, x ≠ q83 := fun x hx => gD_ne hD_q83 (inc x hx) (List.mem_singleton.mpr rfl)
  have e_h := (show f_19 h = f_18 h by rw [hf_19, va_up_of _ n_h_q83]).trans e_h
  have m_h := List.mem_append_left [q83] m_h
  have e_q5 := (show f_19 q5 = f_18 q5 by rw [hf_19, va_up_of _ n_q5_q83]).trans e_q5
  have m_q5 := List.mem_append_left [q83] m_q5
  have e_q5_a := (show f_19 q5_a = f_18 q5_a by rw [hf_19, va_up_of _ n_q5_a_q83]).trans e_q5_a
  have m_q5_a := List.mem_append_left [q83] m_q5_a
  have e_q18 := (show f_19 q18 = f_18 q18 by rw [hf_19, va_up_of _ n_q18_q83]).trans e_q18
  have m_q18 := List.mem_append_left [q83] m_q18
  have e_q18_a := (show f_19 q18_a = f_18 q18_a by rw [hf_19, va_up_of _ n_q18_a_q83]).trans e_q18_a
  have m_q18_a := List.mem_append_left [q83] m_q18_a
  have e_q31 := (show f_19 q31 = f_18 q31 by rw [hf_19, va_up_of _ n_q31_q83]).trans e_q31
  have m_q31 := List.mem_append_left [q83] m_q31
  have e_q31_a := (show f_19 q31_a = f_18 q31_a by rw [hf_19, va_up_of _ n_q31_a_q83]).trans e_q31_a
  have m_q31_a := List.mem_append_left [q83] m_q31_a
  have e_q44 := (show f_19 q44 = f_18 q44 by rw [hf_19, va_up_of _ n_q44_q83]).trans e_q44
  have m_q44 := List.mem_append_left [q83] m_q44
  have e_q44_a := (show f_19 q44_a = f_18 q44_a by rw [hf_19, va_up_of _ n_q44_a_q83]).trans e_q44_a
  have m_q44_a := List.mem_append_left [q83] m_q44_a
  have e_q57 := (show f_19 q57 = f_18 q57 by rw [hf_19, va_up_of _ n_q57_q83]).trans e_q57
  have m_q57 := List.mem_append_left [q83] m_q57
  have e_q57_a := (show f_19 q57_a = f_18 q57_a by rw [hf_19, va_up_of _ n_q57_a_q83]).trans e_q57_a
  have m_q57_a := List.mem_append_left [q83] m_q57_a
  have e_q70 := (show f_19 q70 = f_18 q70 by rw [hf_19, va_up_of _ n_q70_q83]).trans e_q70
  have m_q70 := List.mem_append_left [q83] m_q70
  have e_q70_a := (show f_19 q70_a = f_18 q70_a by rw [hf_19, va_up_of _ n_q70_a_q83]).trans e_q70_a
  have m_q70_a := List.mem_append_left [q83] m_q70_a
  have fr : ∀ x ∈ L, x ≠ h → f_19 x = f x := fun x hx hne => (show f_19 x = f_18 x by rw [hf_19, va_up_of _ (nL_q83 x hx)]).trans (fr x hx hne)
  have inc : ∀ x ∈ L, x ∈ (((((((((((((L ++ [q5]) ++ [q5_a]) ++ [q18]) ++ [q18_a]) ++ [q31]) ++ [q31_a]) ++ [q44]) ++ [q44_a]) ++ [q57]) ++ [q57_a]) ++ [q70]) ++ [q70_a]) ++ [q83]) := fun x hx => List.mem_append_left _ (inc x hx)
  have m_q83 : q83 ∈ (((((((((((((L ++ [q5]) ++ [q5_a]) ++ [q18]) ++ [q18_a]) ++ [q31]) ++ [q31_a]) ++ [q44]) ++ [q44_a]) ++ [q57]) ++ [q57_a]) ++ [q70]) ++ [q70_a]) ++ [q83]) := List.mem_append_right _ (List.mem_singleton.mpr rfl)
  have e_q83 : f_19 q83 = .inr (4, [.null]) := by rw [hf_19, va_up_at]
  refine gx_dup C rfl dX3_init_86 ?_
  refine gx_bipush (v := 20) C dX3_init_87 (by decide) ?_
  refine gx_callI C hAO hD_q83 hA (k_X4_init l hD_q83.1 m_q83 e_q83 (n := 20) (Nat.le_of_ble_eq_true rfl)) (cwI 1 C.2.2.2.2.1 gX3_init_X4_init rfl rfl rfl (C.2.2.2.2.1 _ wd_X3_init_iniRX4) (C.2.2.2.2.1 _ wd_X3_init_ml11) (C.2.2.2.2.1 _ wd_X3_init_im_X4_init) rfl kdN_X4_init ⟨Nat.le_of_ble_eq_true rfl, Nat.le_of_ble_eq_true rfl⟩) rfl rfl (Nat.le_of_ble_eq_true rfl) ⟨(Nat.le_of_ble_eq_true rfl), (Nat.le_of_ble_eq_true rfl)⟩ dX3_init_89 (fun v_20 N_20 f_20 hp_20 hD_20 => ?_)
  obtain ⟨rfl, q83_a, rfl, e_q83_n, e_q83_a, fr_n⟩ := hp_20
  refine gx_nil ?_
  have n_h_q83_a := gD_ne hD_20 m_h (show q83_a ∈ [q83_a] by simp)
  have n_q5_q83_a := gD_ne hD_20 m_q5 (show q83_a ∈ [q83_a] by simp)
  have n_q5_a_q83_a := gD_ne hD_20 m_q5_a (show q83_a ∈ [q83_a] by simp)
  have n_q18_q83_a := gD_ne hD_20 m_q18 (show q83_a ∈ [q83_a] by simp)
  have n_q18_a_q83_a := gD_ne hD_20 m_q18_a (show q83_a ∈ [q83_a] by simp)
  have n_q31_q83_a := gD_ne hD_20 m_q31 (show q83_a ∈ [q83_a] by simp)
  have n_q31_a_q83_a := gD_ne hD_20 m_q31_a (show q83_a ∈ [q83_a] by simp)
  have n_q44_q83_a := gD_ne hD_20 m_q44 (show q83_a ∈ [q83_a] by simp)
  have n_q44_a_q83_a := gD_ne hD_20 m_q44_a (show q83_a ∈ [q83_a] by simp)
  have n_q57_q83_a := gD_ne hD_20 m_q57 (show q83_a ∈ [q83_a] by simp)
  have n_q57_a_q83_a := gD_ne hD_20 m_q57_a (show q83_a ∈ [q83_a] by simp)
  have n_q70_q83_a := gD_ne hD_20 m_q70 (show q83_a ∈ [q83_a] by simp)
  have n_q70_a_q83_a := gD_ne hD_20 m_q70_a (show q83_a ∈ [q83_a] by simp)
  have n_q83_q83_a := gD_ne hD_20 m_q83 (show q83_a ∈ [q83_a] by simp)
  have nL_q83_a : ∀ x ∈ L, x ≠ q83_a := fun x hx => gD_ne hD_20 (inc x hx) (show q83_a ∈ [q83_a] by simp)
  have e_h := (fr_n h m_h n_h_q83).trans e_h
  have e_q5 := (fr_n q5 m_q5 n_q5_q83).trans e_q5
  have e_q5_a := (fr_n q5_a m_q5_a n_q5_a_q83).trans e_q5_a
  have e_q18 := (fr_n q18 m_q18 n_q18_q83).trans e_q18
  have e_q18_a := (fr_n q18_a m_q18_a n_q18_a_q83).trans e_q18_a
  have e_q31 := (fr_n q31 m_q31 n_q31_q83).trans e_q31
  have e_q31_a := (fr_n q31_a m_q31_a n_q31_a_q83).trans e_q31_a
  have e_q44 := (fr_n q44 m_q44 n_q44_q83).trans e_q44
  have e_q44_a := (fr_n q44_a m_q44_a n_q44_a_q83).trans e_q44_a
  have e_q57 := (fr_n q57 m_q57 n_q57_q83).trans e_q57
  have e_q57_a := (fr_n q57_a m_q57_a n_q57_a_q83).trans e_q57_a
  have e_q70 := (fr_n q70 m_q70 n_q70_q83).trans e_q70
  have e_q70_a := (fr_n q70_a m_q70_a n_q70_a_q83).trans e_q70_a
  have e_q83 := e_q83_n
  have fr : ∀ x ∈ L, x ≠ h → f_20 x = f x := fun x hx hne => (fr_n x (inc x hx) (nL_q83 x hx)).trans (fr x hx hne)
  have m_h : h ∈ ((((((((((((((L ++ [q5]) ++ [q5_a]) ++ [q18]) ++ [q18_a]) ++ [q31]) ++ [q31_a]) ++ [q44]) ++ [q44_a]) ++ [q57]) ++ [q57_a]) ++ [q70]) ++ [q70_a]) ++ [q83]) ++ [q83_a]) := List.mem_append_left _ m_h
  have m_q5 : q5 ∈ ((((((((((((((L ++ [q5]) ++ [q5_a]) ++ [q18]) ++ [q18_a]) ++ [q31]) ++ [q31_a]) ++ [q44]) ++ [q44_a]) ++ [q57]) ++ [q57_a]) ++ [q70]) ++ [q70_a]) ++ [q83]) ++ [q83_a]) := List.mem_append_left _ m_q5
  have m_q5_a : q5_a ∈ ((((((((((((((L ++ [q5]) ++ [q5_a]) ++ [q18]) ++ [q18_a]) ++ [q31]) ++ [q31_a]) ++ [q44]) ++ [q44_a]) ++ [q57]) ++ [q57_a]) ++ [q70]) ++ [q70_a]) ++ [q83]) ++ [q83_a]) := List.mem_append_left _ m_q5_a
  have m_q18 : q18 ∈ ((((((((((((((L ++ [q5]) ++ [q5_a]) ++ [q18]) ++ [q18_a]) ++ [q31]) ++ [q31_a]) ++ [q44]) ++ [q44_a]) ++ [q57]) ++ [q57_a]) ++ [q70]) ++ [q70_a]) ++ [q83]) ++ [q83_a]) := List.mem_append_left _ m_q18
  have m_q18_a : q18_a ∈ ((((((((((((((L ++ [q5]) ++ [q5_a]) ++ [q18]) ++ [q18_a]) ++ [q31]) ++ [q31_a]) ++ [q44]) ++ [q44_a]) ++ [q57]) ++ [q57_a]) ++ [q70]) ++ [q70_a]) ++ [q83]) ++ [q83_a]) := List.mem_append_left _ m_q18_a
  have m_q31 : q31 ∈ ((((((((((((((L ++ [q5]) ++ [q5_a]) ++ [q18]) ++ [q18_a]) ++ [q31]) ++ [q31_a]) ++ [q44]) ++ [q44_a]) ++ [q57]) ++ [q57_a]) ++ [q70]) ++ [q70_a]) ++ [q83]) ++ [q83_a]) := List.mem_append_left _ m_q31
  have m_q31_a : q31_a ∈ ((((((((((((((L ++ [q5]) ++ [q5_a]) ++ [q18]) ++ [q18_a]) ++ [q31]) ++ [q31_a]) ++ [q44]) ++ [q44_a]) ++ [q57]) ++ [q57_a]) ++ [q70]) ++ [q70_a]) ++ [q83]) ++ [q83_a]) := List.mem_append_left _ m_q31_a
  have m_q44 : q44 ∈ ((((((((((((((L ++ [q5]) ++ [q5_a]) ++ [q18]) ++ [q18_a]) ++ [q31]) ++ [q31_a]) ++ [q44]) ++ [q44_a]) ++ [q57]) ++ [q57_a]) ++ [q70]) ++ [q70_a]) ++ [q83]) ++ [q83_a]) := List.mem_append_left _ m_q44
  have m_q44_a : q44_a ∈ ((((((((((((((L ++ [q5]) ++ [q5_a]) ++ [q18]) ++ [q18_a]) ++ [q31]) ++ [q31_a]) ++ [q44]) ++ [q44_a]) ++ [q57]) ++ [q57_a]) ++ [q70]) ++ [q70_a]) ++ [q83]) ++ [q83_a]) := List.mem_append_left _ m_q44_a
  have m_q57 : q57 ∈ ((((((((((((((L ++ [q5]) ++ [q5_a]) ++ [q18]) ++ [q18_a]) ++ [q31]) ++ [q31_a]) ++ [q44]) ++ [q44_a]) ++ [q57]) ++ [q57_a]) ++ [q70]) ++ [q70_a]) ++ [q83]) ++ [q83_a]) := List.mem_append_left _ m_q57
  have m_q57_a : q57_a ∈ ((((((((((((((L ++ [q5]) ++ [q5_a]) ++ [q18]) ++ [q18_a]) ++ [q31]) ++ [q31_a]) ++ [q44]) ++ [q44_a]) ++ [q57]) ++ [q57_a]) ++ [q70]) ++ [q70_a]) ++ [q83]) ++ [q83_a]) := List.mem_append_left _ m_q57_a
  have m_q70 : q70 ∈ ((((((((((((((L ++ [q5]) ++ [q5_a]) ++ [q18]) ++ [q18_a]) ++ [q31]) ++ [q31_a]) ++ [q44]) ++ [q44_a]) ++ [q57]) ++ [q57_a]) ++ [q70]) ++ [q70_a]) ++ [q83]) ++ [q83_a]) := List.mem_append_left _ m_q70
  have m_q70_a : q70_a ∈ ((((((((((((((L ++ [q5]) ++ [q5_a]) ++ [q18]) ++ [q18_a]) ++ [q31]) ++ [q31_a]) ++ [q44]) ++ [q44_a]) ++ [q57]) ++ [q57_a]) ++ [q70]) ++ [q70_a]) ++ [q83]) ++ [q83_a]) := List.mem_append_left _ m_q70_a
  have m_q83 : q83 ∈ ((((((((((((((L ++ [q5]) ++ [q5_a]) ++ [q18]) ++ [q18_a]) ++ [q31]) ++ [q31_a]) ++ [q44]) ++ [q44_a]) ++ [q57]) ++ [q57_a]) ++ [q70]) ++ [q70_a]) ++ [q83]) ++ [q83_a]) := List.mem_append_left _ m_q83
  have inc : ∀ x ∈ L, x ∈ ((((((((((((((L ++ [q5]) ++ [q5_a]) ++ [q18]) ++ [q18_a]) ++ [q31]) ++ [q31_a]) ++ [q44]) ++ [q44_a]) ++ [q57]) ++ [q57_a]) ++ [q70]) ++ [q70_a]) ++ [q83]) ++ [q83_a]) := fun x hx => List.mem_append_left _ (inc x hx)
  have m_q83_a : q83_a ∈ ((((((((((((((L ++ [q5]) ++ [q5_a]) ++ [q18]) ++ [q18_a]) ++ [q31]) ++ [q31_a]) ++ [q44]) ++ [q44_a]) ++ [q57]) ++ [q57_a]) ++ [q70]) ++ [q70_a]) ++ [q83]) ++ [q83_a]) := List.mem_append_right _ (by simp)
  refine gx_putF C hD_20 (i := 6) (ty := (.object RX4)) tyX3_ok nmX3 m_h e_h rfl in_X3_init_3 (by decide) fl_X3_init_35 rfl hin rfl (by decide +kernel) rfl rfl (Nat.le_of_ble_eq_true rfl) rfl dX3_init_92 ?_
  refine gx_gen (fun f_21 hf_21 => ?_)
  have e_q5 := (show f_21 q5 = f_20 q5 by rw [hf_21, va_up_of _ (Ne.symm n_h_q5)]).trans e_q5
  have e_q5_a := (show f_21 q5_a = f_20 q5_a by rw [hf_21, va_up_of _ (Ne.symm n_h_q5_a)]).trans e_q5_a
  have e_q18 := (show f_21 q18 = f_20 q18 by rw [hf_21, va_up_of _ (Ne.symm n_h_q18)]).trans e_q18
  have e_q18_a := (show f_21 q18_a = f_20 q18_a by rw [hf_21, va_up_of _ (Ne.symm n_h_q18_a)]).trans e_q18_a
  have e_q31 := (show f_21 q31 = f_20 q31 by rw [hf_21, va_up_of _ (Ne.symm n_h_q31)]).trans e_q31
  have e_q31_a := (show f_21 q31_a = f_20 q31_a by rw [hf_21, va_up_of _ (Ne.symm n_h_q31_a)]).trans e_q31_a
  have e_q44 := (show f_21 q44 = f_20 q44 by rw [hf_21, va_up_of _ (Ne.symm n_h_q44)]).trans e_q44
  have e_q44_a := (show f_21 q44_a = f_20 q44_a by rw [hf_21, va_up_of _ (Ne.symm n_h_q44_a)]).trans e_q44_a
  have e_q57 := (show f_21 q57 = f_20 q57 by rw [hf_21, va_up_of _ (Ne.symm n_h_q57)]).trans e_q57
  have e_q57_a := (show f_21 q57_a = f_20 q57_a by rw [hf_21, va_up_of _ (Ne.symm n_h_q57_a)]).trans e_q57_a
  have e_q70 := (show f_21 q70 = f_20 q70 by rw [hf_21, va_up_of _ (Ne.symm n_h_q70)]).trans e_q70
  have e_q70_a := (show f_21 q70_a = f_20 q70_a by rw [hf_21, va_up_of _ (Ne.symm n_h_q70_a)]).trans e_q70_a
  have e_q83 := (show f_21 q83 = f_20 q83 by rw [hf_21, va_up_of _ (Ne.symm n_h_q83)]).trans e_q83
  have e_q83_a := (show f_21 q83_a = f_20 q83_a by rw [hf_21, va_up_of _ (Ne.symm n_h_q83_a)]).trans e_q83_a
  have fr : ∀ x ∈ L, x ≠ h → f_21 x = f x := fun x hx hne => (show f_21 x = f_20 x by rw [hf_21, va_up_of _ hne]).trans (fr x hx hne)
  have e_h : f_21 h = .inr (3, [.ref q5, .ref q18, .ref q31, .ref q44, .ref q57, .ref q70, .ref q83, .null, .int 0]) := by rw [hf_21, va_up_at] <;> rfl
  refine gx_aload_n (q := 0) C dX3_init_95 rfl ?_
  refine gx_new C hD_20 hA (ci := 4) (fs := [.null]) tyX4_ok rfl in_X3_init_4 wd_X3_init_cl9 wd_X3_init_inRX4 wd_X3_init_iiRX4 (fun j hj => by rcases (show j = 0 by omega) with rfl; rfl) (Nat.le_of_ble_eq_true rfl) (Nat.le_of_ble_eq_true rfl) dX3_init_96 (fun q96 hD_q96 => ?_)
  refine gx_gen (fun f_22 hf_22 => ?_)
  have n_h_q96 := gD_ne hD_q96 m_h (List.mem_singleton.mpr rfl)
  have n_q5_q96 := gD_ne hD_q96 m_q5 (List.mem_singleton.mpr rfl)
  have n_q5_a_q96 := gD_ne hD_q96 m_q5_a (List.mem_singleton.mpr rfl)
  have n_q18_q96 := gD_ne hD_q96 m_q18 (List.mem_singleton.mpr rfl)
  have n_q18_a_q96 := gD_ne hD_q96 m_q18_a (List.mem_singleton.mpr rfl)
  have n_q31_q96 := gD_ne hD_q96 m_q31 (List.mem_singleton.mpr rfl)
  have n_q31_a_q96 := gD_ne hD_q96 m_q31_a (List.mem_singleton.mpr rfl)
  have n_q44_q96 := gD_ne hD_q96 m_q44 (List.mem_singleton.mpr rfl)
  have n_q44_a_q96 := gD_ne hD_q96 m_q44_a (List.mem_singleton.mpr rfl)
  have n_q57_q96 := gD_ne hD_q96 m_q57 (List.mem_singleton.mpr rfl)
  have n_q57_a_q96 := gD_ne hD_q96 m_q57_a (List.mem_singleton.mpr rfl)
  have n_q70_q96 := gD_ne hD_q96 m_q70 (List.mem_singleton.mpr rfl)
  have n_q70_a_q96 := gD_ne hD_q96 m_q70_a (List.mem_singleton.mpr rfl)
  have n_q83_q96 := gD_ne hD_q96 m_q83 (List.mem_singleton.mpr rfl)
  have n_q83_a_q96 := gD_ne hD_q96 m_q83_a (List.mem_singleton.mpr rfl)
  have nL_q96 : ∀ x ∈ L, x ≠ q96 := fun x hx => gD_ne hD_q96 (inc x hx) (List.mem_singleton.mpr rfl)
  have e_h := (show f_22 h = f_21 h by rw [hf_22, va_up_of _ n_h_q96]).trans e_h
  have m_h := List.mem_append_left [q96] m_h
  have e_q5 := (show f_22 q5 = f_21 q5 by rw [hf_22, va_up_of _ n_q5_q96]).trans e_q5
  have m_q5 := List.mem_append_left [q96] m_q5
  have e_q5_a := (show f_22 q5_a = f_21 q5_a by rw [hf_22, va_up_of _ n_q5_a_q96]).trans e_q5_a
  have m_q5_a := List.mem_append_left [q96] m_q5_a
  have e_q18 := (show f_22 q18 = f_21 q18 by rw [hf_22, va_up_of _ n_q18_q96]).trans e_q18
  have m_q18 := List.mem_append_left [q96] m_q18
  have e_q18_a := (show f_22 q18_a = f_21 q18_a by rw [hf_22, va_up_of _ n_q18_a_q96]).trans e_q18_a
  have m_q18_a := List.mem_append_left [q96] m_q18_a
  have e_q31 := (show f_22 q31 = f_21 q31 by rw [hf_22, va_up_of _ n_q31_q96]).trans e_q31
  have m_q31 := List.mem_append_left [q96] m_q31
  have e_q31_a := (show f_22 q31_a = f_21 q31_a by rw [hf_22, va_up_of _ n_q31_a_q96]).trans e_q31_a
  have m_q31_a := List.mem_append_left [q96] m_q31_a
  have e_q44 := (show f_22 q44 = f_21 q44 by rw [hf_22, va_up_of _ n_q44_q96]).trans e_q44
  have m_q44 := List.mem_append_left [q96] m_q44
  have e_q44_a := (show f_22 q44_a = f_21 q44_a by rw [hf_22, va_up_of _ n_q44_a_q96]).trans e_q44_a
  have m_q44_a := List.mem_append_left [q96] m_q44_a
  have e_q57 := (show f_22 q57 = f_21 q57 by rw [hf_22, va_up_of _ n_q57_q96]).trans e_q57
  have m_q57 := List.mem_append_left [q96] m_q57
  have e_q57_a := (show f_22 q57_a = f_21 q57_a by rw [hf_22, va_up_of _ n_q57_a_q96]).trans e_q57_a
  have m_q57_a := List.mem_append_left [q96] m_q57_a
  have e_q70 := (show f_22 q70 = f_21 q70 by rw [hf_22, va_up_of _ n_q70_q96]).trans e_q70
  have m_q70 := List.mem_append_left [q96] m_q70
  have e_q70_a := (show f_22 q70_a = f_21 q70_a by rw [hf_22, va_up_of _ n_q70_a_q96]).trans e_q70_a
  have m_q70_a := List.mem_append_left [q96] m_q70_a
  have e_q83 := (show f_22 q83 = f_21 q83 by rw [hf_22, va_up_of _ n_q83_q96]).trans e_q83
  have m_q83 := List.mem_append_left [q96] m_q83
  have e_q83_a := (show f_22 q83_a = f_21 q83_a by rw [hf_22, va_up_of _ n_q83_a_q96]).trans e_q83_a
  have m_q83_a := List.mem_append_left [q96] m_q83_a
  have fr : ∀ x ∈ L, x ≠ h → f_22 x = f x := fun x hx hne => (show f_22 x = f_21 x by rw [hf_22, va_up_of _ (nL_q96 x hx)]).trans (fr x hx hne)
  have inc : ∀ x ∈ L, x ∈ (((((((((((((((L ++ [q5]) ++ [q5_a]) ++ [q18]) ++ [q18_a]) ++ [q31]) ++ [q31_a]) ++ [q44]) ++ [q44_a]) ++ [q57]) ++ [q57_a]) ++ [q70]) ++ [q70_a]) ++ [q83]) ++ [q83_a]) ++ [q96]) := fun x hx => List.mem_append_left _ (inc x hx)
  have m_q96 : q96 ∈ (((((((((((((((L ++ [q5]) ++ [q5_a]) ++ [q18]) ++ [q18_a]) ++ [q31]) ++ [q31_a]) ++ [q44]) ++ [q44_a]) ++ [q57]) ++ [q57_a]) ++ [q70]) ++ [q70_a]) ++ [q83]) ++ [q83_a]) ++ [q96]) := List.mem_append_right _ (List.mem_singleton.mpr rfl)
  have e_q96 : f_22 q96 = .inr (4, [.null]) := by rw [hf_22, va_up_at]
  refine gx_dup C rfl dX3_init_99 ?_
  refine gx_bipush (v := 20) C dX3_init_100 (by decide) ?_
  refine gx_callI C hAO hD_q96 hA (k_X4_init l hD_q96.1 m_q96 e_q96 (n := 20) (Nat.le_of_ble_eq_true rfl)) (cwI 1 C.2.2.2.2.1 gX3_init_X4_init rfl rfl rfl (C.2.2.2.2.1 _ wd_X3_init_iniRX4) (C.2.2.2.2.1 _ wd_X3_init_ml11) (C.2.2.2.2.1 _ wd_X3_init_im_X4_init) rfl kdN_X4_init ⟨Nat.le_of_ble_eq_true rfl, Nat.le_of_ble_eq_true rfl⟩) rfl rfl (Nat.le_of_ble_eq_true rfl) ⟨(Nat.le_of_ble_eq_true rfl), (Nat.le_of_ble_eq_true rfl)⟩ dX3_init_102 (fun v_23 N_23 f_23 hp_23 hD_23 => ?_)
  obtain ⟨rfl, q96_a, rfl, e_q96_n, e_q96_a, fr_n⟩ := hp_23
  refine gx_nil ?_
  have n_h_q96_a := gD_ne hD_23 m_h (show q96_a ∈ [q96_a] by simp)
  have n_q5_q96_a := gD_ne hD_23 m_q5 (show q96_a ∈ [q96_a] by simp)
  have n_q5_a_q96_a := gD_ne hD_23 m_q5_a (show q96_a ∈ [q96_a] by simp)
  have n_q18_q96_a := gD_ne hD_23 m_q18 (show q96_a ∈ [q96_a] by simp)
  have n_q18_a_q96_a := gD_ne hD_23 m_q18_a (show q96_a ∈ [q96_a] by simp)
  have n_q31_q96_a := gD_ne hD_23 m_q31 (show q96_a ∈ [q96_a] by simp)
  have n_q31_a_q96_a := gD_ne hD_23 m_q31_a (show q96_a ∈ [q96_a] by simp)
  have n_q44_q96_a := gD_ne hD_23 m_q44 (show q96_a ∈ [q96_a] by simp)
  have n_q44_a_q96_a := gD_ne hD_23 m_q44_a (show q96_a ∈ [q96_a] by simp)
  have n_q57_q96_a := gD_ne hD_23 m_q57 (show q96_a ∈ [q96_a] by simp)
  have n_q57_a_q96_a := gD_ne hD_23 m_q57_a (show q96_a ∈ [q96_a] by simp)
  have n_q70_q96_a := gD_ne hD_23 m_q70 (show q96_a ∈ [q96_a] by simp)
  have n_q70_a_q96_a := gD_ne hD_23 m_q70_a (show q96_a ∈ [q96_a] by simp)
  have n_q83_q96_a := gD_ne hD_23 m_q83 (show q96_a ∈ [q96_a] by simp)
  have n_q83_a_q96_a := gD_ne hD_23 m_q83_a (show q96_a ∈ [q96_a] by simp)
  have n_q96_q96_a := gD_ne hD_23 m_q96 (show q96_a ∈ [q96_a] by simp)
  have nL_q96_a : ∀ x ∈ L, x ≠ q96_a := fun x hx => gD_ne hD_23 (inc x hx) (show q96_a ∈ [q96_a] by simp)
  have e_h := (fr_n h m_h n_h_q96).trans e_h
  have e_q5 := (fr_n q5 m_q5 n_q5_q96).trans e_q5
  have e_q5_a := (fr_n q5_a m_q5_a n_q5_a_q96).trans e_q5_a
  have e_q18 := (fr_n q18 m_q18 n_q18_q96).trans e_q18
  have e_q18_a := (fr_n q18_a m_q18_a n_q18_a_q96).trans e_q18_a
  have e_q31 := (fr_n q31 m_q31 n_q31_q96).trans e_q31
  have e_q31_a := (fr_n q31_a m_q31_a n_q31_a_q96).trans e_q31_a
  have e_q44 := (fr_n q44 m_q44 n_q44_q96).trans e_q44
  have e_q44_a := (fr_n q44_a m_q44_a n_q44_a_q96).trans e_q44_a
  have e_q57 := (fr_n q57 m_q57 n_q57_q96).trans e_q57
  have e_q57_a := (fr_n q57_a m_q57_a n_q57_a_q96).trans e_q57_a
  have e_q70 := (fr_n q70 m_q70 n_q70_q96).trans e_q70
  have e_q70_a := (fr_n q70_a m_q70_a n_q70_a_q96).trans e_q70_a
  have e_q83 := (fr_n q83 m_q83 n_q83_q96).trans e_q83
  have e_q83_a := (fr_n q83_a m_q83_a n_q83_a_q96).trans e_q83_a
  have e_q96 := e_q96_n
  have fr : ∀ x ∈ L, x ≠ h → f_23 x = f x := fun x hx hne => (fr_n x (inc x hx) (nL_q96 x hx)).trans (fr x hx hne)
  have m_h : h ∈ ((((((((((((((((L ++ [q5]) ++ [q5_a]) ++ [q18]) ++ [q18_a]) ++ [q31]) ++ [q31_a]) ++ [q44]) ++ [q44_a]) ++ [q57]) ++ [q57_a]) ++ [q70]) ++ [q70_a]) ++ [q83]) ++ [q83_a]) ++ [q96]) ++ [q96_a]) := List.mem_append_left _ m_h
  have m_q5 : q5 ∈ ((((((((((((((((L ++ [q5]) ++ [q5_a]) ++ [q18]) ++ [q18_a]) ++ [q31]) ++ [q31_a]) ++ [q44]) ++ [q44_a]) ++ [q57]) ++ [q57_a]) ++ [q70]) ++ [q70_a]) ++ [q83]) ++ [q83_a]) ++ [q96]) ++ [q96_a]) := List.mem_append_left _ m_q5
  have m_q5_a : q5_a ∈ ((((((((((((((((L ++ [q5]) ++ [q5_a]) ++ [q18]) ++ [q18_a]) ++ [q31]) ++ [q31_a]) ++ [q44]) ++ [q44_a]) ++ [q57]) ++ [q57_a]) ++ [q70]) ++ [q70_a]) ++ [q83]) ++ [q83_a]) ++ [q96]) ++ [q96_a]) := List.mem_append_left _ m_q5_a
  have m_q18 : q18 ∈ ((((((((((((((((L ++ [q5]) ++ [q5_a]) ++ [q18]) ++ [q18_a]) ++ [q31]) ++ [q31_a]) ++ [q44]) ++ [q44_a]) ++ [q57]) ++ [q57_a]) ++ [q70]) ++ [q70_a]) ++ [q83]) ++ [q83_a]) ++ [q96]) ++ [q96_a]) := List.mem_append_left _ m_q18
  have m_q18_a : q18_a ∈ ((((((((((((((((L ++ [q5]) ++ [q5_a]) ++ [q18]) ++ [q18_a]) ++ [q31]) ++ [q31_a]) ++ [q44]) ++ [q44_a]) ++ [q57]) ++ [q57_a]) ++ [q70]) ++ [q70_a]) ++ [q83]) ++ [q83_a]) ++ [q96]) ++ [q96_a]) := List.mem_append_left _ m_q18_a
  have m_q31 : q31 ∈ ((((((((((((((((L ++ [q5]) ++ [q5_a]) ++ [q18]) ++ [q18_a]) ++ [q31]) ++ [q31_a]) ++ [q44]) ++ [q44_a]) ++ [q57]) ++ [q57_a]) ++ [q70]) ++ [q70_a]) ++ [q83]) ++ [q83_a]) ++ [q96]) ++ [q96_a]) := List.mem_append_left _ m_q31
  have m_q31_a : q31_a ∈ ((((((((((((((((L ++ [q5]) ++ [q5_a]) ++ [q18]) ++ [q18_a]) ++ [q31]) ++ [q31_a]) ++ [q44]) ++ [q44_a]) ++ [q57]) ++ [q57_a]) ++ [q70]) ++ [q70_a]) ++ [q83]) ++ [q83_a]) ++ [q96]) ++ [q96_a]) := List.mem_append_left _ m_q31_a
  have m_q44 : q44 ∈ ((((((((((((((((L ++ [q5]) ++ [q5_a]) ++ [q18]) ++ [q18_a]) ++ [q31]) ++ [q31_a]) ++ [q44]) ++ [q44_a]) ++ [q57]) ++ [q57_a]) ++ [q70]) ++ [q70_a]) ++ [q83]) ++ [q83_a]) ++ [q96]) ++ [q96_a]) := List.mem_append_left _ m_q44
  have m_q44_a : q44_a ∈ ((((((((((((((((L ++ [q5]) ++ [q5_a]) ++ [q18]) ++ [q18_a]) ++ [q31]) ++ [q31_a]) ++ [q44]) ++ [q44_a]) ++ [q57]) ++ [q57_a]) ++ [q70]) ++ [q70_a]) ++ [q83]) ++ [q83_a]) ++ [q96]) ++ [q96_a]) := List.mem_append_left _ m_q44_a
  have m_q57 : q57 ∈ ((((((((((((((((L ++ [q5]) ++ [q5_a]) ++ [q18]) ++ [q18_a]) ++ [q31]) ++ [q31_a]) ++ [q44]) ++ [q44_a]) ++ [q57]) ++ [q57_a]) ++ [q70]) ++ [q70_a]) ++ [q83]) ++ [q83_a]) ++ [q96]) ++ [q96_a]) := List.mem_append_left _ m_q57
  have m_q57_a : q57_a ∈ ((((((((((((((((L ++ [q5]) ++ [q5_a]) ++ [q18]) ++ [q18_a]) ++ [q31]) ++ [q31_a]) ++ [q44]) ++ [q44_a]) ++ [q57]) ++ [q57_a]) ++ [q70]) ++ [q70_a]) ++ [q83]) ++ [q83_a]) ++ [q96]) ++ [q96_a]) := List.mem_append_left _ m_q57_a
  have m_q70 : q70 ∈ ((((((((((((((((L ++ [q5]) ++ [q5_a]) ++ [q18]) ++ [q18_a]) ++ [q31]) ++ [q31_a]) ++ [q44]) ++ [q44_a]) ++ [q57]) ++ [q57_a]) ++ [q70]) ++ [q70_a]) ++ [q83]) ++ [q83_a]) ++ [q96]) ++ [q96_a]) := List.mem_append_left _ m_q70
  have m_q70_a : q70_a ∈ ((((((((((((((((L ++ [q5]) ++ [q5_a]) ++ [q18]) ++ [q18_a]) ++ [q31]) ++ [q31_a]) ++ [q44]) ++ [q44_a]) ++ [q57]) ++ [q57_a]) ++ [q70]) ++ [q70_a]) ++ [q83]) ++ [q83_a]) ++ [q96]) ++ [q96_a]) := List.mem_append_left _ m_q70_a
  have m_q83 : q83 ∈ ((((((((((((((((L ++ [q5]) ++ [q5_a]) ++ [q18]) ++ [q18_a]) ++ [q31]) ++ [q31_a]) ++ [q44]) ++ [q44_a]) ++ [q57]) ++ [q57_a]) ++ [q70]) ++ [q70_a]) ++ [q83]) ++ [q83_a]) ++ [q96]) ++ [q96_a]) := List.mem_append_left _ m_q83
  have m_q83_a : q83_a ∈ ((((((((((((((((L ++ [q5]) ++ [q5_a]) ++ [q18]) ++ [q18_a]) ++ [q31]) ++ [q31_a]) ++ [q44]) ++ [q44_a]) ++ [q57]) ++ [q57_a]) ++ [q70]) ++ [q70_a]) ++ [q83]) ++ [q83_a]) ++ [q96]) ++ [q96_a]) := List.mem_append_left _ m_q83_a
  have m_q96 : q96 ∈ ((((((((((((((((L ++ [q5]) ++ [q5_a]) ++ [q18]) ++ [q18_a]) ++ [q31]) ++ [q31_a]) ++ [q44]) ++ [q44_a]) ++ [q57]) ++ [q57_a]) ++ [q70]) ++ [q70_a]) ++ [q83]) ++ [q83_a]) ++ [q96]) ++ [q96_a]) := List.mem_append_left _ m_q96
  have inc : ∀ x ∈ L, x ∈ ((((((((((((((((L ++ [q5]) ++ [q5_a]) ++ [q18]) ++ [q18_a]) ++ [q31]) ++ [q31_a]) ++ [q44]) ++ [q44_a]) ++ [q57]) ++ [q57_a]) ++ [q70]) ++ [q70_a]) ++ [q83]) ++ [q83_a]) ++ [q96]) ++ [q96_a]) := fun x hx => List.mem_append_left _ (inc x hx)
  have m_q96_a : q96_a ∈ ((((((((((((((((L ++ [q5]) ++ [q5_a]) ++ [q18]) ++ [q18_a]) ++ [q31]) ++ [q31_a]) ++ [q44]) ++ [q44_a]) ++ [q57]) ++ [q57_a]) ++ [q70]) ++ [q70_a]) ++ [q83]) ++ [q83_a]) ++ [q96]) ++ [q96_a]) := List.mem_append_right _ (by simp)
  refine gx_putF C hD_23 (i := 7) (ty := (.object RX4)) tyX3_ok nmX3 m_h e_h rfl in_X3_init_3 (by decide) fl_X3_init_38 rfl hin rfl (by decide +kernel) rfl rfl (Nat.le_of_ble_eq_true rfl) rfl dX3_init_105 ?_
  refine gx_gen (fun f_24 hf_24 => ?_)
  have e_q5 := (show f_24 q5 = f_23 q5 by rw [hf_24, va_up_of _ (Ne.symm n_h_q5)]).trans e_q5
  have e_q5_a := (show f_24 q5_a = f_23 q5_a by rw [hf_24, va_up_of _ (Ne.symm n_h_q5_a)]).trans e_q5_a
  have e_q18 := (show f_24 q18 = f_23 q18 by rw [hf_24, va_up_of _ (Ne.symm n_h_q18)]).trans e_q18
  have e_q18_a := (show f_24 q18_a = f_23 q18_a by rw [hf_24, va_up_of _ (Ne.symm n_h_q18_a)]).trans e_q18_a
  have e_q31 := (show f_24 q31 = f_23 q31 by rw [hf_24, va_up_of _ (Ne.symm n_h_q31)]).trans e_q31
  have e_q31_a := (show f_24 q31_a = f_23 q31_a by rw [hf_24, va_up_of _ (Ne.symm n_h_q31_a)]).trans e_q31_a
  have e_q44 := (show f_24 q44 = f_23 q44 by rw [hf_24, va_up_of _ (Ne.symm n_h_q44)]).trans e_q44
  have e_q44_a := (show f_24 q44_a = f_23 q44_a by rw [hf_24, va_up_of _ (Ne.symm n_h_q44_a)]).trans e_q44_a
  have e_q57 := (show f_24 q57 = f_23 q57 by rw [hf_24, va_up_of _ (Ne.symm n_h_q57)]).trans e_q57
  have e_q57_a := (show f_24 q57_a = f_23 q57_a by rw [hf_24, va_up_of _ (Ne.symm n_h_q57_a)]).trans e_q57_a
  have e_q70 := (show f_24 q70 = f_23 q70 by rw [hf_24, va_up_of _ (Ne.symm n_h_q70)]).trans e_q70
  have e_q70_a := (show f_24 q70_a = f_23 q70_a by rw [hf_24, va_up_of _ (Ne.symm n_h_q70_a)]).trans e_q70_a
  have e_q83 := (show f_24 q83 = f_23 q83 by rw [hf_24, va_up_of _ (Ne.symm n_h_q83)]).trans e_q83
  have e_q83_a := (show f_24 q83_a = f_23 q83_a by rw [hf_24, va_up_of _ (Ne.symm n_h_q83_a)]).trans e_q83_a
  have e_q96 := (show f_24 q96 = f_23 q96 by rw [hf_24, va_up_of _ (Ne.symm n_h_q96)]).trans e_q96
  have e_q96_a := (show f_24 q96_a = f_23 q96_a by rw [hf_24, va_up_of _ (Ne.symm n_h_q96_a)]).trans e_q96_a
  have fr : ∀ x ∈ L, x ≠ h → f_24 x = f x := fun x hx hne => (show f_24 x = f_23 x by rw [hf_24, va_up_of _ hne]).trans (fr x hx hne)
  have e_h : f_24 h = .inr (3, [.ref q5, .ref q18, .ref q31, .ref q44, .ref q57, .ref q70, .ref q83, .ref q96, .int 0]) := by rw [hf_24, va_up_at] <;> rfl
  refine gx_vretA C hr (N := [q5, q5_a, q18, q18_a, q31, q31_a, q44, q44_a, q57, q57_a, q70, q70_a, q83, q83_a, q96, q96_a]) (by simp) hD_23 dX3_init_108 ?_
  exact ⟨rfl, q5, q5_a, q18, q18_a, q31, q31_a, q44, q44_a, q57, q57_a, q70, q70_a, q83, q83_a, q96, q96_a, rfl, e_h, e_q5, e_q5_a, e_q18, e_q18_a, e_q31, e_q31_a, e_q44, e_q44_a, e_q57, e_q57_a, e_q70, e_q70_a, e_q83, e_q83_a, e_q96, e_q96_a, fr⟩
theorem kdN_X2_init : yX2_init.cls ≠ "java/lang/invoke/MethodHandle" ∧ yX2_init.cls ≠ "java/lang/invoke/VarHandle" ∧ (parseMethodDescriptor yX2_init.desc).map (fun d => d.parameters.length) = some 0 := by decide +kernel
theorem wd_X2_init_oi : Cond.methodLink RX2 3 objectInit ∈ wsX2_init := by decide +kernel
theorem wd_X2_init_oj : Cond.instanceMethod objectInit ∈ wsX2_init := by decide +kernel
theorem wd_X2_init_ok : Cond.code objectInit ⟨#[0xb1]⟩ 1 none ∈ wsX2_init := by decide +kernel
theorem wd_X2_init_arrint : Cond.arrayClass .int ∈ wsX2_init := by decide +kernel
theorem in_X2_init_2 : ∀ w ∈ u_ws RX2 TX2 7, w ∈ wsX2_init := by decide +kernel
theorem fl_X2_init_9 : Cond.fieldLink RX2 9 (TX2 0).1 (TX2 0).2.1 (TX2 0).2.2.1 ∈ wsX2_init := by decide +kernel
abbrev rmX2_init : Room := { frames := 1, cells := 1, slots := 80, locals := 12 }
set_option maxHeartbeats 4000000 in
set_option maxRecDepth 100000 in
theorem k_X2_init (l : Launch) {k : gK} {L : List Nat} {f : Nat → va_E} (hL : L.Nodup) {h : Nat} (hh : h ∈ L) (hf : f h = .inr (2, [.null, .int 0, .int 0, .int 0, .int 0, .int 0, .int 0])) : kA l k L f yX2_init wsX2_init rmX2_init [.ref h] 1 80 (fun v N f2 => v = none ∧ ∃ a, N = [a] ∧ f2 h = .inr (2, [.ref a, .int 0, .int 0, .int 0, .int 0, .int 0, .int 0]) ∧ f2 a = gIA k 80 (fun _ => 0) ∧ ∀ x ∈ L, x ≠ h → f2 x = f x) := by
  refine kA_of (cc := cX2_init) (maxL := 1) (ret := none) hL (by decide) rfl (Nat.le_of_ble_eq_true rfl) ?_
  intro p e s m args below meth c C hr hin hAO hD
  have hA : ∀ q, s.heap.size ≤ q → q ∈ L ∨ s.heap.size ≤ q := fun _ h => Or.inr h
  have m_h := hh
  have e_h := hf
  have inc : ∀ x ∈ L, x ∈ L := fun _ h => h
  have fr : ∀ x ∈ L, x ≠ h → f x = f x := fun _ _ _ => rfl
  refine gx_lv [(0, _)] [0] rfl ?_
  refine gx_aload_n (q := 0) C dX2_init_0 rfl ?_
  refine gx_objInit C wd_X2_init_oi wd_X2_init_oj wd_X2_init_ok (Nat.le_of_ble_eq_true rfl) (Nat.le_of_ble_eq_true rfl) dX2_init_1 ?_
  refine gx_aload_n (q := 0) C dX2_init_4 rfl ?_
  refine gx_bipush (v := 80) C dX2_init_5 (by decide) ?_
  refine gx_newI C hD hA (N := 80) wd_X2_init_arrint (by decide) rfl (Nat.le_of_ble_eq_true rfl) (Nat.le_of_ble_eq_true rfl) (Nat.le_of_ble_eq_true rfl) dX2_init_7 (fun q7 hD_q7 => ?_)
  refine gx_gen (fun f_1 hf_1 => ?_)
  have n_h_q7 := gD_ne hD_q7 m_h (List.mem_singleton.mpr rfl)
  have nL_q7 : ∀ x ∈ L, x ≠ q7 := fun x hx => gD_ne hD_q7 (inc x hx) (List.mem_singleton.mpr rfl)
  have e_h := (show f_1 h = f h by rw [hf_1, va_up_of _ n_h_q7]).trans e_h
  have m_h := List.mem_append_left [q7] m_h
  have fr : ∀ x ∈ L, x ≠ h → f_1 x = f x := fun x hx hne => (show f_1 x = f x by rw [hf_1, va_up_of _ (nL_q7 x hx)]).trans (fr x hx hne)
  have inc : ∀ x ∈ L, x ∈ (L ++ [q7]) := fun x hx => List.mem_append_left _ (inc x hx)
  have m_q7 : q7 ∈ (L ++ [q7]) := List.mem_append_right _ (List.mem_singleton.mpr rfl)
  have e_q7 : f_1 q7 = gIA k 80 (fun _ => 0) := by rw [hf_1, va_up_at]
  refine gx_putF C hD_q7 (i := 0) (ty := (.array .int)) tyX2_ok nmX2 m_h e_h rfl in_X2_init_2 (by decide) fl_X2_init_9 rfl hin rfl (by decide +kernel) rfl rfl (Nat.le_of_ble_eq_true rfl) rfl dX2_init_9 ?_
  refine gx_gen (fun f_2 hf_2 => ?_)
  have e_q7 := (show f_2 q7 = f_1 q7 by rw [hf_2, va_up_of _ (Ne.symm n_h_q7)]).trans e_q7
  have fr : ∀ x ∈ L, x ≠ h → f_2 x = f x := fun x hx hne => (show f_2 x = f_1 x by rw [hf_2, va_up_of _ hne]).trans (fr x hx hne)
  have e_h : f_2 h = .inr (2, [.ref q7, .int 0, .int 0, .int 0, .int 0, .int 0, .int 0]) := by rw [hf_2, va_up_at] <;> rfl
  refine gx_vretA C hr (N := [q7]) (by simp) hD_q7 dX2_init_12 ?_
  exact ⟨rfl, q7, rfl, e_h, e_q7, fr⟩
