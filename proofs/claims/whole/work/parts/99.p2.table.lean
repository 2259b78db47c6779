def yk_X3_init : MethodName := ⟨"BrideDoors$Table", "<init>", "(II)V"⟩
theorem dk_X3_init_0 : decode prog_5_method_1_code 0 = .ok (.aload_n 0, 1) := by decide +kernel
theorem dk_X3_init_1 : decode prog_5_method_1_code 1 = .ok (.invokespecial 1, 3) := by decide +kernel
theorem dk_X3_init_4 : decode prog_5_method_1_code 4 = .ok (.aload_n 0, 1) := by decide +kernel
theorem dk_X3_init_5 : decode prog_5_method_1_code 5 = .ok (.iconst 0, 1) := by decide +kernel
theorem dk_X3_init_6 : decode prog_5_method_1_code 6 = .ok (.putfield 7, 3) := by decide +kernel
theorem dk_X3_init_9 : decode prog_5_method_1_code 9 = .ok (.aload_n 0, 1) := by decide +kernel
theorem dk_X3_init_10 : decode prog_5_method_1_code 10 = .ok (.iload_n 1, 1) := by decide +kernel
theorem dk_X3_init_11 : decode prog_5_method_1_code 11 = .ok (.iload_n 2, 1) := by decide +kernel
theorem dk_X3_init_12 : decode prog_5_method_1_code 12 = .ok (.multianewarray 13 2, 4) := by decide +kernel
theorem dk_X3_init_16 : decode prog_5_method_1_code 16 = .ok (.putfield 15, 3) := by decide +kernel
theorem dk_X3_init_19 : decode prog_5_method_1_code 19 = .ok (.aload_n 0, 1) := by decide +kernel
theorem dk_X3_init_20 : decode prog_5_method_1_code 20 = .ok (.iload_n 1, 1) := by decide +kernel
theorem dk_X3_init_21 : decode prog_5_method_1_code 21 = .ok (.putfield 18, 3) := by decide +kernel
theorem dk_X3_init_24 : decode prog_5_method_1_code 24 = .ok (.aload_n 0, 1) := by decide +kernel
theorem dk_X3_init_25 : decode prog_5_method_1_code 25 = .ok (.iload_n 2, 1) := by decide +kernel
theorem dk_X3_init_26 : decode prog_5_method_1_code 26 = .ok (.putfield 21, 3) := by decide +kernel
theorem dk_X3_init_29 : decode prog_5_method_1_code 29 = .ok (.return_, 1) := by decide +kernel
theorem wk_100 : n_at 100 (.methodLink "BrideDoors$Table" 1 objectInit) = true := by decide +kernel
theorem wk_111 : n_at 111 (.fieldLink "BrideDoors$Table" 7 "BrideDoors$Table" "size" "I") = true := by decide +kernel
theorem wk_101 : n_at 101 (.classLink "BrideDoors$Table" 13 "[[I") = true := by decide +kernel
theorem wk_103 : n_at 103 (.fieldLink "BrideDoors$Table" 15 "BrideDoors$Table" "cells" "[[I") = true := by decide +kernel
theorem wk_107 : n_at 107 (.fieldLink "BrideDoors$Table" 18 "BrideDoors$Table" "columns" "I") = true := by decide +kernel
theorem wk_109 : n_at 109 (.fieldLink "BrideDoors$Table" 21 "BrideDoors$Table" "most" "I") = true := by decide +kernel

set_option maxHeartbeats 16000000 in
set_option maxRecDepth 100000 in
theorem k_X3_h (l : Launch) (D : va_G) (cI cS cA : ClassId) (h0 sz : Nat) : Met l yk_X3_init (.code yk_X3_init prog_5_method_1_code 3 none :: n_tg) ({ frames := 1, cells := 3, slots := 14, locals := 12 }) (va_Pc [.ref h0, .int 2, .int 6] (fun U => U.heap.size = sz ∧ va_P D n_cl [(h0, .inr (3, [.null, .int 0, .int 0, .int 0]))] U.heap ∧ va_K D n_cl (n_tys cI cS cA) U ∧ va_D (fun _ => True) [(h0, .inr (3, [.null, .int 0, .int 0, .int 0]))] ∧ va_AOA .int U)) (va_Qv (fun _ : Unit => True) (fun (_ : Unit) (t : State) => ∃ q0 : Nat, ∃ r : Nat → Nat, va_P D n_cl [(h0, .inr (3, [.ref q0, .int 2, .int 6, .int 0])), (q0, .inl (cA, 2, .inr (.inr (.inr (.inr (fun i => if i < 2 then some (r i) else none)))))), ((r 0), .inl (cI, 6, .inl (fun _ => 0))), ((r 1), .inl (cI, 6, .inl (fun _ => 0)))] t.heap ∧ va_K D n_cl (n_tys cI cS cA) t ∧ va_D (va_A [(h0, .inr (3, [.null, .int 0, .int 0, .int 0]))] sz) [(h0, .inr (3, [.ref q0, .int 2, .int 6, .int 0])), (q0, .inl (cA, 2, .inr (.inr (.inr (.inr (fun i => if i < 2 then some (r i) else none)))))), ((r 0), .inl (cI, 6, .inl (fun _ => 0))), ((r 1), .inl (cI, 6, .inl (fun _ => 0)))]) (va_A [(h0, .inr (3, [.null, .int 0, .int 0, .int 0]))] sz)) 3 14 (va_A [(h0, .inr (3, [.null, .int 0, .int 0, .int 0]))] sz) := by
  refine Met.ofW (cc := prog_5_method_1_code) (maxL := 3) (ret := none) (by decide) rfl ?_
  intro p e s m args below meth c s₁ B hml hv
  obtain ⟨rfl, hsz, hP, hK, hD0, hAOA⟩ := hv
  have hx := B.exec
  have hb := B.bytes
  have hr := B.returns
  have hts0 := atoms_spec (ws := .code yk_X3_init prog_5_method_1_code 3 none :: n_tg) B.pre
  have hts : ∀ w ∈ n_tg, w.before _ s = true := fun w hw => hts0 w (List.mem_cons_of_mem _ hw)
  have hown : s.vm.findClass "BrideDoors$Table" = some m.cls := findClass_of_methodNamed B.named
  have hlocks := B.notSynchronized
  have hin : meth.name = "<init>" := (name_of_methodNamed B.named B.method).1
  subst hsz
  have hD := hD0.self (sz := s.heap.size)
  generalize hAe : va_A [(h0, .inr (3, [.null, .int 0, .int 0, .int 0]))] s.heap.size = A at hD ⊢
  have hA : ∀ q : Nat, s.heap.size ≤ q → A q := fun q h => by rw [← hAe]; exact Or.inr h
  have hS : va_S A s.heap s.heap [] := va_S.rf
  have hP : va_P D n_cl [(h0, .inr (3, [.null, .int 0, .int 0, .int 0]))] s.heap := hP
  have hl := lv_entry ([.ref h0, .int 2, .int 6]) (n := 3) (Nat.le_of_ble_eq_true rfl)
  rw [lg_entry_eq]
  generalize (lg_sl ([.ref h0, .int 2, .int 6]) ++ List.replicate (3 - (lg_sl ([.ref h0, .int 2, .int 6])).length) Slot.unset).toArray = ls at hl ⊢
  have hl : lv_has ls 3 [(0, .ref h0), (1, .int 2), (2, .int 6)] := hl
  refine lv_aload_n hx hb dk_X3_init_0 rfl (lv_at hl 0 rfl) ?_
  refine W.objInit hx hb hown (hts _ (n_in wk_100)) (hts _ (n_in wk_93)) (hts _ (n_in wk_94)) rfl (by rw [hml]; exact hl.1) rfl dk_X3_init_1 (Nat.le_of_ble_eq_true rfl) (Nat.le_of_ble_eq_true rfl) ?_
  refine W.eq (g2 := F0 m 4 ls []) rfl ?_
  refine lv_aload_n hx hb dk_X3_init_4 rfl (lv_at hl 0 rfl) ?_
  refine lv_iconst (v := 0) hx hb dk_X3_init_5 (by decide) ?_
  refine va_put (D := D) (ci := 3) (v := .int 0) (ty := .int) (C := RX3) (T := TX3) (N := 4) hx hb hts j_X3 tyX3 tyX3_ok nmX3 hown hK hP hD hS 0 rfl rfl 3 (by decide) (hts _ (n_in wk_111)) (fun _ h9 => h9) rfl (by decide +kernel) rfl rfl (Nat.le_of_ble_eq_true rfl) dk_X3_init_6 (fun H locs hP hD hS => ?_)
  have hP : va_P D n_cl [(h0, .inr (3, [.null, .int 0, .int 0, .int 0]))] H := hP
  have hD : va_D A [(h0, .inr (3, [.null, .int 0, .int 0, .int 0]))] := hD
  refine lv_aload_n hx hb dk_X3_init_9 rfl (lv_at hl 0 rfl) ?_
  refine lv_iload_n hx hb dk_X3_init_10 rfl (lv_at hl 1 rfl) ?_
  refine lv_iload_n hx hb dk_X3_init_11 rfl (lv_at hl 2 rfl) ?_
  refine x_mna (N' := 2) (K' := 6) hx hb hown (hts _ (n_in wk_101)) hAOA (hts _ (n_in wk_124)) hK hP hD hS hA (by decide) (by decide) (by decide) (by decide) (Nat.le_of_ble_eq_true rfl) (Nat.le_of_ble_eq_true rfl) (Nat.le_of_ble_eq_true rfl) (Nat.le_of_ble_eq_true rfl) (Nat.le_of_ble_eq_true rfl) dk_X3_init_12 (fun q0 r H hP hD hS => ?_)
  have hP : va_P D n_cl [(h0, .inr (3, [.null, .int 0, .int 0, .int 0])), (q0, .inl (cA, 2, .inr (.inr (.inr (.inr (fun i => if i < 2 then some (r i) else none)))))), ((r 0), .inl (cI, 6, .inl (fun _ => 0))), ((r 1), .inl (cI, 6, .inl (fun _ => 0)))] H := hP
  have hD : va_D A [(h0, .inr (3, [.null, .int 0, .int 0, .int 0])), (q0, .inl (cA, 2, .inr (.inr (.inr (.inr (fun i => if i < 2 then some (r i) else none)))))), ((r 0), .inl (cI, 6, .inl (fun _ => 0))), ((r 1), .inl (cI, 6, .inl (fun _ => 0)))] := hD
  refine W.widen (k := 3) (n := 14) (Nat.le_of_ble_eq_true rfl) (Nat.le_of_ble_eq_true rfl) ?_
  refine va_putF (D := D) (ci := 3) (v := .ref q0) (ty := (.array (.array .int))) (C := RX3) (T := TX3) (N := 4) hx hb hts j_X3 tyX3 tyX3_ok nmX3 hown hK hP hD hS 0 rfl rfl 0 (by decide) (hts _ (n_in wk_103)) (fun _ h9 => h9) rfl hin rfl (by decide +kernel) rfl rfl (Nat.le_of_ble_eq_true rfl) dk_X3_init_16 (fun H locs hP hD hS => ?_)
  have hP : va_P D n_cl [(h0, .inr (3, [.ref q0, .int 0, .int 0, .int 0])), (q0, .inl (cA, 2, .inr (.inr (.inr (.inr (fun i => if i < 2 then some (r i) else none)))))), ((r 0), .inl (cI, 6, .inl (fun _ => 0))), ((r 1), .inl (cI, 6, .inl (fun _ => 0)))] H := hP
  have hD : va_D A [(h0, .inr (3, [.ref q0, .int 0, .int 0, .int 0])), (q0, .inl (cA, 2, .inr (.inr (.inr (.inr (fun i => if i < 2 then some (r i) else none)))))), ((r 0), .inl (cI, 6, .inl (fun _ => 0))), ((r 1), .inl (cI, 6, .inl (fun _ => 0)))] := hD
  refine lv_aload_n hx hb dk_X3_init_19 rfl (lv_at hl 0 rfl) ?_
  refine lv_iload_n hx hb dk_X3_init_20 rfl (lv_at hl 1 rfl) ?_
  refine va_putF (D := D) (ci := 3) (v := .int 2) (ty := .int) (C := RX3) (T := TX3) (N := 4) hx hb hts j_X3 tyX3 tyX3_ok nmX3 hown hK hP hD hS 0 rfl rfl 1 (by decide) (hts _ (n_in wk_107)) (fun _ h9 => h9) rfl hin rfl (by decide +kernel) rfl rfl (Nat.le_of_ble_eq_true rfl) dk_X3_init_21 (fun H locs hP hD hS => ?_)
  have hP : va_P D n_cl [(h0, .inr (3, [.ref q0, .int 2, .int 0, .int 0])), (q0, .inl (cA, 2, .inr (.inr (.inr (.inr (fun i => if i < 2 then some (r i) else none)))))), ((r 0), .inl (cI, 6, .inl (fun _ => 0))), ((r 1), .inl (cI, 6, .inl (fun _ => 0)))] H := hP
  have hD : va_D A [(h0, .inr (3, [.ref q0, .int 2, .int 0, .int 0])), (q0, .inl (cA, 2, .inr (.inr (.inr (.inr (fun i => if i < 2 then some (r i) else none)))))), ((r 0), .inl (cI, 6, .inl (fun _ => 0))), ((r 1), .inl (cI, 6, .inl (fun _ => 0)))] := hD
  refine lv_aload_n hx hb dk_X3_init_24 rfl (lv_at hl 0 rfl) ?_
  refine lv_iload_n hx hb dk_X3_init_25 rfl (lv_at hl 2 rfl) ?_
  refine va_putF (D := D) (ci := 3) (v := .int 6) (ty := .int) (C := RX3) (T := TX3) (N := 4) hx hb hts j_X3 tyX3 tyX3_ok nmX3 hown hK hP hD hS 0 rfl rfl 2 (by decide) (hts _ (n_in wk_109)) (fun _ h9 => h9) rfl hin rfl (by decide +kernel) rfl rfl (Nat.le_of_ble_eq_true rfl) dk_X3_init_26 (fun H locs hP hD hS => ?_)
  have hP : va_P D n_cl [(h0, .inr (3, [.ref q0, .int 2, .int 6, .int 0])), (q0, .inl (cA, 2, .inr (.inr (.inr (.inr (fun i => if i < 2 then some (r i) else none)))))), ((r 0), .inl (cI, 6, .inl (fun _ => 0))), ((r 1), .inl (cI, 6, .inl (fun _ => 0)))] H := hP
  have hD : va_D A [(h0, .inr (3, [.ref q0, .int 2, .int 6, .int 0])), (q0, .inl (cA, 2, .inr (.inr (.inr (.inr (fun i => if i < 2 then some (r i) else none)))))), ((r 0), .inl (cI, 6, .inl (fun _ => 0))), ((r 1), .inl (cI, 6, .inl (fun _ => 0)))] := hD
  exact W.vret hx hb hr (fun t ht hW => ⟨⟨(), rfl, trivial, q0, r, by rw [ht]; exact hP, va_K.moved hW.alike hK, hD⟩, hS.F ht⟩) hS.2.2 dk_X3_init_29
set_option maxHeartbeats 16000000 in
set_option maxRecDepth 100000 in
theorem k_X3_b (l : Launch) (D : va_G) (cI cS cA : ClassId) (h0 sz : Nat) : Met l yk_X3_init (.code yk_X3_init prog_5_method_1_code 3 none :: n_tg) ({ frames := 1, cells := 5, slots := 36, locals := 12 }) (va_Pc [.ref h0, .int 4, .int 8] (fun U => U.heap.size = sz ∧ va_P D n_cl [(h0, .inr (3, [.null, .int 0, .int 0, .int 0]))] U.heap ∧ va_K D n_cl (n_tys cI cS cA) U ∧ va_D (fun _ => True) [(h0, .inr (3, [.null, .int 0, .int 0, .int 0]))] ∧ va_AOA .int U)) (va_Qv (fun _ : Unit => True) (fun (_ : Unit) (t : State) => ∃ q0 : Nat, ∃ r : Nat → Nat, va_P D n_cl [(h0, .inr (3, [.ref q0, .int 4, .int 8, .int 0])), (q0, .inl (cA, 4, .inr (.inr (.inr (.inr (fun i => if i < 4 then some (r i) else none)))))), ((r 0), .inl (cI, 8, .inl (fun _ => 0))), ((r 1), .inl (cI, 8, .inl (fun _ => 0))), ((r 2), .inl (cI, 8, .inl (fun _ => 0))), ((r 3), .inl (cI, 8, .inl (fun _ => 0)))] t.heap ∧ va_K D n_cl (n_tys cI cS cA) t ∧ va_D (va_A [(h0, .inr (3, [.null, .int 0, .int 0, .int 0]))] sz) [(h0, .inr (3, [.ref q0, .int 4, .int 8, .int 0])), (q0, .inl (cA, 4, .inr (.inr (.inr (.inr (fun i => if i < 4 then some (r i) else none)))))), ((r 0), .inl (cI, 8, .inl (fun _ => 0))), ((r 1), .inl (cI, 8, .inl (fun _ => 0))), ((r 2), .inl (cI, 8, .inl (fun _ => 0))), ((r 3), .inl (cI, 8, .inl (fun _ => 0)))]) (va_A [(h0, .inr (3, [.null, .int 0, .int 0, .int 0]))] sz)) 5 36 (va_A [(h0, .inr (3, [.null, .int 0, .int 0, .int 0]))] sz) := by
  refine Met.ofW (cc := prog_5_method_1_code) (maxL := 3) (ret := none) (by decide) rfl ?_
  intro p e s m args below meth c s₁ B hml hv
  obtain ⟨rfl, hsz, hP, hK, hD0, hAOA⟩ := hv
  have hx := B.exec
  have hb := B.bytes
  have hr := B.returns
  have hts0 := atoms_spec (ws := .code yk_X3_init prog_5_method_1_code 3 none :: n_tg) B.pre
  have hts : ∀ w ∈ n_tg, w.before _ s = true := fun w hw => hts0 w (List.mem_cons_of_mem _ hw)
  have hown : s.vm.findClass "BrideDoors$Table" = some m.cls := findClass_of_methodNamed B.named
  have hlocks := B.notSynchronized
  have hin : meth.name = "<init>" := (name_of_methodNamed B.named B.method).1
  subst hsz
  have hD := hD0.self (sz := s.heap.size)
  generalize hAe : va_A [(h0, .inr (3, [.null, .int 0, .int 0, .int 0]))] s.heap.size = A at hD ⊢
  have hA : ∀ q : Nat, s.heap.size ≤ q → A q := fun q h => by rw [← hAe]; exact Or.inr h
  have hS : va_S A s.heap s.heap [] := va_S.rf
  have hP : va_P D n_cl [(h0, .inr (3, [.null, .int 0, .int 0, .int 0]))] s.heap := hP
  have hl := lv_entry ([.ref h0, .int 4, .int 8]) (n := 3) (Nat.le_of_ble_eq_true rfl)
  rw [lg_entry_eq]
  generalize (lg_sl ([.ref h0, .int 4, .int 8]) ++ List.replicate (3 - (lg_sl ([.ref h0, .int 4, .int 8])).length) Slot.unset).toArray = ls at hl ⊢
  have hl : lv_has ls 3 [(0, .ref h0), (1, .int 4), (2, .int 8)] := hl
  refine lv_aload_n hx hb dk_X3_init_0 rfl (lv_at hl 0 rfl) ?_
  refine W.objInit hx hb hown (hts _ (n_in wk_100)) (hts _ (n_in wk_93)) (hts _ (n_in wk_94)) rfl (by rw [hml]; exact hl.1) rfl dk_X3_init_1 (Nat.le_of_ble_eq_true rfl) (Nat.le_of_ble_eq_true rfl) ?_
  refine W.eq (g2 := F0 m 4 ls []) rfl ?_
  refine lv_aload_n hx hb dk_X3_init_4 rfl (lv_at hl 0 rfl) ?_
  refine lv_iconst (v := 0) hx hb dk_X3_init_5 (by decide) ?_
  refine va_put (D := D) (ci := 3) (v := .int 0) (ty := .int) (C := RX3) (T := TX3) (N := 4) hx hb hts j_X3 tyX3 tyX3_ok nmX3 hown hK hP hD hS 0 rfl rfl 3 (by decide) (hts _ (n_in wk_111)) (fun _ h9 => h9) rfl (by decide +kernel) rfl rfl (Nat.le_of_ble_eq_true rfl) dk_X3_init_6 (fun H locs hP hD hS => ?_)
  have hP : va_P D n_cl [(h0, .inr (3, [.null, .int 0, .int 0, .int 0]))] H := hP
  have hD : va_D A [(h0, .inr (3, [.null, .int 0, .int 0, .int 0]))] := hD
  refine lv_aload_n hx hb dk_X3_init_9 rfl (lv_at hl 0 rfl) ?_
  refine lv_iload_n hx hb dk_X3_init_10 rfl (lv_at hl 1 rfl) ?_
  refine lv_iload_n hx hb dk_X3_init_11 rfl (lv_at hl 2 rfl) ?_
  refine x_mna (N' := 4) (K' := 8) hx hb hown (hts _ (n_in wk_101)) hAOA (hts _ (n_in wk_124)) hK hP hD hS hA (by decide) (by decide) (by decide) (by decide) (Nat.le_of_ble_eq_true rfl) (Nat.le_of_ble_eq_true rfl) (Nat.le_of_ble_eq_true rfl) (Nat.le_of_ble_eq_true rfl) (Nat.le_of_ble_eq_true rfl) dk_X3_init_12 (fun q0 r H hP hD hS => ?_)
  have hP : va_P D n_cl [(h0, .inr (3, [.null, .int 0, .int 0, .int 0])), (q0, .inl (cA, 4, .inr (.inr (.inr (.inr (fun i => if i < 4 then some (r i) else none)))))), ((r 0), .inl (cI, 8, .inl (fun _ => 0))), ((r 1), .inl (cI, 8, .inl (fun _ => 0))), ((r 2), .inl (cI, 8, .inl (fun _ => 0))), ((r 3), .inl (cI, 8, .inl (fun _ => 0)))] H := hP
  have hD : va_D A [(h0, .inr (3, [.null, .int 0, .int 0, .int 0])), (q0, .inl (cA, 4, .inr (.inr (.inr (.inr (fun i => if i < 4 then some (r i) else none)))))), ((r 0), .inl (cI, 8, .inl (fun _ => 0))), ((r 1), .inl (cI, 8, .inl (fun _ => 0))), ((r 2), .inl (cI, 8, .inl (fun _ => 0))), ((r 3), .inl (cI, 8, .inl (fun _ => 0)))] := hD
  refine W.widen (k := 5) (n := 36) (Nat.le_of_ble_eq_true rfl) (Nat.le_of_ble_eq_true rfl) ?_
  refine va_putF (D := D) (ci := 3) (v := .ref q0) (ty := (.array (.array .int))) (C := RX3) (T := TX3) (N := 4) hx hb hts j_X3 tyX3 tyX3_ok nmX3 hown hK hP hD hS 0 rfl rfl 0 (by decide) (hts _ (n_in wk_103)) (fun _ h9 => h9) rfl hin rfl (by decide +kernel) rfl rfl (Nat.le_of_ble_eq_true rfl) dk_X3_init_16 (fun H locs hP hD hS => ?_)
  have hP : va_P D n_cl [(h0, .inr (3, [.ref q0, .int 0, .int 0, .int 0])), (q0, .inl (cA, 4, .inr (.inr (.inr (.inr (fun i => if i < 4 then some (r i) else none)))))), ((r 0), .inl (cI, 8, .inl (fun _ => 0))), ((r 1), .inl (cI, 8, .inl (fun _ => 0))), ((r 2), .inl (cI, 8, .inl (fun _ => 0))), ((r 3), .inl (cI, 8, .inl (fun _ => 0)))] H := hP
  have hD : va_D A [(h0, .inr (3, [.ref q0, .int 0, .int 0, .int 0])), (q0, .inl (cA, 4, .inr (.inr (.inr (.inr (fun i => if i < 4 then some (r i) else none)))))), ((r 0), .inl (cI, 8, .inl (fun _ => 0))), ((r 1), .inl (cI, 8, .inl (fun _ => 0))), ((r 2), .inl (cI, 8, .inl (fun _ => 0))), ((r 3), .inl (cI, 8, .inl (fun _ => 0)))] := hD
  refine lv_aload_n hx hb dk_X3_init_19 rfl (lv_at hl 0 rfl) ?_
  refine lv_iload_n hx hb dk_X3_init_20 rfl (lv_at hl 1 rfl) ?_
  refine va_putF (D := D) (ci := 3) (v := .int 4) (ty := .int) (C := RX3) (T := TX3) (N := 4) hx hb hts j_X3 tyX3 tyX3_ok nmX3 hown hK hP hD hS 0 rfl rfl 1 (by decide) (hts _ (n_in wk_107)) (fun _ h9 => h9) rfl hin rfl (by decide +kernel) rfl rfl (Nat.le_of_ble_eq_true rfl) dk_X3_init_21 (fun H locs hP hD hS => ?_)
  have hP : va_P D n_cl [(h0, .inr (3, [.ref q0, .int 4, .int 0, .int 0])), (q0, .inl (cA, 4, .inr (.inr (.inr (.inr (fun i => if i < 4 then some (r i) else none)))))), ((r 0), .inl (cI, 8, .inl (fun _ => 0))), ((r 1), .inl (cI, 8, .inl (fun _ => 0))), ((r 2), .inl (cI, 8, .inl (fun _ => 0))), ((r 3), .inl (cI, 8, .inl (fun _ => 0)))] H := hP
  have hD : va_D A [(h0, .inr (3, [.ref q0, .int 4, .int 0, .int 0])), (q0, .inl (cA, 4, .inr (.inr (.inr (.inr (fun i => if i < 4 then some (r i) else none)))))), ((r 0), .inl (cI, 8, .inl (fun _ => 0))), ((r 1), .inl (cI, 8, .inl (fun _ => 0))), ((r 2), .inl (cI, 8, .inl (fun _ => 0))), ((r 3), .inl (cI, 8, .inl (fun _ => 0)))] := hD
  refine lv_aload_n hx hb dk_X3_init_24 rfl (lv_at hl 0 rfl) ?_
  refine lv_iload_n hx hb dk_X3_init_25 rfl (lv_at hl 2 rfl) ?_
  refine va_putF (D := D) (ci := 3) (v := .int 8) (ty := .int) (C := RX3) (T := TX3) (N := 4) hx hb hts j_X3 tyX3 tyX3_ok nmX3 hown hK hP hD hS 0 rfl rfl 2 (by decide) (hts _ (n_in wk_109)) (fun _ h9 => h9) rfl hin rfl (by decide +kernel) rfl rfl (Nat.le_of_ble_eq_true rfl) dk_X3_init_26 (fun H locs hP hD hS => ?_)
  have hP : va_P D n_cl [(h0, .inr (3, [.ref q0, .int 4, .int 8, .int 0])), (q0, .inl (cA, 4, .inr (.inr (.inr (.inr (fun i => if i < 4 then some (r i) else none)))))), ((r 0), .inl (cI, 8, .inl (fun _ => 0))), ((r 1), .inl (cI, 8, .inl (fun _ => 0))), ((r 2), .inl (cI, 8, .inl (fun _ => 0))), ((r 3), .inl (cI, 8, .inl (fun _ => 0)))] H := hP
  have hD : va_D A [(h0, .inr (3, [.ref q0, .int 4, .int 8, .int 0])), (q0, .inl (cA, 4, .inr (.inr (.inr (.inr (fun i => if i < 4 then some (r i) else none)))))), ((r 0), .inl (cI, 8, .inl (fun _ => 0))), ((r 1), .inl (cI, 8, .inl (fun _ => 0))), ((r 2), .inl (cI, 8, .inl (fun _ => 0))), ((r 3), .inl (cI, 8, .inl (fun _ => 0)))] := hD
  exact W.vret hx hb hr (fun t ht hW => ⟨⟨(), rfl, trivial, q0, r, by rw [ht]; exact hP, va_K.moved hW.alike hK, hD⟩, hS.F ht⟩) hS.2.2 dk_X3_init_29
set_option maxHeartbeats 16000000 in
set_option maxRecDepth 100000 in
theorem k_X3_e (l : Launch) (D : va_G) (cI cS cA : ClassId) (h0 sz : Nat) : Met l yk_X3_init (.code yk_X3_init prog_5_method_1_code 3 none :: n_tg) ({ frames := 1, cells := 4, slots := 27, locals := 12 }) (va_Pc [.ref h0, .int 3, .int 8] (fun U => U.heap.size = sz ∧ va_P D n_cl [(h0, .inr (3, [.null, .int 0, .int 0, .int 0]))] U.heap ∧ va_K D n_cl (n_tys cI cS cA) U ∧ va_D (fun _ => True) [(h0, .inr (3, [.null, .int 0, .int 0, .int 0]))] ∧ va_AOA .int U)) (va_Qv (fun _ : Unit => True) (fun (_ : Unit) (t : State) => ∃ q0 : Nat, ∃ r : Nat → Nat, va_P D n_cl [(h0, .inr (3, [.ref q0, .int 3, .int 8, .int 0])), (q0, .inl (cA, 3, .inr (.inr (.inr (.inr (fun i => if i < 3 then some (r i) else none)))))), ((r 0), .inl (cI, 8, .inl (fun _ => 0))), ((r 1), .inl (cI, 8, .inl (fun _ => 0))), ((r 2), .inl (cI, 8, .inl (fun _ => 0)))] t.heap ∧ va_K D n_cl (n_tys cI cS cA) t ∧ va_D (va_A [(h0, .inr (3, [.null, .int 0, .int 0, .int 0]))] sz) [(h0, .inr (3, [.ref q0, .int 3, .int 8, .int 0])), (q0, .inl (cA, 3, .inr (.inr (.inr (.inr (fun i => if i < 3 then some (r i) else none)))))), ((r 0), .inl (cI, 8, .inl (fun _ => 0))), ((r 1), .inl (cI, 8, .inl (fun _ => 0))), ((r 2), .inl (cI, 8, .inl (fun _ => 0)))]) (va_A [(h0, .inr (3, [.null, .int 0, .int 0, .int 0]))] sz)) 4 27 (va_A [(h0, .inr (3, [.null, .int 0, .int 0, .int 0]))] sz) := by
  refine Met.ofW (cc := prog_5_method_1_code) (maxL := 3) (ret := none) (by decide) rfl ?_
  intro p e s m args below meth c s₁ B hml hv
  obtain ⟨rfl, hsz, hP, hK, hD0, hAOA⟩ := hv
  have hx := B.exec
  have hb := B.bytes
  have hr := B.returns
  have hts0 := atoms_spec (ws := .code yk_X3_init prog_5_method_1_code 3 none :: n_tg) B.pre
  have hts : ∀ w ∈ n_tg, w.before _ s = true := fun w hw => hts0 w (List.mem_cons_of_mem _ hw)
  have hown : s.vm.findClass "BrideDoors$Table" = some m.cls := findClass_of_methodNamed B.named
  have hlocks := B.notSynchronized
  have hin : meth.name = "<init>" := (name_of_methodNamed B.named B.method).1
  subst hsz
  have hD := hD0.self (sz := s.heap.size)
  generalize hAe : va_A [(h0, .inr (3, [.null, .int 0, .int 0, .int 0]))] s.heap.size = A at hD ⊢
  have hA : ∀ q : Nat, s.heap.size ≤ q → A q := fun q h => by rw [← hAe]; exact Or.inr h
  have hS : va_S A s.heap s.heap [] := va_S.rf
  have hP : va_P D n_cl [(h0, .inr (3, [.null, .int 0, .int 0, .int 0]))] s.heap := hP
  have hl := lv_entry ([.ref h0, .int 3, .int 8]) (n := 3) (Nat.le_of_ble_eq_true rfl)
  rw [lg_entry_eq]
  generalize (lg_sl ([.ref h0, .int 3, .int 8]) ++ List.replicate (3 - (lg_sl ([.ref h0, .int 3, .int 8])).length) Slot.unset).toArray = ls at hl ⊢
  have hl : lv_has ls 3 [(0, .ref h0), (1, .int 3), (2, .int 8)] := hl
  refine lv_aload_n hx hb dk_X3_init_0 rfl (lv_at hl 0 rfl) ?_
  refine W.objInit hx hb hown (hts _ (n_in wk_100)) (hts _ (n_in wk_93)) (hts _ (n_in wk_94)) rfl (by rw [hml]; exact hl.1) rfl dk_X3_init_1 (Nat.le_of_ble_eq_true rfl) (Nat.le_of_ble_eq_true rfl) ?_
  refine W.eq (g2 := F0 m 4 ls []) rfl ?_
  refine lv_aload_n hx hb dk_X3_init_4 rfl (lv_at hl 0 rfl) ?_
  refine lv_iconst (v := 0) hx hb dk_X3_init_5 (by decide) ?_
  refine va_put (D := D) (ci := 3) (v := .int 0) (ty := .int) (C := RX3) (T := TX3) (N := 4) hx hb hts j_X3 tyX3 tyX3_ok nmX3 hown hK hP hD hS 0 rfl rfl 3 (by decide) (hts _ (n_in wk_111)) (fun _ h9 => h9) rfl (by decide +kernel) rfl rfl (Nat.le_of_ble_eq_true rfl) dk_X3_init_6 (fun H locs hP hD hS => ?_)
  have hP : va_P D n_cl [(h0, .inr (3, [.null, .int 0, .int 0, .int 0]))] H := hP
  have hD : va_D A [(h0, .inr (3, [.null, .int 0, .int 0, .int 0]))] := hD
  refine lv_aload_n hx hb dk_X3_init_9 rfl (lv_at hl 0 rfl) ?_
  refine lv_iload_n hx hb dk_X3_init_10 rfl (lv_at hl 1 rfl) ?_
  refine lv_iload_n hx hb dk_X3_init_11 rfl (lv_at hl 2 rfl) ?_
  refine x_mna (N' := 3) (K' := 8) hx hb hown (hts _ (n_in wk_101)) hAOA (hts _ (n_in wk_124)) hK hP hD hS hA (by decide) (by decide) (by decide) (by decide) (Nat.le_of_ble_eq_true rfl) (Nat.le_of_ble_eq_true rfl) (Nat.le_of_ble_eq_true rfl) (Nat.le_of_ble_eq_true rfl) (Nat.le_of_ble_eq_true rfl) dk_X3_init_12 (fun q0 r H hP hD hS => ?_)
  have hP : va_P D n_cl [(h0, .inr (3, [.null, .int 0, .int 0, .int 0])), (q0, .inl (cA, 3, .inr (.inr (.inr (.inr (fun i => if i < 3 then some (r i) else none)))))), ((r 0), .inl (cI, 8, .inl (fun _ => 0))), ((r 1), .inl (cI, 8, .inl (fun _ => 0))), ((r 2), .inl (cI, 8, .inl (fun _ => 0)))] H := hP
  have hD : va_D A [(h0, .inr (3, [.null, .int 0, .int 0, .int 0])), (q0, .inl (cA, 3, .inr (.inr (.inr (.inr (fun i => if i < 3 then some (r i) else none)))))), ((r 0), .inl (cI, 8, .inl (fun _ => 0))), ((r 1), .inl (cI, 8, .inl (fun _ => 0))), ((r 2), .inl (cI, 8, .inl (fun _ => 0)))] := hD
  refine W.widen (k := 4) (n := 27) (Nat.le_of_ble_eq_true rfl) (Nat.le_of_ble_eq_true rfl) ?_
  refine va_putF (D := D) (ci := 3) (v := .ref q0) (ty := (.array (.array .int))) (C := RX3) (T := TX3) (N := 4) hx hb hts j_X3 tyX3 tyX3_ok nmX3 hown hK hP hD hS 0 rfl rfl 0 (by decide) (hts _ (n_in wk_103)) (fun _ h9 => h9) rfl hin rfl (by decide +kernel) rfl rfl (Nat.le_of_ble_eq_true rfl) dk_X3_init_16 (fun H locs hP hD hS => ?_)
  have hP : va_P D n_cl [(h0, .inr (3, [.ref q0, .int 0, .int 0, .int 0])), (q0, .inl (cA, 3, .inr (.inr (.inr (.inr (fun i => if i < 3 then some (r i) else none)))))), ((r 0), .inl (cI, 8, .inl (fun _ => 0))), ((r 1), .inl (cI, 8, .inl (fun _ => 0))), ((r 2), .inl (cI, 8, .inl (fun _ => 0)))] H := hP
  have hD : va_D A [(h0, .inr (3, [.ref q0, .int 0, .int 0, .int 0])), (q0, .inl (cA, 3, .inr (.inr (.inr (.inr (fun i => if i < 3 then some (r i) else none)))))), ((r 0), .inl (cI, 8, .inl (fun _ => 0))), ((r 1), .inl (cI, 8, .inl (fun _ => 0))), ((r 2), .inl (cI, 8, .inl (fun _ => 0)))] := hD
  refine lv_aload_n hx hb dk_X3_init_19 rfl (lv_at hl 0 rfl) ?_
  refine lv_iload_n hx hb dk_X3_init_20 rfl (lv_at hl 1 rfl) ?_
  refine va_putF (D := D) (ci := 3) (v := .int 3) (ty := .int) (C := RX3) (T := TX3) (N := 4) hx hb hts j_X3 tyX3 tyX3_ok nmX3 hown hK hP hD hS 0 rfl rfl 1 (by decide) (hts _ (n_in wk_107)) (fun _ h9 => h9) rfl hin rfl (by decide +kernel) rfl rfl (Nat.le_of_ble_eq_true rfl) dk_X3_init_21 (fun H locs hP hD hS => ?_)
  have hP : va_P D n_cl [(h0, .inr (3, [.ref q0, .int 3, .int 0, .int 0])), (q0, .inl (cA, 3, .inr (.inr (.inr (.inr (fun i => if i < 3 then some (r i) else none)))))), ((r 0), .inl (cI, 8, .inl (fun _ => 0))), ((r 1), .inl (cI, 8, .inl (fun _ => 0))), ((r 2), .inl (cI, 8, .inl (fun _ => 0)))] H := hP
  have hD : va_D A [(h0, .inr (3, [.ref q0, .int 3, .int 0, .int 0])), (q0, .inl (cA, 3, .inr (.inr (.inr (.inr (fun i => if i < 3 then some (r i) else none)))))), ((r 0), .inl (cI, 8, .inl (fun _ => 0))), ((r 1), .inl (cI, 8, .inl (fun _ => 0))), ((r 2), .inl (cI, 8, .inl (fun _ => 0)))] := hD
  refine lv_aload_n hx hb dk_X3_init_24 rfl (lv_at hl 0 rfl) ?_
  refine lv_iload_n hx hb dk_X3_init_25 rfl (lv_at hl 2 rfl) ?_
  refine va_putF (D := D) (ci := 3) (v := .int 8) (ty := .int) (C := RX3) (T := TX3) (N := 4) hx hb hts j_X3 tyX3 tyX3_ok nmX3 hown hK hP hD hS 0 rfl rfl 2 (by decide) (hts _ (n_in wk_109)) (fun _ h9 => h9) rfl hin rfl (by decide +kernel) rfl rfl (Nat.le_of_ble_eq_true rfl) dk_X3_init_26 (fun H locs hP hD hS => ?_)
  have hP : va_P D n_cl [(h0, .inr (3, [.ref q0, .int 3, .int 8, .int 0])), (q0, .inl (cA, 3, .inr (.inr (.inr (.inr (fun i => if i < 3 then some (r i) else none)))))), ((r 0), .inl (cI, 8, .inl (fun _ => 0))), ((r 1), .inl (cI, 8, .inl (fun _ => 0))), ((r 2), .inl (cI, 8, .inl (fun _ => 0)))] H := hP
  have hD : va_D A [(h0, .inr (3, [.ref q0, .int 3, .int 8, .int 0])), (q0, .inl (cA, 3, .inr (.inr (.inr (.inr (fun i => if i < 3 then some (r i) else none)))))), ((r 0), .inl (cI, 8, .inl (fun _ => 0))), ((r 1), .inl (cI, 8, .inl (fun _ => 0))), ((r 2), .inl (cI, 8, .inl (fun _ => 0)))] := hD
  exact W.vret hx hb hr (fun t ht hW => ⟨⟨(), rfl, trivial, q0, r, by rw [ht]; exact hP, va_K.moved hW.alike hK, hD⟩, hS.F ht⟩) hS.2.2 dk_X3_init_29
