def yk_X2_init : MethodName := ⟨"BrideDoors$Sheet", "<init>", "()V"⟩
theorem dk_X2_init_0 : decode prog_4_method_1_code 0 = .ok (.aload_n 0, 1) := by decide +kernel
theorem dk_X2_init_1 : decode prog_4_method_1_code 1 = .ok (.invokespecial 3, 3) := by decide +kernel
theorem dk_X2_init_4 : decode prog_4_method_1_code 4 = .ok (.aload_n 0, 1) := by decide +kernel
theorem dk_X2_init_5 : decode prog_4_method_1_code 5 = .ok (.bipush 60, 2) := by decide +kernel
theorem dk_X2_init_7 : decode prog_4_method_1_code 7 = .ok (.newarray .int, 2) := by decide +kernel
theorem dk_X2_init_9 : decode prog_4_method_1_code 9 = .ok (.putfield 9, 3) := by decide +kernel
theorem dk_X2_init_12 : decode prog_4_method_1_code 12 = .ok (.aload_n 0, 1) := by decide +kernel
theorem dk_X2_init_13 : decode prog_4_method_1_code 13 = .ok (.iconst 1, 1) := by decide +kernel
theorem dk_X2_init_14 : decode prog_4_method_1_code 14 = .ok (.putfield 15, 3) := by decide +kernel
theorem dk_X2_init_17 : decode prog_4_method_1_code 17 = .ok (.aload_n 0, 1) := by decide +kernel
theorem dk_X2_init_18 : decode prog_4_method_1_code 18 = .ok (.iconst 0, 1) := by decide +kernel
theorem dk_X2_init_19 : decode prog_4_method_1_code 19 = .ok (.putfield 19, 3) := by decide +kernel
theorem dk_X2_init_22 : decode prog_4_method_1_code 22 = .ok (.aload_n 0, 1) := by decide +kernel
theorem dk_X2_init_23 : decode prog_4_method_1_code 23 = .ok (.iconst 0, 1) := by decide +kernel
theorem dk_X2_init_24 : decode prog_4_method_1_code 24 = .ok (.putfield 23, 3) := by decide +kernel
theorem dk_X2_init_27 : decode prog_4_method_1_code 27 = .ok (.return_, 1) := by decide +kernel
theorem wk_207 : n_at 207 (.methodLink "BrideDoors$Sheet" 3 objectInit) = true := by decide +kernel
theorem wk_93 : n_at 93 (.instanceMethod objectInit) = true := by decide +kernel
theorem wk_94 : n_at 94 (.code objectInit ⟨#[0xb1]⟩ 1 none) = true := by decide +kernel
theorem wk_124 : n_at 124 (.arrayClass .int) = true := by decide +kernel
theorem wk_208 : n_at 208 (.fieldLink "BrideDoors$Sheet" 9 "BrideDoors$Sheet" "items" "[I") = true := by decide +kernel
theorem wk_210 : n_at 210 (.fieldLink "BrideDoors$Sheet" 15 "BrideDoors$Sheet" "lost" "Z") = true := by decide +kernel
theorem wk_212 : n_at 212 (.fieldLink "BrideDoors$Sheet" 19 "BrideDoors$Sheet" "form" "I") = true := by decide +kernel
theorem wk_214 : n_at 214 (.fieldLink "BrideDoors$Sheet" 23 "BrideDoors$Sheet" "size" "I") = true := by decide +kernel

set_option maxHeartbeats 16000000 in
set_option maxRecDepth 100000 in
theorem k_X2 (l : Launch) (D : va_G) (cI cS cA : ClassId) (h0 sz : Nat) : Met l yk_X2_init (.code yk_X2_init prog_4_method_1_code 1 none :: n_tg) ({ frames := 1, cells := 1, slots := 60, locals := 12 }) (va_Pc [.ref h0] (fun U => U.heap.size = sz ∧ va_P D n_cl [(h0, .inr (2, [.null, .int 0, .int 0, .int 0]))] U.heap ∧ va_K D n_cl (n_tys cI cS cA) U ∧ va_D (fun _ => True) [(h0, .inr (2, [.null, .int 0, .int 0, .int 0]))])) (va_Qv (fun _ : Unit => True) (fun (_ : Unit) (t : State) => ∃ q0 : Nat, va_P D n_cl [(h0, .inr (2, [.ref q0, .int 1, .int 0, .int 0])), (q0, .inl (cI, 60, .inl (fun _ => 0)))] t.heap ∧ va_K D n_cl (n_tys cI cS cA) t ∧ va_D (va_A [(h0, .inr (2, [.null, .int 0, .int 0, .int 0]))] sz) [(h0, .inr (2, [.ref q0, .int 1, .int 0, .int 0])), (q0, .inl (cI, 60, .inl (fun _ => 0)))]) (va_A [(h0, .inr (2, [.null, .int 0, .int 0, .int 0]))] sz)) 1 60 (va_A [(h0, .inr (2, [.null, .int 0, .int 0, .int 0]))] sz) := by
  refine Met.ofW (cc := prog_4_method_1_code) (maxL := 1) (ret := none) (by decide) rfl ?_
  intro p e s m args below meth c s₁ B hml hv
  obtain ⟨rfl, hsz, hP, hK, hD0⟩ := hv
  have hx := B.exec
  have hb := B.bytes
  have hr := B.returns
  have hts0 := atoms_spec (ws := .code yk_X2_init prog_4_method_1_code 1 none :: n_tg) B.pre
  have hts : ∀ w ∈ n_tg, w.before _ s = true := fun w hw => hts0 w (List.mem_cons_of_mem _ hw)
  have hown : s.vm.findClass "BrideDoors$Sheet" = some m.cls := findClass_of_methodNamed B.named
  have hlocks := B.notSynchronized
  have hin : meth.name = "<init>" := (name_of_methodNamed B.named B.method).1
  subst hsz
  have hD := hD0.self (sz := s.heap.size)
  generalize hAe : va_A [(h0, .inr (2, [.null, .int 0, .int 0, .int 0]))] s.heap.size = A at hD ⊢
  have hA : ∀ q : Nat, s.heap.size ≤ q → A q := fun q h => by rw [← hAe]; exact Or.inr h
  have hS : va_S A s.heap s.heap [] := va_S.rf
  have hP : va_P D n_cl [(h0, .inr (2, [.null, .int 0, .int 0, .int 0]))] s.heap := hP
  have hl := lv_entry ([.ref h0]) (n := 1) (Nat.le_of_ble_eq_true rfl)
  rw [lg_entry_eq]
  generalize (lg_sl ([.ref h0]) ++ List.replicate (1 - (lg_sl ([.ref h0])).length) Slot.unset).toArray = ls at hl ⊢
  have hl : lv_has ls 1 [(0, .ref h0)] := hl
  refine lv_aload_n hx hb dk_X2_init_0 rfl (lv_at hl 0 rfl) ?_
  refine W.objInit hx hb hown (hts _ (n_in wk_207)) (hts _ (n_in wk_93)) (hts _ (n_in wk_94)) rfl (by rw [hml]; exact hl.1) rfl dk_X2_init_1 (Nat.le_of_ble_eq_true rfl) (Nat.le_of_ble_eq_true rfl) ?_
  refine W.eq (g2 := F0 m 4 ls []) rfl ?_
  refine lv_aload_n hx hb dk_X2_init_4 rfl (lv_at hl 0 rfl) ?_
  refine lv_bipush (v := 60) hx hb dk_X2_init_5 (by decide) ?_
  refine x_newi (N' := 60) hx hb (hts _ (n_in wk_124)) hK hP hD hS hA (by decide) (by decide) (Nat.le_of_ble_eq_true rfl) (Nat.le_of_ble_eq_true rfl) (Nat.le_of_ble_eq_true rfl) dk_X2_init_7 (fun q0 H hP hD hS => ?_)
  have hP : va_P D n_cl [(h0, .inr (2, [.null, .int 0, .int 0, .int 0])), (q0, .inl (cI, 60, .inl (fun _ => 0)))] H := hP
  have hD : va_D A [(h0, .inr (2, [.null, .int 0, .int 0, .int 0])), (q0, .inl (cI, 60, .inl (fun _ => 0)))] := hD
  refine W.widen (k := 1) (n := 60) (Nat.le_of_ble_eq_true rfl) (Nat.le_of_ble_eq_true rfl) ?_
  refine va_putF (D := D) (ci := 2) (v := .ref q0) (ty := (.array .int)) (C := RX2) (T := TX2) (N := 4) hx hb hts j_X2 tyX2 tyX2_ok nmX2 hown hK hP hD hS 0 rfl rfl 0 (by decide) (hts _ (n_in wk_208)) (fun _ h9 => h9) rfl hin rfl (by decide +kernel) rfl rfl (Nat.le_of_ble_eq_true rfl) dk_X2_init_9 (fun H locs hP hD hS => ?_)
  have hP : va_P D n_cl [(h0, .inr (2, [.ref q0, .int 0, .int 0, .int 0])), (q0, .inl (cI, 60, .inl (fun _ => 0)))] H := hP
  have hD : va_D A [(h0, .inr (2, [.ref q0, .int 0, .int 0, .int 0])), (q0, .inl (cI, 60, .inl (fun _ => 0)))] := hD
  refine lv_aload_n hx hb dk_X2_init_12 rfl (lv_at hl 0 rfl) ?_
  refine lv_iconst (v := 1) hx hb dk_X2_init_13 (by decide) ?_
  refine va_put (D := D) (ci := 2) (v := .int 1) (ty := .boolean) (C := RX2) (T := TX2) (N := 4) hx hb hts j_X2 tyX2 tyX2_ok nmX2 hown hK hP hD hS 0 rfl rfl 1 (by decide) (hts _ (n_in wk_210)) (fun _ h9 => h9) rfl (by decide +kernel) rfl rfl (Nat.le_of_ble_eq_true rfl) dk_X2_init_14 (fun H locs hP hD hS => ?_)
  have hP : va_P D n_cl [(h0, .inr (2, [.ref q0, .int 1, .int 0, .int 0])), (q0, .inl (cI, 60, .inl (fun _ => 0)))] H := hP
  have hD : va_D A [(h0, .inr (2, [.ref q0, .int 1, .int 0, .int 0])), (q0, .inl (cI, 60, .inl (fun _ => 0)))] := hD
  refine lv_aload_n hx hb dk_X2_init_17 rfl (lv_at hl 0 rfl) ?_
  refine lv_iconst (v := 0) hx hb dk_X2_init_18 (by decide) ?_
  refine va_put (D := D) (ci := 2) (v := .int 0) (ty := .int) (C := RX2) (T := TX2) (N := 4) hx hb hts j_X2 tyX2 tyX2_ok nmX2 hown hK hP hD hS 0 rfl rfl 2 (by decide) (hts _ (n_in wk_212)) (fun _ h9 => h9) rfl (by decide +kernel) rfl rfl (Nat.le_of_ble_eq_true rfl) dk_X2_init_19 (fun H locs hP hD hS => ?_)
  have hP : va_P D n_cl [(h0, .inr (2, [.ref q0, .int 1, .int 0, .int 0])), (q0, .inl (cI, 60, .inl (fun _ => 0)))] H := hP
  have hD : va_D A [(h0, .inr (2, [.ref q0, .int 1, .int 0, .int 0])), (q0, .inl (cI, 60, .inl (fun _ => 0)))] := hD
  refine lv_aload_n hx hb dk_X2_init_22 rfl (lv_at hl 0 rfl) ?_
  refine lv_iconst (v := 0) hx hb dk_X2_init_23 (by decide) ?_
  refine va_put (D := D) (ci := 2) (v := .int 0) (ty := .int) (C := RX2) (T := TX2) (N := 4) hx hb hts j_X2 tyX2 tyX2_ok nmX2 hown hK hP hD hS 0 rfl rfl 3 (by decide) (hts _ (n_in wk_214)) (fun _ h9 => h9) rfl (by decide +kernel) rfl rfl (Nat.le_of_ble_eq_true rfl) dk_X2_init_24 (fun H locs hP hD hS => ?_)
  have hP : va_P D n_cl [(h0, .inr (2, [.ref q0, .int 1, .int 0, .int 0])), (q0, .inl (cI, 60, .inl (fun _ => 0)))] H := hP
  have hD : va_D A [(h0, .inr (2, [.ref q0, .int 1, .int 0, .int 0])), (q0, .inl (cI, 60, .inl (fun _ => 0)))] := hD
  exact W.vret hx hb hr (fun t ht hW => ⟨⟨(), rfl, trivial, q0, by rw [ht]; exact hP, va_K.moved hW.alike hK, hD⟩, hS.F ht⟩) hS.2.2 dk_X2_init_27
