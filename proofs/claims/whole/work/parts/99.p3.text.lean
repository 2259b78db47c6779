def yk_X4_init : MethodName := ⟨"BrideDoors$Text", "<init>", "(ILBrideDoors$Table;)V"⟩
def yk_X1_init : MethodName := ⟨"BrideDoors$HouseText", "<init>", "(LBrideDoors$Table;)V"⟩
def yk_X0_init : MethodName := ⟨"BrideDoors$BrideText", "<init>", "(LBrideDoors$Table;)V"⟩
def yk_X5_init : MethodName := ⟨"BrideDoors$World", "<init>", "(LBrideDoors$Table;LBrideDoors$Table;LBrideDoors$Table;)V"⟩
theorem dk_X4_init_0 : decode prog_6_method_1_code 0 = .ok (.aload_n 0, 1) := by decide +kernel
theorem dk_X4_init_1 : decode prog_6_method_1_code 1 = .ok (.invokespecial 3, 3) := by decide +kernel
theorem dk_X4_init_4 : decode prog_6_method_1_code 4 = .ok (.aload_n 0, 1) := by decide +kernel
theorem dk_X4_init_5 : decode prog_6_method_1_code 5 = .ok (.iconst 0, 1) := by decide +kernel
theorem dk_X4_init_6 : decode prog_6_method_1_code 6 = .ok (.putfield 9, 3) := by decide +kernel
theorem dk_X4_init_9 : decode prog_6_method_1_code 9 = .ok (.aload_n 0, 1) := by decide +kernel
theorem dk_X4_init_10 : decode prog_6_method_1_code 10 = .ok (.iconst (-1), 1) := by decide +kernel
theorem dk_X4_init_11 : decode prog_6_method_1_code 11 = .ok (.putfield 15, 3) := by decide +kernel
theorem dk_X4_init_14 : decode prog_6_method_1_code 14 = .ok (.aload_n 0, 1) := by decide +kernel
theorem dk_X4_init_15 : decode prog_6_method_1_code 15 = .ok (.iload_n 1, 1) := by decide +kernel
theorem dk_X4_init_16 : decode prog_6_method_1_code 16 = .ok (.newarray .int, 2) := by decide +kernel
theorem dk_X4_init_18 : decode prog_6_method_1_code 18 = .ok (.putfield 18, 3) := by decide +kernel
theorem dk_X4_init_21 : decode prog_6_method_1_code 21 = .ok (.aload_n 0, 1) := by decide +kernel
theorem dk_X4_init_22 : decode prog_6_method_1_code 22 = .ok (.aload_n 2, 1) := by decide +kernel
theorem dk_X4_init_23 : decode prog_6_method_1_code 23 = .ok (.putfield 22, 3) := by decide +kernel
theorem dk_X4_init_26 : decode prog_6_method_1_code 26 = .ok (.return_, 1) := by decide +kernel
theorem dk_X1_init_0 : decode prog_3_method_1_code 0 = .ok (.aload_n 0, 1) := by decide +kernel
theorem dk_X1_init_1 : decode prog_3_method_1_code 1 = .ok (.bipush 17, 2) := by decide +kernel
theorem dk_X1_init_3 : decode prog_3_method_1_code 3 = .ok (.aload_n 1, 1) := by decide +kernel
theorem dk_X1_init_4 : decode prog_3_method_1_code 4 = .ok (.invokespecial 3, 3) := by decide +kernel
theorem wg_X4_1 : n_at 132 (.code yk_X4_init prog_6_method_1_code 3 none) = true := by decide +kernel
theorem dk_X1_init_7 : decode prog_3_method_1_code 7 = .ok (.return_, 1) := by decide +kernel
theorem dk_X0_init_0 : decode prog_2_method_1_code 0 = .ok (.aload_n 0, 1) := by decide +kernel
theorem dk_X0_init_1 : decode prog_2_method_1_code 1 = .ok (.bipush 39, 2) := by decide +kernel
theorem dk_X0_init_3 : decode prog_2_method_1_code 3 = .ok (.aload_n 1, 1) := by decide +kernel
theorem dk_X0_init_4 : decode prog_2_method_1_code 4 = .ok (.invokespecial 3, 3) := by decide +kernel
theorem wg_X4_0 : n_at 132 (.code yk_X4_init prog_6_method_1_code 3 none) = true := by decide +kernel
theorem dk_X0_init_7 : decode prog_2_method_1_code 7 = .ok (.return_, 1) := by decide +kernel
theorem dk_X5_init_0 : decode prog_7_method_1_code 0 = .ok (.aload_n 0, 1) := by decide +kernel
theorem dk_X5_init_1 : decode prog_7_method_1_code 1 = .ok (.invokespecial 3, 3) := by decide +kernel
theorem dk_X5_init_4 : decode prog_7_method_1_code 4 = .ok (.aload_n 0, 1) := by decide +kernel
theorem dk_X5_init_5 : decode prog_7_method_1_code 5 = .ok (.iconst 0, 1) := by decide +kernel
theorem dk_X5_init_6 : decode prog_7_method_1_code 6 = .ok (.putfield 9, 3) := by decide +kernel
theorem dk_X5_init_9 : decode prog_7_method_1_code 9 = .ok (.aload_n 0, 1) := by decide +kernel
theorem dk_X5_init_10 : decode prog_7_method_1_code 10 = .ok (.iconst 0, 1) := by decide +kernel
theorem dk_X5_init_11 : decode prog_7_method_1_code 11 = .ok (.putfield 15, 3) := by decide +kernel
theorem dk_X5_init_14 : decode prog_7_method_1_code 14 = .ok (.aload_n 0, 1) := by decide +kernel
theorem dk_X5_init_15 : decode prog_7_method_1_code 15 = .ok (.bipush 6, 2) := by decide +kernel
theorem dk_X5_init_17 : decode prog_7_method_1_code 17 = .ok (.newarray .int, 2) := by decide +kernel
theorem dk_X5_init_19 : decode prog_7_method_1_code 19 = .ok (.putfield 18, 3) := by decide +kernel
theorem dk_X5_init_22 : decode prog_7_method_1_code 22 = .ok (.aload_n 0, 1) := by decide +kernel
theorem dk_X5_init_23 : decode prog_7_method_1_code 23 = .ok (.bipush 8, 2) := by decide +kernel
theorem dk_X5_init_25 : decode prog_7_method_1_code 25 = .ok (.newarray .int, 2) := by decide +kernel
theorem dk_X5_init_27 : decode prog_7_method_1_code 27 = .ok (.putfield 22, 3) := by decide +kernel
theorem dk_X5_init_30 : decode prog_7_method_1_code 30 = .ok (.aload_n 0, 1) := by decide +kernel
theorem dk_X5_init_31 : decode prog_7_method_1_code 31 = .ok (.bipush 8, 2) := by decide +kernel
theorem dk_X5_init_33 : decode prog_7_method_1_code 33 = .ok (.newarray .int, 2) := by decide +kernel
theorem dk_X5_init_35 : decode prog_7_method_1_code 35 = .ok (.putfield 25, 3) := by decide +kernel
theorem dk_X5_init_38 : decode prog_7_method_1_code 38 = .ok (.aload_n 0, 1) := by decide +kernel
theorem dk_X5_init_39 : decode prog_7_method_1_code 39 = .ok (.bipush 8, 2) := by decide +kernel
theorem dk_X5_init_41 : decode prog_7_method_1_code 41 = .ok (.newarray .int, 2) := by decide +kernel
theorem dk_X5_init_43 : decode prog_7_method_1_code 43 = .ok (.putfield 28, 3) := by decide +kernel
theorem dk_X5_init_46 : decode prog_7_method_1_code 46 = .ok (.aload_n 0, 1) := by decide +kernel
theorem dk_X5_init_47 : decode prog_7_method_1_code 47 = .ok (.bipush 8, 2) := by decide +kernel
theorem dk_X5_init_49 : decode prog_7_method_1_code 49 = .ok (.newarray .int, 2) := by decide +kernel
theorem dk_X5_init_51 : decode prog_7_method_1_code 51 = .ok (.putfield 31, 3) := by decide +kernel
theorem dk_X5_init_54 : decode prog_7_method_1_code 54 = .ok (.aload_n 0, 1) := by decide +kernel
theorem dk_X5_init_55 : decode prog_7_method_1_code 55 = .ok (.aload_n 1, 1) := by decide +kernel
theorem dk_X5_init_56 : decode prog_7_method_1_code 56 = .ok (.putfield 34, 3) := by decide +kernel
theorem dk_X5_init_59 : decode prog_7_method_1_code 59 = .ok (.aload_n 0, 1) := by decide +kernel
theorem dk_X5_init_60 : decode prog_7_method_1_code 60 = .ok (.aload_n 2, 1) := by decide +kernel
theorem dk_X5_init_61 : decode prog_7_method_1_code 61 = .ok (.putfield 38, 3) := by decide +kernel
theorem dk_X5_init_64 : decode prog_7_method_1_code 64 = .ok (.aload_n 0, 1) := by decide +kernel
theorem dk_X5_init_65 : decode prog_7_method_1_code 65 = .ok (.aload_n 3, 1) := by decide +kernel
theorem dk_X5_init_66 : decode prog_7_method_1_code 66 = .ok (.putfield 41, 3) := by decide +kernel
theorem dk_X5_init_69 : decode prog_7_method_1_code 69 = .ok (.return_, 1) := by decide +kernel
theorem wk_133 : n_at 133 (.methodLink "BrideDoors$Text" 3 objectInit) = true := by decide +kernel
theorem wk_136 : n_at 136 (.fieldLink "BrideDoors$Text" 9 "BrideDoors$Text" "length" "I") = true := by decide +kernel
theorem wk_138 : n_at 138 (.fieldLink "BrideDoors$Text" 15 "BrideDoors$Text" "fault" "I") = true := by decide +kernel
theorem wk_134 : n_at 134 (.fieldLink "BrideDoors$Text" 18 "BrideDoors$Text" "signs" "[I") = true := by decide +kernel
theorem wk_135 : n_at 135 (.fieldLink "BrideDoors$Text" 22 "BrideDoors$Text" "told" "LBrideDoors$Table;") = true := by decide +kernel
theorem wk_72 : n_at 72 (.initialized "BrideDoors$Text") = true := by decide +kernel
theorem wk_131 : n_at 131 (.instanceMethod ⟨"BrideDoors$Text", "<init>", "(ILBrideDoors$Table;)V"⟩) = true := by decide +kernel
theorem wk_130 : n_at 130 (.methodLink "BrideDoors$HouseText" 3 ⟨"BrideDoors$Text", "<init>", "(ILBrideDoors$Table;)V"⟩) = true := by decide +kernel
theorem wk_154 : n_at 154 (.methodLink "BrideDoors$BrideText" 3 ⟨"BrideDoors$Text", "<init>", "(ILBrideDoors$Table;)V"⟩) = true := by decide +kernel
theorem wk_165 : n_at 165 (.methodLink "BrideDoors$World" 3 objectInit) = true := by decide +kernel
theorem wk_169 : n_at 169 (.fieldLink "BrideDoors$World" 9 "BrideDoors$World" "missing" "I") = true := by decide +kernel
theorem wk_170 : n_at 170 (.fieldLink "BrideDoors$World" 15 "BrideDoors$World" "busyYears" "I") = true := by decide +kernel
theorem wk_171 : n_at 171 (.fieldLink "BrideDoors$World" 18 "BrideDoors$World" "opens" "[I") = true := by decide +kernel
theorem wk_173 : n_at 173 (.fieldLink "BrideDoors$World" 22 "BrideDoors$World" "state" "[I") = true := by decide +kernel
theorem wk_175 : n_at 175 (.fieldLink "BrideDoors$World" 25 "BrideDoors$World" "height" "[I") = true := by decide +kernel
theorem wk_177 : n_at 177 (.fieldLink "BrideDoors$World" 28 "BrideDoors$World" "sawn" "[I") = true := by decide +kernel
theorem wk_179 : n_at 179 (.fieldLink "BrideDoors$World" 31 "BrideDoors$World" "hung" "[I") = true := by decide +kernel
theorem wk_166 : n_at 166 (.fieldLink "BrideDoors$World" 34 "BrideDoors$World" "houses" "LBrideDoors$Table;") = true := by decide +kernel
theorem wk_167 : n_at 167 (.fieldLink "BrideDoors$World" 38 "BrideDoors$World" "brides" "LBrideDoors$Table;") = true := by decide +kernel
theorem wk_168 : n_at 168 (.fieldLink "BrideDoors$World" 41 "BrideDoors$World" "events" "LBrideDoors$Table;") = true := by decide +kernel

set_option maxHeartbeats 16000000 in
set_option maxRecDepth 100000 in
theorem k_X4_1 (l : Launch) (D : va_G) (cI cS cA : ClassId) (t1 : Nat) (h0 sz : Nat) : Met l yk_X4_init (.code yk_X4_init prog_6_method_1_code 3 none :: n_tg) ({ frames := 1, cells := 1, slots := 17, locals := 12 }) (va_Pc [.ref h0, .int 17, .ref t1] (fun U => U.heap.size = sz ∧ va_P D n_cl [(h0, .inr (1, [.null, .null, .int 0, .int 0]))] U.heap ∧ va_K D n_cl (n_tys cI cS cA) U ∧ va_D (fun _ => True) [(h0, .inr (1, [.null, .null, .int 0, .int 0]))])) (va_Qv (fun _ : Unit => True) (fun (_ : Unit) (t : State) => ∃ q0 : Nat, va_P D n_cl [(h0, .inr (1, [.ref q0, .ref t1, .int 0, .int (-1)])), (q0, .inl (cI, 17, .inl (fun _ => 0)))] t.heap ∧ va_K D n_cl (n_tys cI cS cA) t ∧ va_D (va_A [(h0, .inr (1, [.null, .null, .int 0, .int 0]))] sz) [(h0, .inr (1, [.ref q0, .ref t1, .int 0, .int (-1)])), (q0, .inl (cI, 17, .inl (fun _ => 0)))]) (va_A [(h0, .inr (1, [.null, .null, .int 0, .int 0]))] sz)) 1 17 (va_A [(h0, .inr (1, [.null, .null, .int 0, .int 0]))] sz) := by
  refine Met.ofW (cc := prog_6_method_1_code) (maxL := 3) (ret := none) (by decide) rfl ?_
  intro p e s m args below meth c s₁ B hml hv
  obtain ⟨rfl, hsz, hP, hK, hD0⟩ := hv
  have hx := B.exec
  have hb := B.bytes
  have hr := B.returns
  have hts0 := atoms_spec (ws := .code yk_X4_init prog_6_method_1_code 3 none :: n_tg) B.pre
  have hts : ∀ w ∈ n_tg, w.before _ s = true := fun w hw => hts0 w (List.mem_cons_of_mem _ hw)
  have hown : s.vm.findClass "BrideDoors$Text" = some m.cls := findClass_of_methodNamed B.named
  have hlocks := B.notSynchronized
  have hin : meth.name = "<init>" := (name_of_methodNamed B.named B.method).1
  subst hsz
  have hD := hD0.self (sz := s.heap.size)
  generalize hAe : va_A [(h0, .inr (1, [.null, .null, .int 0, .int 0]))] s.heap.size = A at hD ⊢
  have hA : ∀ q : Nat, s.heap.size ≤ q → A q := fun q h => by rw [← hAe]; exact Or.inr h
  have hS : va_S A s.heap s.heap [] := va_S.rf
  have hP : va_P D n_cl [(h0, .inr (1, [.null, .null, .int 0, .int 0]))] s.heap := hP
  have hl := lv_entry ([.ref h0, .int 17, .ref t1]) (n := 3) (Nat.le_of_ble_eq_true rfl)
  rw [lg_entry_eq]
  generalize (lg_sl ([.ref h0, .int 17, .ref t1]) ++ List.replicate (3 - (lg_sl ([.ref h0, .int 17, .ref t1])).length) Slot.unset).toArray = ls at hl ⊢
  have hl : lv_has ls 3 [(0, .ref h0), (1, .int 17), (2, .ref t1)] := hl
  refine lv_aload_n hx hb dk_X4_init_0 rfl (lv_at hl 0 rfl) ?_
  refine W.objInit hx hb hown (hts _ (n_in wk_133)) (hts _ (n_in wk_93)) (hts _ (n_in wk_94)) rfl (by rw [hml]; exact hl.1) rfl dk_X4_init_1 (Nat.le_of_ble_eq_true rfl) (Nat.le_of_ble_eq_true rfl) ?_
  refine W.eq (g2 := F0 m 4 ls []) rfl ?_
  refine lv_aload_n hx hb dk_X4_init_4 rfl (lv_at hl 0 rfl) ?_
  refine lv_iconst (v := 0) hx hb dk_X4_init_5 (by decide) ?_
  refine va_put (D := D) (ci := 1) (v := .int 0) (ty := .int) (C := RX1) (T := TX1) (N := 4) hx hb hts j_X1 tyX1 tyX1_ok nmX1 hown hK hP hD hS 0 rfl rfl 2 (by decide) (hts _ (n_in wk_136)) (fun _ h9 => h9) rfl (by decide +kernel) rfl rfl (Nat.le_of_ble_eq_true rfl) dk_X4_init_6 (fun H locs hP hD hS => ?_)
  have hP : va_P D n_cl [(h0, .inr (1, [.null, .null, .int 0, .int 0]))] H := hP
  have hD : va_D A [(h0, .inr (1, [.null, .null, .int 0, .int 0]))] := hD
  refine lv_aload_n hx hb dk_X4_init_9 rfl (lv_at hl 0 rfl) ?_
  refine lv_iconst (v := (-1)) hx hb dk_X4_init_10 (by decide) ?_
  refine va_put (D := D) (ci := 1) (v := .int (-1)) (ty := .int) (C := RX1) (T := TX1) (N := 4) hx hb hts j_X1 tyX1 tyX1_ok nmX1 hown hK hP hD hS 0 rfl rfl 3 (by decide) (hts _ (n_in wk_138)) (fun _ h9 => h9) rfl (by decide +kernel) rfl rfl (Nat.le_of_ble_eq_true rfl) dk_X4_init_11 (fun H locs hP hD hS => ?_)
  have hP : va_P D n_cl [(h0, .inr (1, [.null, .null, .int 0, .int (-1)]))] H := hP
  have hD : va_D A [(h0, .inr (1, [.null, .null, .int 0, .int (-1)]))] := hD
  refine lv_aload_n hx hb dk_X4_init_14 rfl (lv_at hl 0 rfl) ?_
  refine lv_iload_n hx hb dk_X4_init_15 rfl (lv_at hl 1 rfl) ?_
  refine x_newi (N' := 17) hx hb (hts _ (n_in wk_124)) hK hP hD hS hA (by decide) (by decide) (Nat.le_of_ble_eq_true rfl) (Nat.le_of_ble_eq_true rfl) (Nat.le_of_ble_eq_true rfl) dk_X4_init_16 (fun q0 H hP hD hS => ?_)
  have hP : va_P D n_cl [(h0, .inr (1, [.null, .null, .int 0, .int (-1)])), (q0, .inl (cI, 17, .inl (fun _ => 0)))] H := hP
  have hD : va_D A [(h0, .inr (1, [.null, .null, .int 0, .int (-1)])), (q0, .inl (cI, 17, .inl (fun _ => 0)))] := hD
  refine W.widen (k := 1) (n := 17) (Nat.le_of_ble_eq_true rfl) (Nat.le_of_ble_eq_true rfl) ?_
  refine va_putF (D := D) (ci := 1) (v := .ref q0) (ty := (.array .int)) (C := RX1) (T := TX1) (N := 4) hx hb hts j_X1 tyX1 tyX1_ok nmX1 hown hK hP hD hS 0 rfl rfl 0 (by decide) (hts _ (n_in wk_134)) (fun _ h9 => h9) rfl hin rfl (by decide +kernel) rfl rfl (Nat.le_of_ble_eq_true rfl) dk_X4_init_18 (fun H locs hP hD hS => ?_)
  have hP : va_P D n_cl [(h0, .inr (1, [.ref q0, .null, .int 0, .int (-1)])), (q0, .inl (cI, 17, .inl (fun _ => 0)))] H := hP
  have hD : va_D A [(h0, .inr (1, [.ref q0, .null, .int 0, .int (-1)])), (q0, .inl (cI, 17, .inl (fun _ => 0)))] := hD
  refine lv_aload_n hx hb dk_X4_init_21 rfl (lv_at hl 0 rfl) ?_
  refine lv_aload_n hx hb dk_X4_init_22 rfl (lv_at hl 2 rfl) ?_
  refine va_putF (D := D) (ci := 1) (v := .ref t1) (ty := (.object "BrideDoors$Table")) (C := RX1) (T := TX1) (N := 4) hx hb hts j_X1 tyX1 tyX1_ok nmX1 hown hK hP hD hS 0 rfl rfl 1 (by decide) (hts _ (n_in wk_135)) (fun _ h9 => h9) rfl hin rfl (by decide +kernel) rfl rfl (Nat.le_of_ble_eq_true rfl) dk_X4_init_23 (fun H locs hP hD hS => ?_)
  have hP : va_P D n_cl [(h0, .inr (1, [.ref q0, .ref t1, .int 0, .int (-1)])), (q0, .inl (cI, 17, .inl (fun _ => 0)))] H := hP
  have hD : va_D A [(h0, .inr (1, [.ref q0, .ref t1, .int 0, .int (-1)])), (q0, .inl (cI, 17, .inl (fun _ => 0)))] := hD
  exact W.vret hx hb hr (fun t ht hW => ⟨⟨(), rfl, trivial, q0, by rw [ht]; exact hP, va_K.moved hW.alike hK, hD⟩, hS.F ht⟩) hS.2.2 dk_X4_init_26
set_option maxHeartbeats 16000000 in
set_option maxRecDepth 100000 in
theorem k_X4_0 (l : Launch) (D : va_G) (cI cS cA : ClassId) (t1 : Nat) (h0 sz : Nat) : Met l yk_X4_init (.code yk_X4_init prog_6_method_1_code 3 none :: n_tg) ({ frames := 1, cells := 1, slots := 39, locals := 12 }) (va_Pc [.ref h0, .int 39, .ref t1] (fun U => U.heap.size = sz ∧ va_P D n_cl [(h0, .inr (0, [.null, .null, .int 0, .int 0]))] U.heap ∧ va_K D n_cl (n_tys cI cS cA) U ∧ va_D (fun _ => True) [(h0, .inr (0, [.null, .null, .int 0, .int 0]))])) (va_Qv (fun _ : Unit => True) (fun (_ : Unit) (t : State) => ∃ q0 : Nat, va_P D n_cl [(h0, .inr (0, [.ref q0, .ref t1, .int 0, .int (-1)])), (q0, .inl (cI, 39, .inl (fun _ => 0)))] t.heap ∧ va_K D n_cl (n_tys cI cS cA) t ∧ va_D (va_A [(h0, .inr (0, [.null, .null, .int 0, .int 0]))] sz) [(h0, .inr (0, [.ref q0, .ref t1, .int 0, .int (-1)])), (q0, .inl (cI, 39, .inl (fun _ => 0)))]) (va_A [(h0, .inr (0, [.null, .null, .int 0, .int 0]))] sz)) 1 39 (va_A [(h0, .inr (0, [.null, .null, .int 0, .int 0]))] sz) := by
  refine Met.ofW (cc := prog_6_method_1_code) (maxL := 3) (ret := none) (by decide) rfl ?_
  intro p e s m args below meth c s₁ B hml hv
  obtain ⟨rfl, hsz, hP, hK, hD0⟩ := hv
  have hx := B.exec
  have hb := B.bytes
  have hr := B.returns
  have hts0 := atoms_spec (ws := .code yk_X4_init prog_6_method_1_code 3 none :: n_tg) B.pre
  have hts : ∀ w ∈ n_tg, w.before _ s = true := fun w hw => hts0 w (List.mem_cons_of_mem _ hw)
  have hown : s.vm.findClass "BrideDoors$Text" = some m.cls := findClass_of_methodNamed B.named
  have hlocks := B.notSynchronized
  have hin : meth.name = "<init>" := (name_of_methodNamed B.named B.method).1
  subst hsz
  have hD := hD0.self (sz := s.heap.size)
  generalize hAe : va_A [(h0, .inr (0, [.null, .null, .int 0, .int 0]))] s.heap.size = A at hD ⊢
  have hA : ∀ q : Nat, s.heap.size ≤ q → A q := fun q h => by rw [← hAe]; exact Or.inr h
  have hS : va_S A s.heap s.heap [] := va_S.rf
  have hP : va_P D n_cl [(h0, .inr (0, [.null, .null, .int 0, .int 0]))] s.heap := hP
  have hl := lv_entry ([.ref h0, .int 39, .ref t1]) (n := 3) (Nat.le_of_ble_eq_true rfl)
  rw [lg_entry_eq]
  generalize (lg_sl ([.ref h0, .int 39, .ref t1]) ++ List.replicate (3 - (lg_sl ([.ref h0, .int 39, .ref t1])).length) Slot.unset).toArray = ls at hl ⊢
  have hl : lv_has ls 3 [(0, .ref h0), (1, .int 39), (2, .ref t1)] := hl
  refine lv_aload_n hx hb dk_X4_init_0 rfl (lv_at hl 0 rfl) ?_
  refine W.objInit hx hb hown (hts _ (n_in wk_133)) (hts _ (n_in wk_93)) (hts _ (n_in wk_94)) rfl (by rw [hml]; exact hl.1) rfl dk_X4_init_1 (Nat.le_of_ble_eq_true rfl) (Nat.le_of_ble_eq_true rfl) ?_
  refine W.eq (g2 := F0 m 4 ls []) rfl ?_
  refine lv_aload_n hx hb dk_X4_init_4 rfl (lv_at hl 0 rfl) ?_
  refine lv_iconst (v := 0) hx hb dk_X4_init_5 (by decide) ?_
  refine va_put (D := D) (ci := 0) (v := .int 0) (ty := .int) (C := RX0) (T := TX0) (N := 4) hx hb hts j_X0 tyX0 tyX0_ok nmX0 hown hK hP hD hS 0 rfl rfl 2 (by decide) (hts _ (n_in wk_136)) (fun _ h9 => h9) rfl (by decide +kernel) rfl rfl (Nat.le_of_ble_eq_true rfl) dk_X4_init_6 (fun H locs hP hD hS => ?_)
  have hP : va_P D n_cl [(h0, .inr (0, [.null, .null, .int 0, .int 0]))] H := hP
  have hD : va_D A [(h0, .inr (0, [.null, .null, .int 0, .int 0]))] := hD
  refine lv_aload_n hx hb dk_X4_init_9 rfl (lv_at hl 0 rfl) ?_
  refine lv_iconst (v := (-1)) hx hb dk_X4_init_10 (by decide) ?_
  refine va_put (D := D) (ci := 0) (v := .int (-1)) (ty := .int) (C := RX0) (T := TX0) (N := 4) hx hb hts j_X0 tyX0 tyX0_ok nmX0 hown hK hP hD hS 0 rfl rfl 3 (by decide) (hts _ (n_in wk_138)) (fun _ h9 => h9) rfl (by decide +kernel) rfl rfl (Nat.le_of_ble_eq_true rfl) dk_X4_init_11 (fun H locs hP hD hS => ?_)
  have hP : va_P D n_cl [(h0, .inr (0, [.null, .null, .int 0, .int (-1)]))] H := hP
  have hD : va_D A [(h0, .inr (0, [.null, .null, .int 0, .int (-1)]))] := hD
  refine lv_aload_n hx hb dk_X4_init_14 rfl (lv_at hl 0 rfl) ?_
  refine lv_iload_n hx hb dk_X4_init_15 rfl (lv_at hl 1 rfl) ?_
  refine x_newi (N' := 39) hx hb (hts _ (n_in wk_124)) hK hP hD hS hA (by decide) (by decide) (Nat.le_of_ble_eq_true rfl) (Nat.le_of_ble_eq_true rfl) (Nat.le_of_ble_eq_true rfl) dk_X4_init_16 (fun q0 H hP hD hS => ?_)
  have hP : va_P D n_cl [(h0, .inr (0, [.null, .null, .int 0, .int (-1)])), (q0, .inl (cI, 39, .inl (fun _ => 0)))] H := hP
  have hD : va_D A [(h0, .inr (0, [.null, .null, .int 0, .int (-1)])), (q0, .inl (cI, 39, .inl (fun _ => 0)))] := hD
  refine W.widen (k := 1) (n := 39) (Nat.le_of_ble_eq_true rfl) (Nat.le_of_ble_eq_true rfl) ?_
  refine va_putF (D := D) (ci := 0) (v := .ref q0) (ty := (.array .int)) (C := RX0) (T := TX0) (N := 4) hx hb hts j_X0 tyX0 tyX0_ok nmX0 hown hK hP hD hS 0 rfl rfl 0 (by decide) (hts _ (n_in wk_134)) (fun _ h9 => h9) rfl hin rfl (by decide +kernel) rfl rfl (Nat.le_of_ble_eq_true rfl) dk_X4_init_18 (fun H locs hP hD hS => ?_)
  have hP : va_P D n_cl [(h0, .inr (0, [.ref q0, .null, .int 0, .int (-1)])), (q0, .inl (cI, 39, .inl (fun _ => 0)))] H := hP
  have hD : va_D A [(h0, .inr (0, [.ref q0, .null, .int 0, .int (-1)])), (q0, .inl (cI, 39, .inl (fun _ => 0)))] := hD
  refine lv_aload_n hx hb dk_X4_init_21 rfl (lv_at hl 0 rfl) ?_
  refine lv_aload_n hx hb dk_X4_init_22 rfl (lv_at hl 2 rfl) ?_
  refine va_putF (D := D) (ci := 0) (v := .ref t1) (ty := (.object "BrideDoors$Table")) (C := RX0) (T := TX0) (N := 4) hx hb hts j_X0 tyX0 tyX0_ok nmX0 hown hK hP hD hS 0 rfl rfl 1 (by decide) (hts _ (n_in wk_135)) (fun _ h9 => h9) rfl hin rfl (by decide +kernel) rfl rfl (Nat.le_of_ble_eq_true rfl) dk_X4_init_23 (fun H locs hP hD hS => ?_)
  have hP : va_P D n_cl [(h0, .inr (0, [.ref q0, .ref t1, .int 0, .int (-1)])), (q0, .inl (cI, 39, .inl (fun _ => 0)))] H := hP
  have hD : va_D A [(h0, .inr (0, [.ref q0, .ref t1, .int 0, .int (-1)])), (q0, .inl (cI, 39, .inl (fun _ => 0)))] := hD
  exact W.vret hx hb hr (fun t ht hW => ⟨⟨(), rfl, trivial, q0, by rw [ht]; exact hP, va_K.moved hW.alike hK, hD⟩, hS.F ht⟩) hS.2.2 dk_X4_init_26
set_option maxHeartbeats 16000000 in
set_option maxRecDepth 100000 in
theorem k_X1 (l : Launch) (D : va_G) (cI cS cA : ClassId) (t1 : Nat) (h0 sz : Nat) : Met l yk_X1_init (.code yk_X1_init prog_3_method_1_code 2 none :: n_tg) ({ frames := 2, cells := 1, slots := 17, locals := 34 }) (va_Pc [.ref h0, .ref t1] (fun U => U.heap.size = sz ∧ va_P D n_cl [(h0, .inr (1, [.null, .null, .int 0, .int 0]))] U.heap ∧ va_K D n_cl (n_tys cI cS cA) U ∧ va_D (fun _ => True) [(h0, .inr (1, [.null, .null, .int 0, .int 0]))])) (va_Qv (fun _ : Unit => True) (fun (_ : Unit) (t : State) => ∃ c4_4q0 : Nat, va_P D n_cl [(h0, .inr (1, [.ref c4_4q0, .ref t1, .int 0, .int (-1)])), (c4_4q0, .inl (cI, 17, .inl (fun _ => 0)))] t.heap ∧ va_K D n_cl (n_tys cI cS cA) t ∧ va_D (va_A [(h0, .inr (1, [.null, .null, .int 0, .int 0]))] sz) [(h0, .inr (1, [.ref c4_4q0, .ref t1, .int 0, .int (-1)])), (c4_4q0, .inl (cI, 17, .inl (fun _ => 0)))]) (va_A [(h0, .inr (1, [.null, .null, .int 0, .int 0]))] sz)) 1 17 (va_A [(h0, .inr (1, [.null, .null, .int 0, .int 0]))] sz) := by
  refine Met.ofW (cc := prog_3_method_1_code) (maxL := 2) (ret := none) (by decide) rfl ?_
  intro p e s m args below meth c s₁ B hml hv
  obtain ⟨rfl, hsz, hP, hK, hD0⟩ := hv
  have hx := B.exec
  have hb := B.bytes
  have hr := B.returns
  have hts0 := atoms_spec (ws := .code yk_X1_init prog_3_method_1_code 2 none :: n_tg) B.pre
  have hts : ∀ w ∈ n_tg, w.before _ s = true := fun w hw => hts0 w (List.mem_cons_of_mem _ hw)
  have hown : s.vm.findClass "BrideDoors$HouseText" = some m.cls := findClass_of_methodNamed B.named
  have hlocks := B.notSynchronized
  have hin : meth.name = "<init>" := (name_of_methodNamed B.named B.method).1
  subst hsz
  have hD := hD0.self (sz := s.heap.size)
  generalize hAe : va_A [(h0, .inr (1, [.null, .null, .int 0, .int 0]))] s.heap.size = A at hD ⊢
  have hA : ∀ q : Nat, s.heap.size ≤ q → A q := fun q h => by rw [← hAe]; exact Or.inr h
  have hS : va_S A s.heap s.heap [] := va_S.rf
  have hP : va_P D n_cl [(h0, .inr (1, [.null, .null, .int 0, .int 0]))] s.heap := hP
  have hl := lv_entry ([.ref h0, .ref t1]) (n := 2) (Nat.le_of_ble_eq_true rfl)
  rw [lg_entry_eq]
  generalize (lg_sl ([.ref h0, .ref t1]) ++ List.replicate (2 - (lg_sl ([.ref h0, .ref t1])).length) Slot.unset).toArray = ls at hl ⊢
  have hl : lv_has ls 2 [(0, .ref h0), (1, .ref t1)] := hl
  refine lv_aload_n hx hb dk_X1_init_0 rfl (lv_at hl 0 rfl) ?_
  refine lv_bipush (v := 17) hx hb dk_X1_init_1 (by decide) ?_
  refine lv_aload_n hx hb dk_X1_init_3 rfl (lv_at hl 1 rfl) ?_
  have hPc := hP.sub (ws' := [(h0, .inr (1, [.null, .null, .int 0, .int 0]))]) [0] rfl
  have hDc := hD.sub (ws' := [(h0, .inr (1, [.null, .null, .int 0, .int 0]))]) [0] (by decide) rfl
  have hFc := va_free (wc := [(h0, .inr (1, [.null, .null, .int 0, .int 0]))]) hD hS hA [0] rfl
  refine va_callv (va_runI (As := [.int 17, .ref t1]) (rest := []) ⟨hx, hb, hml, hown, hts⟩ (k_X4_1 l D cI cS cA t1 h0 s.heap.size) (cwI 2 hts (x_good wg_X4_1) rfl rfl rfl (hts _ (n_in wk_72)) (hts _ (n_in wk_130)) (hts _ (n_in wk_131)) rfl (by decide +kernel) ⟨Nat.le_of_ble_eq_true rfl, Nat.le_of_ble_eq_true rfl⟩) ⟨fun a U g mk q => by obtain ⟨q0, q1, qP, qK, qD⟩ := q; exact ⟨q0, q1, qP, va_K.moved (u := U) (U := U.calling g mk a) (Vm.Alike.refl U.vm) qK, qD⟩, fun U hU hW => ⟨rfl, by rw [hU], by rw [hU]; exact hPc, va_K.moved hW.alike hK, hDc.weaken (fun _ _ _ _ => trivial)⟩⟩ rfl rfl hl.1 rfl (lv_room (Nat.le_of_ble_eq_true rfl)) dk_X1_init_4 ⟨Nat.le_of_ble_eq_true rfl, Nat.le_of_ble_eq_true rfl⟩) hS (fun q _ h => hFc q h) hFc (fun u t H1 locs ht hvm hw hB hz1 hk1 hS => ?_)
  obtain ⟨c4_4q0, hP1, hK1, hD1⟩ := hB
  rw [ht] at hP1
  obtain ⟨hP, hD⟩ := va_join (wr := []) (w1 := [(h0, .inr (1, [.ref c4_4q0, .ref t1, .int 0, .int (-1)])), (c4_4q0, .inl (cI, 17, .inl (fun _ => 0)))]) hP hD [0] [] rfl rfl (by decide) (by decide) hk1 hFc hP1 hD1
  generalize H1 = H at hP hS ⊢
  have hP : va_P D n_cl [(h0, .inr (1, [.ref c4_4q0, .ref t1, .int 0, .int (-1)])), (c4_4q0, .inl (cI, 17, .inl (fun _ => 0)))] H := hP
  have hD : va_D A [(h0, .inr (1, [.ref c4_4q0, .ref t1, .int 0, .int (-1)])), (c4_4q0, .inl (cI, 17, .inl (fun _ => 0)))] := hD
  refine W.widen (k := 1) (n := 17) (Nat.le_of_ble_eq_true rfl) (Nat.le_of_ble_eq_true rfl) ?_
  exact W.vret hx hb hr (fun t ht hW => ⟨⟨(), rfl, trivial, c4_4q0, by rw [ht]; exact hP, va_K.moved hW.alike hK, hD⟩, hS.F ht⟩) hS.2.2 dk_X1_init_7
set_option maxHeartbeats 16000000 in
set_option maxRecDepth 100000 in
theorem k_X0 (l : Launch) (D : va_G) (cI cS cA : ClassId) (t1 : Nat) (h0 sz : Nat) : Met l yk_X0_init (.code yk_X0_init prog_2_method_1_code 2 none :: n_tg) ({ frames := 2, cells := 1, slots := 39, locals := 34 }) (va_Pc [.ref h0, .ref t1] (fun U => U.heap.size = sz ∧ va_P D n_cl [(h0, .inr (0, [.null, .null, .int 0, .int 0]))] U.heap ∧ va_K D n_cl (n_tys cI cS cA) U ∧ va_D (fun _ => True) [(h0, .inr (0, [.null, .null, .int 0, .int 0]))])) (va_Qv (fun _ : Unit => True) (fun (_ : Unit) (t : State) => ∃ c4_4q0 : Nat, va_P D n_cl [(h0, .inr (0, [.ref c4_4q0, .ref t1, .int 0, .int (-1)])), (c4_4q0, .inl (cI, 39, .inl (fun _ => 0)))] t.heap ∧ va_K D n_cl (n_tys cI cS cA) t ∧ va_D (va_A [(h0, .inr (0, [.null, .null, .int 0, .int 0]))] sz) [(h0, .inr (0, [.ref c4_4q0, .ref t1, .int 0, .int (-1)])), (c4_4q0, .inl (cI, 39, .inl (fun _ => 0)))]) (va_A [(h0, .inr (0, [.null, .null, .int 0, .int 0]))] sz)) 1 39 (va_A [(h0, .inr (0, [.null, .null, .int 0, .int 0]))] sz) := by
  refine Met.ofW (cc := prog_2_method_1_code) (maxL := 2) (ret := none) (by decide) rfl ?_
  intro p e s m args below meth c s₁ B hml hv
  obtain ⟨rfl, hsz, hP, hK, hD0⟩ := hv
  have hx := B.exec
  have hb := B.bytes
  have hr := B.returns
  have hts0 := atoms_spec (ws := .code yk_X0_init prog_2_method_1_code 2 none :: n_tg) B.pre
  have hts : ∀ w ∈ n_tg, w.before _ s = true := fun w hw => hts0 w (List.mem_cons_of_mem _ hw)
  have hown : s.vm.findClass "BrideDoors$BrideText" = some m.cls := findClass_of_methodNamed B.named
  have hlocks := B.notSynchronized
  have hin : meth.name = "<init>" := (name_of_methodNamed B.named B.method).1
  subst hsz
  have hD := hD0.self (sz := s.heap.size)
  generalize hAe : va_A [(h0, .inr (0, [.null, .null, .int 0, .int 0]))] s.heap.size = A at hD ⊢
  have hA : ∀ q : Nat, s.heap.size ≤ q → A q := fun q h => by rw [← hAe]; exact Or.inr h
  have hS : va_S A s.heap s.heap [] := va_S.rf
  have hP : va_P D n_cl [(h0, .inr (0, [.null, .null, .int 0, .int 0]))] s.heap := hP
  have hl := lv_entry ([.ref h0, .ref t1]) (n := 2) (Nat.le_of_ble_eq_true rfl)
  rw [lg_entry_eq]
  generalize (lg_sl ([.ref h0, .ref t1]) ++ List.replicate (2 - (lg_sl ([.ref h0, .ref t1])).length) Slot.unset).toArray = ls at hl ⊢
  have hl : lv_has ls 2 [(0, .ref h0), (1, .ref t1)] := hl
  refine lv_aload_n hx hb dk_X0_init_0 rfl (lv_at hl 0 rfl) ?_
  refine lv_bipush (v := 39) hx hb dk_X0_init_1 (by decide) ?_
  refine lv_aload_n hx hb dk_X0_init_3 rfl (lv_at hl 1 rfl) ?_
  have hPc := hP.sub (ws' := [(h0, .inr (0, [.null, .null, .int 0, .int 0]))]) [0] rfl
  have hDc := hD.sub (ws' := [(h0, .inr (0, [.null, .null, .int 0, .int 0]))]) [0] (by decide) rfl
  have hFc := va_free (wc := [(h0, .inr (0, [.null, .null, .int 0, .int 0]))]) hD hS hA [0] rfl
  refine va_callv (va_runI (As := [.int 39, .ref t1]) (rest := []) ⟨hx, hb, hml, hown, hts⟩ (k_X4_0 l D cI cS cA t1 h0 s.heap.size) (cwI 2 hts (x_good wg_X4_0) rfl rfl rfl (hts _ (n_in wk_72)) (hts _ (n_in wk_154)) (hts _ (n_in wk_131)) rfl (by decide +kernel) ⟨Nat.le_of_ble_eq_true rfl, Nat.le_of_ble_eq_true rfl⟩) ⟨fun a U g mk q => by obtain ⟨q0, q1, qP, qK, qD⟩ := q; exact ⟨q0, q1, qP, va_K.moved (u := U) (U := U.calling g mk a) (Vm.Alike.refl U.vm) qK, qD⟩, fun U hU hW => ⟨rfl, by rw [hU], by rw [hU]; exact hPc, va_K.moved hW.alike hK, hDc.weaken (fun _ _ _ _ => trivial)⟩⟩ rfl rfl hl.1 rfl (lv_room (Nat.le_of_ble_eq_true rfl)) dk_X0_init_4 ⟨Nat.le_of_ble_eq_true rfl, Nat.le_of_ble_eq_true rfl⟩) hS (fun q _ h => hFc q h) hFc (fun u t H1 locs ht hvm hw hB hz1 hk1 hS => ?_)
  obtain ⟨c4_4q0, hP1, hK1, hD1⟩ := hB
  rw [ht] at hP1
  obtain ⟨hP, hD⟩ := va_join (wr := []) (w1 := [(h0, .inr (0, [.ref c4_4q0, .ref t1, .int 0, .int (-1)])), (c4_4q0, .inl (cI, 39, .inl (fun _ => 0)))]) hP hD [0] [] rfl rfl (by decide) (by decide) hk1 hFc hP1 hD1
  generalize H1 = H at hP hS ⊢
  have hP : va_P D n_cl [(h0, .inr (0, [.ref c4_4q0, .ref t1, .int 0, .int (-1)])), (c4_4q0, .inl (cI, 39, .inl (fun _ => 0)))] H := hP
  have hD : va_D A [(h0, .inr (0, [.ref c4_4q0, .ref t1, .int 0, .int (-1)])), (c4_4q0, .inl (cI, 39, .inl (fun _ => 0)))] := hD
  refine W.widen (k := 1) (n := 39) (Nat.le_of_ble_eq_true rfl) (Nat.le_of_ble_eq_true rfl) ?_
  exact W.vret hx hb hr (fun t ht hW => ⟨⟨(), rfl, trivial, c4_4q0, by rw [ht]; exact hP, va_K.moved hW.alike hK, hD⟩, hS.F ht⟩) hS.2.2 dk_X0_init_7
set_option maxHeartbeats 16000000 in
set_option maxRecDepth 100000 in
theorem k_X5 (l : Launch) (D : va_G) (cI cS cA : ClassId) (t1 : Nat) (t2 : Nat) (t3 : Nat) (h0 sz : Nat) : Met l yk_X5_init (.code yk_X5_init prog_7_method_1_code 4 none :: n_tg) ({ frames := 1, cells := 5, slots := 38, locals := 12 }) (va_Pc [.ref h0, .ref t1, .ref t2, .ref t3] (fun U => U.heap.size = sz ∧ va_P D n_cl [(h0, .inr (4, [.null, .null, .null, .int 0, .int 0, .null, .null, .null, .null, .null]))] U.heap ∧ va_K D n_cl (n_tys cI cS cA) U ∧ va_D (fun _ => True) [(h0, .inr (4, [.null, .null, .null, .int 0, .int 0, .null, .null, .null, .null, .null]))])) (va_Qv (fun _ : Unit => True) (fun (_ : Unit) (t : State) => ∃ q0 : Nat, ∃ q1 : Nat, ∃ q2 : Nat, ∃ q3 : Nat, ∃ q4 : Nat, va_P D n_cl [(h0, .inr (4, [.ref t1, .ref t2, .ref t3, .int 0, .int 0, .ref q0, .ref q1, .ref q2, .ref q3, .ref q4])), (q0, .inl (cI, 6, .inl (fun _ => 0))), (q1, .inl (cI, 8, .inl (fun _ => 0))), (q2, .inl (cI, 8, .inl (fun _ => 0))), (q3, .inl (cI, 8, .inl (fun _ => 0))), (q4, .inl (cI, 8, .inl (fun _ => 0)))] t.heap ∧ va_K D n_cl (n_tys cI cS cA) t ∧ va_D (va_A [(h0, .inr (4, [.null, .null, .null, .int 0, .int 0, .null, .null, .null, .null, .null]))] sz) [(h0, .inr (4, [.ref t1, .ref t2, .ref t3, .int 0, .int 0, .ref q0, .ref q1, .ref q2, .ref q3, .ref q4])), (q0, .inl (cI, 6, .inl (fun _ => 0))), (q1, .inl (cI, 8, .inl (fun _ => 0))), (q2, .inl (cI, 8, .inl (fun _ => 0))), (q3, .inl (cI, 8, .inl (fun _ => 0))), (q4, .inl (cI, 8, .inl (fun _ => 0)))]) (va_A [(h0, .inr (4, [.null, .null, .null, .int 0, .int 0, .null, .null, .null, .null, .null]))] sz)) 5 38 (va_A [(h0, .inr (4, [.null, .null, .null, .int 0, .int 0, .null, .null, .null, .null, .null]))] sz) := by
  refine Met.ofW (cc := prog_7_method_1_code) (maxL := 4) (ret := none) (by decide) rfl ?_
  intro p e s m args below meth c s₁ B hml hv
  obtain ⟨rfl, hsz, hP, hK, hD0⟩ := hv
  have hx := B.exec
  have hb := B.bytes
  have hr := B.returns
  have hts0 := atoms_spec (ws := .code yk_X5_init prog_7_method_1_code 4 none :: n_tg) B.pre
  have hts : ∀ w ∈ n_tg, w.before _ s = true := fun w hw => hts0 w (List.mem_cons_of_mem _ hw)
  have hown : s.vm.findClass "BrideDoors$World" = some m.cls := findClass_of_methodNamed B.named
  have hlocks := B.notSynchronized
  have hin : meth.name = "<init>" := (name_of_methodNamed B.named B.method).1
  subst hsz
  have hD := hD0.self (sz := s.heap.size)
  generalize hAe : va_A [(h0, .inr (4, [.null, .null, .null, .int 0, .int 0, .null, .null, .null, .null, .null]))] s.heap.size = A at hD ⊢
  have hA : ∀ q : Nat, s.heap.size ≤ q → A q := fun q h => by rw [← hAe]; exact Or.inr h
  have hS : va_S A s.heap s.heap [] := va_S.rf
  have hP : va_P D n_cl [(h0, .inr (4, [.null, .null, .null, .int 0, .int 0, .null, .null, .null, .null, .null]))] s.heap := hP
  have hl := lv_entry ([.ref h0, .ref t1, .ref t2, .ref t3]) (n := 4) (Nat.le_of_ble_eq_true rfl)
  rw [lg_entry_eq]
  generalize (lg_sl ([.ref h0, .ref t1, .ref t2, .ref t3]) ++ List.replicate (4 - (lg_sl ([.ref h0, .ref t1, .ref t2, .ref t3])).length) Slot.unset).toArray = ls at hl ⊢
  have hl : lv_has ls 4 [(0, .ref h0), (1, .ref t1), (2, .ref t2), (3, .ref t3)] := hl
  refine lv_aload_n hx hb dk_X5_init_0 rfl (lv_at hl 0 rfl) ?_
  refine W.objInit hx hb hown (hts _ (n_in wk_165)) (hts _ (n_in wk_93)) (hts _ (n_in wk_94)) rfl (by rw [hml]; exact hl.1) rfl dk_X5_init_1 (Nat.le_of_ble_eq_true rfl) (Nat.le_of_ble_eq_true rfl) ?_
  refine W.eq (g2 := F0 m 4 ls []) rfl ?_
  refine lv_aload_n hx hb dk_X5_init_4 rfl (lv_at hl 0 rfl) ?_
  refine lv_iconst (v := 0) hx hb dk_X5_init_5 (by decide) ?_
  refine va_put (D := D) (ci := 4) (v := .int 0) (ty := .int) (C := RX5) (T := TX5) (N := 10) hx hb hts j_X5 tyX5 tyX5_ok nmX5 hown hK hP hD hS 0 rfl rfl 3 (by decide) (hts _ (n_in wk_169)) (fun _ h9 => h9) rfl (by decide +kernel) rfl rfl (Nat.le_of_ble_eq_true rfl) dk_X5_init_6 (fun H locs hP hD hS => ?_)
  have hP : va_P D n_cl [(h0, .inr (4, [.null, .null, .null, .int 0, .int 0, .null, .null, .null, .null, .null]))] H := hP
  have hD : va_D A [(h0, .inr (4, [.null, .null, .null, .int 0, .int 0, .null, .null, .null, .null, .null]))] := hD
  refine lv_aload_n hx hb dk_X5_init_9 rfl (lv_at hl 0 rfl) ?_
  refine lv_iconst (v := 0) hx hb dk_X5_init_10 (by decide) ?_
  refine va_put (D := D) (ci := 4) (v := .int 0) (ty := .int) (C := RX5) (T := TX5) (N := 10) hx hb hts j_X5 tyX5 tyX5_ok nmX5 hown hK hP hD hS 0 rfl rfl 4 (by decide) (hts _ (n_in wk_170)) (fun _ h9 => h9) rfl (by decide +kernel) rfl rfl (Nat.le_of_ble_eq_true rfl) dk_X5_init_11 (fun H locs hP hD hS => ?_)
  have hP : va_P D n_cl [(h0, .inr (4, [.null, .null, .null, .int 0, .int 0, .null, .null, .null, .null, .null]))] H := hP
  have hD : va_D A [(h0, .inr (4, [.null, .null, .null, .int 0, .int 0, .null, .null, .null, .null, .null]))] := hD
  refine lv_aload_n hx hb dk_X5_init_14 rfl (lv_at hl 0 rfl) ?_
  refine lv_bipush (v := 6) hx hb dk_X5_init_15 (by decide) ?_
  refine x_newi (N' := 6) hx hb (hts _ (n_in wk_124)) hK hP hD hS hA (by decide) (by decide) (Nat.le_of_ble_eq_true rfl) (Nat.le_of_ble_eq_true rfl) (Nat.le_of_ble_eq_true rfl) dk_X5_init_17 (fun q0 H hP hD hS => ?_)
  have hP : va_P D n_cl [(h0, .inr (4, [.null, .null, .null, .int 0, .int 0, .null, .null, .null, .null, .null])), (q0, .inl (cI, 6, .inl (fun _ => 0)))] H := hP
  have hD : va_D A [(h0, .inr (4, [.null, .null, .null, .int 0, .int 0, .null, .null, .null, .null, .null])), (q0, .inl (cI, 6, .inl (fun _ => 0)))] := hD
  refine W.widen (k := 1) (n := 6) (Nat.le_of_ble_eq_true rfl) (Nat.le_of_ble_eq_true rfl) ?_
  refine va_putF (D := D) (ci := 4) (v := .ref q0) (ty := (.array .int)) (C := RX5) (T := TX5) (N := 10) hx hb hts j_X5 tyX5 tyX5_ok nmX5 hown hK hP hD hS 0 rfl rfl 5 (by decide) (hts _ (n_in wk_171)) (fun _ h9 => h9) rfl hin rfl (by decide +kernel) rfl rfl (Nat.le_of_ble_eq_true rfl) dk_X5_init_19 (fun H locs hP hD hS => ?_)
  have hP : va_P D n_cl [(h0, .inr (4, [.null, .null, .null, .int 0, .int 0, .ref q0, .null, .null, .null, .null])), (q0, .inl (cI, 6, .inl (fun _ => 0)))] H := hP
  have hD : va_D A [(h0, .inr (4, [.null, .null, .null, .int 0, .int 0, .ref q0, .null, .null, .null, .null])), (q0, .inl (cI, 6, .inl (fun _ => 0)))] := hD
  refine lv_aload_n hx hb dk_X5_init_22 rfl (lv_at hl 0 rfl) ?_
  refine lv_bipush (v := 8) hx hb dk_X5_init_23 (by decide) ?_
  refine x_newi (N' := 8) hx hb (hts _ (n_in wk_124)) hK hP hD hS hA (by decide) (by decide) (Nat.le_of_ble_eq_true rfl) (Nat.le_of_ble_eq_true rfl) (Nat.le_of_ble_eq_true rfl) dk_X5_init_25 (fun q1 H hP hD hS => ?_)
  have hP : va_P D n_cl [(h0, .inr (4, [.null, .null, .null, .int 0, .int 0, .ref q0, .null, .null, .null, .null])), (q0, .inl (cI, 6, .inl (fun _ => 0))), (q1, .inl (cI, 8, .inl (fun _ => 0)))] H := hP
  have hD : va_D A [(h0, .inr (4, [.null, .null, .null, .int 0, .int 0, .ref q0, .null, .null, .null, .null])), (q0, .inl (cI, 6, .inl (fun _ => 0))), (q1, .inl (cI, 8, .inl (fun _ => 0)))] := hD
  refine W.widen (k := 2) (n := 14) (Nat.le_of_ble_eq_true rfl) (Nat.le_of_ble_eq_true rfl) ?_
  refine va_putF (D := D) (ci := 4) (v := .ref q1) (ty := (.array .int)) (C := RX5) (T := TX5) (N := 10) hx hb hts j_X5 tyX5 tyX5_ok nmX5 hown hK hP hD hS 0 rfl rfl 6 (by decide) (hts _ (n_in wk_173)) (fun _ h9 => h9) rfl hin rfl (by decide +kernel) rfl rfl (Nat.le_of_ble_eq_true rfl) dk_X5_init_27 (fun H locs hP hD hS => ?_)
  have hP : va_P D n_cl [(h0, .inr (4, [.null, .null, .null, .int 0, .int 0, .ref q0, .ref q1, .null, .null, .null])), (q0, .inl (cI, 6, .inl (fun _ => 0))), (q1, .inl (cI, 8, .inl (fun _ => 0)))] H := hP
  have hD : va_D A [(h0, .inr (4, [.null, .null, .null, .int 0, .int 0, .ref q0, .ref q1, .null, .null, .null])), (q0, .inl (cI, 6, .inl (fun _ => 0))), (q1, .inl (cI, 8, .inl (fun _ => 0)))] := hD
  refine lv_aload_n hx hb dk_X5_init_30 rfl (lv_at hl 0 rfl) ?_
  refine lv_bipush (v := 8) hx hb dk_X5_init_31 (by decide) ?_
  refine x_newi (N' := 8) hx hb (hts _ (n_in wk_124)) hK hP hD hS hA (by decide) (by decide) (Nat.le_of_ble_eq_true rfl) (Nat.le_of_ble_eq_true rfl) (Nat.le_of_ble_eq_true rfl) dk_X5_init_33 (fun q2 H hP hD hS => ?_)
  have hP : va_P D n_cl [(h0, .inr (4, [.null, .null, .null, .int 0, .int 0, .ref q0, .ref q1, .null, .null, .null])), (q0, .inl (cI, 6, .inl (fun _ => 0))), (q1, .inl (cI, 8, .inl (fun _ => 0))), (q2, .inl (cI, 8, .inl (fun _ => 0)))] H := hP
  have hD : va_D A [(h0, .inr (4, [.null, .null, .null, .int 0, .int 0, .ref q0, .ref q1, .null, .null, .null])), (q0, .inl (cI, 6, .inl (fun _ => 0))), (q1, .inl (cI, 8, .inl (fun _ => 0))), (q2, .inl (cI, 8, .inl (fun _ => 0)))] := hD
  refine W.widen (k := 3) (n := 22) (Nat.le_of_ble_eq_true rfl) (Nat.le_of_ble_eq_true rfl) ?_
  refine va_putF (D := D) (ci := 4) (v := .ref q2) (ty := (.array .int)) (C := RX5) (T := TX5) (N := 10) hx hb hts j_X5 tyX5 tyX5_ok nmX5 hown hK hP hD hS 0 rfl rfl 7 (by decide) (hts _ (n_in wk_175)) (fun _ h9 => h9) rfl hin rfl (by decide +kernel) rfl rfl (Nat.le_of_ble_eq_true rfl) dk_X5_init_35 (fun H locs hP hD hS => ?_)
  have hP : va_P D n_cl [(h0, .inr (4, [.null, .null, .null, .int 0, .int 0, .ref q0, .ref q1, .ref q2, .null, .null])), (q0, .inl (cI, 6, .inl (fun _ => 0))), (q1, .inl (cI, 8, .inl (fun _ => 0))), (q2, .inl (cI, 8, .inl (fun _ => 0)))] H := hP
  have hD : va_D A [(h0, .inr (4, [.null, .null, .null, .int 0, .int 0, .ref q0, .ref q1, .ref q2, .null, .null])), (q0, .inl (cI, 6, .inl (fun _ => 0))), (q1, .inl (cI, 8, .inl (fun _ => 0))), (q2, .inl (cI, 8, .inl (fun _ => 0)))] := hD
  refine lv_aload_n hx hb dk_X5_init_38 rfl (lv_at hl 0 rfl) ?_
  refine lv_bipush (v := 8) hx hb dk_X5_init_39 (by decide) ?_
  refine x_newi (N' := 8) hx hb (hts _ (n_in wk_124)) hK hP hD hS hA (by decide) (by decide) (Nat.le_of_ble_eq_true rfl) (Nat.le_of_ble_eq_true rfl) (Nat.le_of_ble_eq_true rfl) dk_X5_init_41 (fun q3 H hP hD hS => ?_)
  have hP : va_P D n_cl [(h0, .inr (4, [.null, .null, .null, .int 0, .int 0, .ref q0, .ref q1, .ref q2, .null, .null])), (q0, .inl (cI, 6, .inl (fun _ => 0))), (q1, .inl (cI, 8, .inl (fun _ => 0))), (q2, .inl (cI, 8, .inl (fun _ => 0))), (q3, .inl (cI, 8, .inl (fun _ => 0)))] H := hP
  have hD : va_D A [(h0, .inr (4, [.null, .null, .null, .int 0, .int 0, .ref q0, .ref q1, .ref q2, .null, .null])), (q0, .inl (cI, 6, .inl (fun _ => 0))), (q1, .inl (cI, 8, .inl (fun _ => 0))), (q2, .inl (cI, 8, .inl (fun _ => 0))), (q3, .inl (cI, 8, .inl (fun _ => 0)))] := hD
  refine W.widen (k := 4) (n := 30) (Nat.le_of_ble_eq_true rfl) (Nat.le_of_ble_eq_true rfl) ?_
  refine va_putF (D := D) (ci := 4) (v := .ref q3) (ty := (.array .int)) (C := RX5) (T := TX5) (N := 10) hx hb hts j_X5 tyX5 tyX5_ok nmX5 hown hK hP hD hS 0 rfl rfl 8 (by decide) (hts _ (n_in wk_177)) (fun _ h9 => h9) rfl hin rfl (by decide +kernel) rfl rfl (Nat.le_of_ble_eq_true rfl) dk_X5_init_43 (fun H locs hP hD hS => ?_)
  have hP : va_P D n_cl [(h0, .inr (4, [.null, .null, .null, .int 0, .int 0, .ref q0, .ref q1, .ref q2, .ref q3, .null])), (q0, .inl (cI, 6, .inl (fun _ => 0))), (q1, .inl (cI, 8, .inl (fun _ => 0))), (q2, .inl (cI, 8, .inl (fun _ => 0))), (q3, .inl (cI, 8, .inl (fun _ => 0)))] H := hP
  have hD : va_D A [(h0, .inr (4, [.null, .null, .null, .int 0, .int 0, .ref q0, .ref q1, .ref q2, .ref q3, .null])), (q0, .inl (cI, 6, .inl (fun _ => 0))), (q1, .inl (cI, 8, .inl (fun _ => 0))), (q2, .inl (cI, 8, .inl (fun _ => 0))), (q3, .inl (cI, 8, .inl (fun _ => 0)))] := hD
  refine lv_aload_n hx hb dk_X5_init_46 rfl (lv_at hl 0 rfl) ?_
  refine lv_bipush (v := 8) hx hb dk_X5_init_47 (by decide) ?_
  refine x_newi (N' := 8) hx hb (hts _ (n_in wk_124)) hK hP hD hS hA (by decide) (by decide) (Nat.le_of_ble_eq_true rfl) (Nat.le_of_ble_eq_true rfl) (Nat.le_of_ble_eq_true rfl) dk_X5_init_49 (fun q4 H hP hD hS => ?_)
  have hP : va_P D n_cl [(h0, .inr (4, [.null, .null, .null, .int 0, .int 0, .ref q0, .ref q1, .ref q2, .ref q3, .null])), (q0, .inl (cI, 6, .inl (fun _ => 0))), (q1, .inl (cI, 8, .inl (fun _ => 0))), (q2, .inl (cI, 8, .inl (fun _ => 0))), (q3, .inl (cI, 8, .inl (fun _ => 0))), (q4, .inl (cI, 8, .inl (fun _ => 0)))] H := hP
  have hD : va_D A [(h0, .inr (4, [.null, .null, .null, .int 0, .int 0, .ref q0, .ref q1, .ref q2, .ref q3, .null])), (q0, .inl (cI, 6, .inl (fun _ => 0))), (q1, .inl (cI, 8, .inl (fun _ => 0))), (q2, .inl (cI, 8, .inl (fun _ => 0))), (q3, .inl (cI, 8, .inl (fun _ => 0))), (q4, .inl (cI, 8, .inl (fun _ => 0)))] := hD
  refine W.widen (k := 5) (n := 38) (Nat.le_of_ble_eq_true rfl) (Nat.le_of_ble_eq_true rfl) ?_
  refine va_putF (D := D) (ci := 4) (v := .ref q4) (ty := (.array .int)) (C := RX5) (T := TX5) (N := 10) hx hb hts j_X5 tyX5 tyX5_ok nmX5 hown hK hP hD hS 0 rfl rfl 9 (by decide) (hts _ (n_in wk_179)) (fun _ h9 => h9) rfl hin rfl (by decide +kernel) rfl rfl (Nat.le_of_ble_eq_true rfl) dk_X5_init_51 (fun H locs hP hD hS => ?_)
  have hP : va_P D n_cl [(h0, .inr (4, [.null, .null, .null, .int 0, .int 0, .ref q0, .ref q1, .ref q2, .ref q3, .ref q4])), (q0, .inl (cI, 6, .inl (fun _ => 0))), (q1, .inl (cI, 8, .inl (fun _ => 0))), (q2, .inl (cI, 8, .inl (fun _ => 0))), (q3, .inl (cI, 8, .inl (fun _ => 0))), (q4, .inl (cI, 8, .inl (fun _ => 0)))] H := hP
  have hD : va_D A [(h0, .inr (4, [.null, .null, .null, .int 0, .int 0, .ref q0, .ref q1, .ref q2, .ref q3, .ref q4])), (q0, .inl (cI, 6, .inl (fun _ => 0))), (q1, .inl (cI, 8, .inl (fun _ => 0))), (q2, .inl (cI, 8, .inl (fun _ => 0))), (q3, .inl (cI, 8, .inl (fun _ => 0))), (q4, .inl (cI, 8, .inl (fun _ => 0)))] := hD
  refine lv_aload_n hx hb dk_X5_init_54 rfl (lv_at hl 0 rfl) ?_
  refine lv_aload_n hx hb dk_X5_init_55 rfl (lv_at hl 1 rfl) ?_
  refine va_putF (D := D) (ci := 4) (v := .ref t1) (ty := (.object "BrideDoors$Table")) (C := RX5) (T := TX5) (N := 10) hx hb hts j_X5 tyX5 tyX5_ok nmX5 hown hK hP hD hS 0 rfl rfl 0 (by decide) (hts _ (n_in wk_166)) (fun _ h9 => h9) rfl hin rfl (by decide +kernel) rfl rfl (Nat.le_of_ble_eq_true rfl) dk_X5_init_56 (fun H locs hP hD hS => ?_)
  have hP : va_P D n_cl [(h0, .inr (4, [.ref t1, .null, .null, .int 0, .int 0, .ref q0, .ref q1, .ref q2, .ref q3, .ref q4])), (q0, .inl (cI, 6, .inl (fun _ => 0))), (q1, .inl (cI, 8, .inl (fun _ => 0))), (q2, .inl (cI, 8, .inl (fun _ => 0))), (q3, .inl (cI, 8, .inl (fun _ => 0))), (q4, .inl (cI, 8, .inl (fun _ => 0)))] H := hP
  have hD : va_D A [(h0, .inr (4, [.ref t1, .null, .null, .int 0, .int 0, .ref q0, .ref q1, .ref q2, .ref q3, .ref q4])), (q0, .inl (cI, 6, .inl (fun _ => 0))), (q1, .inl (cI, 8, .inl (fun _ => 0))), (q2, .inl (cI, 8, .inl (fun _ => 0))), (q3, .inl (cI, 8, .inl (fun _ => 0))), (q4, .inl (cI, 8, .inl (fun _ => 0)))] := hD
  refine lv_aload_n hx hb dk_X5_init_59 rfl (lv_at hl 0 rfl) ?_
  refine lv_aload_n hx hb dk_X5_init_60 rfl (lv_at hl 2 rfl) ?_
  refine va_putF (D := D) (ci := 4) (v := .ref t2) (ty := (.object "BrideDoors$Table")) (C := RX5) (T := TX5) (N := 10) hx hb hts j_X5 tyX5 tyX5_ok nmX5 hown hK hP hD hS 0 rfl rfl 1 (by decide) (hts _ (n_in wk_167)) (fun _ h9 => h9) rfl hin rfl (by decide +kernel) rfl rfl (Nat.le_of_ble_eq_true rfl) dk_X5_init_61 (fun H locs hP hD hS => ?_)
  have hP : va_P D n_cl [(h0, .inr (4, [.ref t1, .ref t2, .null, .int 0, .int 0, .ref q0, .ref q1, .ref q2, .ref q3, .ref q4])), (q0, .inl (cI, 6, .inl (fun _ => 0))), (q1, .inl (cI, 8, .inl (fun _ => 0))), (q2, .inl (cI, 8, .inl (fun _ => 0))), (q3, .inl (cI, 8, .inl (fun _ => 0))), (q4, .inl (cI, 8, .inl (fun _ => 0)))] H := hP
  have hD : va_D A [(h0, .inr (4, [.ref t1, .ref t2, .null, .int 0, .int 0, .ref q0, .ref q1, .ref q2, .ref q3, .ref q4])), (q0, .inl (cI, 6, .inl (fun _ => 0))), (q1, .inl (cI, 8, .inl (fun _ => 0))), (q2, .inl (cI, 8, .inl (fun _ => 0))), (q3, .inl (cI, 8, .inl (fun _ => 0))), (q4, .inl (cI, 8, .inl (fun _ => 0)))] := hD
  refine lv_aload_n hx hb dk_X5_init_64 rfl (lv_at hl 0 rfl) ?_
  refine lv_aload_n hx hb dk_X5_init_65 rfl (lv_at hl 3 rfl) ?_
  refine va_put (D := D) (ci := 4) (v := .ref t3) (ty := (.object "BrideDoors$Table")) (C := RX5) (T := TX5) (N := 10) hx hb hts j_X5 tyX5 tyX5_ok nmX5 hown hK hP hD hS 0 rfl rfl 2 (by decide) (hts _ (n_in wk_168)) (fun _ h9 => h9) rfl (by decide +kernel) rfl rfl (Nat.le_of_ble_eq_true rfl) dk_X5_init_66 (fun H locs hP hD hS => ?_)
  have hP : va_P D n_cl [(h0, .inr (4, [.ref t1, .ref t2, .ref t3, .int 0, .int 0, .ref q0, .ref q1, .ref q2, .ref q3, .ref q4])), (q0, .inl (cI, 6, .inl (fun _ => 0))), (q1, .inl (cI, 8, .inl (fun _ => 0))), (q2, .inl (cI, 8, .inl (fun _ => 0))), (q3, .inl (cI, 8, .inl (fun _ => 0))), (q4, .inl (cI, 8, .inl (fun _ => 0)))] H := hP
  have hD : va_D A [(h0, .inr (4, [.ref t1, .ref t2, .ref t3, .int 0, .int 0, .ref q0, .ref q1, .ref q2, .ref q3, .ref q4])), (q0, .inl (cI, 6, .inl (fun _ => 0))), (q1, .inl (cI, 8, .inl (fun _ => 0))), (q2, .inl (cI, 8, .inl (fun _ => 0))), (q3, .inl (cI, 8, .inl (fun _ => 0))), (q4, .inl (cI, 8, .inl (fun _ => 0)))] := hD
  exact W.vret hx hb hr (fun t ht hW => ⟨⟨(), rfl, trivial, q0, q1, q2, q3, q4, by rw [ht]; exact hP, va_K.moved hW.alike hK, hD⟩, hS.F ht⟩) hS.2.2 dk_X5_init_69
