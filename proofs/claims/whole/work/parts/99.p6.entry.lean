/-! what stands at the law's entry -/
theorem x_selT {C : String} {y z : MethodName} {s : State} {args : Array Value} (hy : y.cls ≠ "java/lang/invoke/MethodHandle" ∧ y.cls ≠ "java/lang/invoke/VarHandle") (e : z.cls = y.cls)
    (hsl : (Cond.selects C z z).before args s = true) (hpriv : (Cond.privateMethod y).before args s = true) (hinst : (Cond.instanceMethod y).before args s = true) :
    (Cond.selects C y y).before args s = true := by
  obtain ⟨c, r, m, hc, -, hm, -, mk', hmk', hni⟩ := Cond.selects_spec hsl
  obtain ⟨mk, methM, hnamed, hmethM, -, -⟩ := Cond.instanceMethod_spec hinst
  have hfound : s.methodFound? y.cls y.name y.desc = some mk := State.methodFound?_of_named hnamed hy
  have hcls : mk.cls = m.cls := by
    have h1 := findClass_of_methodNamed hnamed
    have h2 := findClass_of_methodNamed hm
    rw [e] at h2
    exact Option.some.inj (h1.symm.trans h2)
  have hsel : selectMethod {} s.vm c mk = .method mk := selectMethod_private hmethM (Cond.privateMethod_at hpriv mk methM hnamed hmethM)
  simp only [Cond.before, Cond.holds, Cond.value, hc, hfound, hnamed, hsel, hcls, hmk']
  simp; exact hni
theorem x_tb {args : Array Value} {s : State} (h : ∀ w ∈ lw_tbl, w.before args s = true) : ∀ w ∈ n_tb, w.before args s = true := by
  intro w hw
  have hp : (Cond.privateMethod n_tell).before args s = true := h _ (List.mem_of_getElem? (i := 287) (by decide +kernel))
  have hi : (Cond.instanceMethod n_tell).before args s = true := h _ (List.mem_of_getElem? (i := 288) (by decide +kernel))
  have h1 : (Cond.selects "BrideDoors$BrideText" ⟨"BrideDoors$Text", "isFull", "()Z"⟩ ⟨"BrideDoors$Text", "isFull", "()Z"⟩).before args s = true := h _ (List.mem_of_getElem? (i := 277) (by decide +kernel))
  have h2 : (Cond.selects "BrideDoors$HouseText" ⟨"BrideDoors$Text", "isFull", "()Z"⟩ ⟨"BrideDoors$Text", "isFull", "()Z"⟩).before args s = true := h _ (List.mem_of_getElem? (i := 278) (by decide +kernel))
  unfold n_tb at hw
  rcases List.mem_cons.mp hw with rfl | hw
  · exact x_selT (y := n_tell) (z := ⟨"BrideDoors$Text", "isFull", "()Z"⟩) ⟨by decide +kernel, by decide +kernel⟩ rfl h1 hp hi
  · rcases List.mem_cons.mp hw with rfl | hw
    · exact x_selT (y := n_tell) (z := ⟨"BrideDoors$Text", "isFull", "()Z"⟩) ⟨by decide +kernel, by decide +kernel⟩ rfl h2 hp hi
    · exact h w hw
theorem x_tg {args : Array Value} {s : State} (h : ∀ w ∈ n_tb, w.before args s = true) : ∀ w ∈ n_tg, w.before args s = true := fun w hw => h w (List.mem_filter.mp hw).1
theorem tb_150 : Cond.instantiable "BrideDoors$BrideText" 4 ∈ n_tb := List.mem_of_getElem? (i := 150) (by decide +kernel)
theorem tb_126 : Cond.instantiable "BrideDoors$HouseText" 4 ∈ n_tb := List.mem_of_getElem? (i := 126) (by decide +kernel)
theorem tb_203 : Cond.instantiable "BrideDoors$Sheet" 4 ∈ n_tb := List.mem_of_getElem? (i := 203) (by decide +kernel)
theorem tb_96 : Cond.instantiable "BrideDoors$Table" 4 ∈ n_tb := List.mem_of_getElem? (i := 96) (by decide +kernel)
theorem tb_161 : Cond.instantiable "BrideDoors$World" 10 ∈ n_tb := List.mem_of_getElem? (i := 161) (by decide +kernel)
theorem tb_88 : Cond.instantiable "BrideDoors" 13 ∈ n_tb := List.mem_of_getElem? (i := 88) (by decide +kernel)
theorem tb_775 : Cond.instantiable "BrideDoorsModel" 30 ∈ n_tb := List.mem_of_getElem? (i := 775) (by decide +kernel)
theorem tb_124 : Cond.arrayClass .int ∈ n_tb := List.mem_of_getElem? (i := 124) (by decide +kernel)
theorem tb_202 : Cond.arrayOver (.object "BrideDoors$Sheet") ∈ n_tb := List.mem_of_getElem? (i := 202) (by decide +kernel)
theorem tb_102 : Cond.arrayOver (.array .int) ∈ n_tb := List.mem_of_getElem? (i := 102) (by decide +kernel)
theorem tb_751 : Cond.laysStatic "BrideDoors" "HOUSE_YEARS" "[I" ∈ n_tb := List.mem_of_getElem? (i := 751) (by decide +kernel)
theorem tb_70 : Cond.initialized "BrideDoors" ∈ n_tb := List.mem_of_getElem? (i := 70) (by decide +kernel)
theorem tb_762 : Cond.laysStatic "BrideDoors" "DOOR_YEARS" "[I" ∈ n_tb := List.mem_of_getElem? (i := 762) (by decide +kernel)
theorem tb_323 : Cond.laysStatic "java/lang/String" "COMPACT_STRINGS" "Z" ∈ n_tb := List.mem_of_getElem? (i := 323) (by decide +kernel)
theorem tb_78 : Cond.initialized "java/lang/String" ∈ n_tb := List.mem_of_getElem? (i := 78) (by decide +kernel)
theorem tb_309 : Cond.stringRef "BrideDoors$HouseText" 9 "swt" ∈ n_tb := List.mem_of_getElem? (i := 309) (by decide +kernel)
theorem tb_296 : Cond.declares ⟨"BrideDoors$Text", "valueOf", "(II)I"⟩ ∈ n_tb := List.mem_of_getElem? (i := 296) (by decide +kernel)
theorem tb_292 : Cond.methodLinkNest "BrideDoors$Text" 46 ⟨"BrideDoors", "placeAmong", "(ICI)I"⟩ "BrideDoors" ∈ n_tb := List.mem_of_getElem? (i := 292) (by decide +kernel)
theorem tb_301 : Cond.methodLinkNest "BrideDoors$BrideText" 9 ⟨"BrideDoors", "placeAmong", "(ICI)I"⟩ "BrideDoors" ∈ n_tb := List.mem_of_getElem? (i := 301) (by decide +kernel)
theorem tb_302 : Cond.methodLinkNest "BrideDoors$BrideText" 13 ⟨"BrideDoors", "heightOfSign", "(I)I"⟩ "BrideDoors" ∈ n_tb := List.mem_of_getElem? (i := 302) (by decide +kernel)
theorem tb_396 : Cond.methodLinkNest "BrideDoors$HouseText" 17 ⟨"BrideDoors", "heightOfSign", "(I)I"⟩ "BrideDoors" ∈ n_tb := List.mem_of_getElem? (i := 396) (by decide +kernel)
theorem tb_426 : Cond.methodLinkNest "BrideDoors$Table" 24 ⟨"BrideDoors", "isBelow", "(II)Z"⟩ "BrideDoors" ∈ n_tb := List.mem_of_getElem? (i := 426) (by decide +kernel)
theorem tb_482 : Cond.methodLinkNest "BrideDoors$World" 53 ⟨"BrideDoors", "isSet", "(II)Z"⟩ "BrideDoors" ∈ n_tb := List.mem_of_getElem? (i := 482) (by decide +kernel)
theorem tb_699 : Cond.methodLinkNest "BrideDoors$Sheet" 32 ⟨"BrideDoors", "isBelow", "(II)Z"⟩ "BrideDoors" ∈ n_tb := List.mem_of_getElem? (i := 699) (by decide +kernel)
theorem tb_204 : Cond.methodLinkNest "BrideDoors" 75 ⟨"BrideDoors$Sheet", "<init>", "()V"⟩ "BrideDoors" ∈ n_tb := List.mem_of_getElem? (i := 204) (by decide +kernel)
theorem x_K {args : Array Value} {s : State} (h : ∀ w ∈ n_tb, w.before args s = true) : ∃ (D : va_G) (cI cS cA : ClassId), va_K D n_cl (n_tys cI cS cA) s := by
  have hg := x_tg h
  obtain ⟨c0, i0, k0⟩ := u_known (C := RX0) (T := TX0) (N := 4) hg j_X0 (n := 4) (h _ tb_150)
  obtain ⟨c1, i1, k1⟩ := u_known (C := RX1) (T := TX1) (N := 4) hg j_X1 (n := 4) (h _ tb_126)
  obtain ⟨c2, i2, k2⟩ := u_known (C := RX2) (T := TX2) (N := 4) hg j_X2 (n := 4) (h _ tb_203)
  obtain ⟨c3, i3, k3⟩ := u_known (C := RX3) (T := TX3) (N := 4) hg j_X3 (n := 4) (h _ tb_96)
  obtain ⟨c4, i4, k4⟩ := u_known (C := RX5) (T := TX5) (N := 10) hg j_X5 (n := 10) (h _ tb_161)
  obtain ⟨c5, i5, k5⟩ := u_known (C := RX6) (T := TX6) (N := 13) hg j_X6 (n := 13) (h _ tb_88)
  obtain ⟨c6, i6, k6⟩ := u_known (C := RX7) (T := TX7) (N := 30) hg j_X7 (n := 30) (h _ tb_775)
  obtain ⟨cI, kI, oI, f1, f2, f3⟩ := Cond.arrayClass_spec (h _ tb_124)
  obtain ⟨oS, cS, kS, g1, -, g2, g3, g4⟩ := Cond.arrayOver_spec (h _ tb_202)
  obtain ⟨oA, cA, kA, e1, -, e2, e3, e4⟩ := x_AOs (h _ tb_102)
  refine ⟨(fun c => ([c0, c1, c2, c3, c4, c5, c6] : List ClassId).getD c c0, fun c => ([i0, i1, i2, i3, i4, i5, i6] : List (Nat → Nat)).getD c i0), cI, cS, cA, fun c q hq => ?_, fun k q hk => ?_⟩
  · match c, hq with
    | 0, hq => cases hq; exact k0
    | 1, hq => cases hq; exact k1
    | 2, hq => cases hq; exact k2
    | 3, hq => cases hq; exact k3
    | 4, hq => cases hq; exact k4
    | 5, hq => cases hq; exact k5
    | 6, hq => cases hq; exact k6
    | c + 7, hq => simp [n_cl] at hq
  · match k, hk with
    | 0, hk => cases hk; exact ⟨fun N z => ⟨(fun q hq => by cases hq), kI, f2, oI, f3⟩, f1⟩
    | 1, hk => cases hk; exact ⟨fun N z => ⟨(fun q hq => by cases hq), kS, g2, oS, g3⟩, kS, oS, g2, g3, g1, g4⟩
    | 2, hk => cases hk; exact ⟨fun N z => ⟨(fun q hq => by cases hq), kA, e2, oA, e3⟩, e4⟩
    | k + 3, hk => simp [n_tys] at hk
theorem x_i32 {t : Option Value} {x y : Int32} (h : t = some (.int x)) (e : x = y) : t = some (.int y) := by rw [h, e]
set_option maxRecDepth 100000 in
theorem x_SK {b L : Nat} {xs : Nat → Int32} {s : State} {D : va_G} {cI cS cA : ClassId} (hK : va_K D n_cl (n_tys cI cS cA) s) (h : ∀ w ∈ n_tb, w.before #[Value.ref b] s = true) (hX : va_X b L xs s s.heap) (hbl : b < s.heap.size) (hgv : (Jvm.Cond.and given_1 narrow_1).before #[Value.ref b] s = true) :
    ∃ a0 a1 a3 a4 : Nat, ∀ φ : Nat → Nat, φ 200 = a0 → φ 201 = a1 → φ 202 = b → φ 203 = a3 → φ 204 = a4 → s_K φ D cI cS cA L xs (fun q => s.heap.size ≤ q) s s.heap := by
  have hs := flat_of_before _ hgv
  have hA : ∀ a : Nat, a < s.heap.size → ¬ s.heap.size ≤ a := fun a q => Nat.not_le.mpr q
  obtain ⟨a0, a0e, a0T⟩ := va_Tof (tm := .static "BrideDoors" "HOUSE_YEARS" "[I") (ty := .int) (N := 4) (f := fun j => .int (Int32.ofInt (([0, 7, 15, 23] : List Int).getD j 0))) (A := fun q => s.heap.size ≤ q) (by decide) (hs _ (by decide +kernel)) (va_eqt (z := Int32.ofNat 4) (hs _ (by decide +kernel))) (fun j hj => by
    rcases (show j = 0 ∨ j = 1 ∨ j = 2 ∨ j = 3 by omega) with rfl | rfl | rfl | rfl
    · exact x_i32 (x := 0) (va_eqt (hs _ (by decide +kernel))) (by decide)
    · exact x_i32 (x := 7) (va_eqt (hs _ (by decide +kernel))) (by decide)
    · exact x_i32 (x := 15) (va_eqt (hs _ (by decide +kernel))) (by decide)
    · exact x_i32 (x := 23) (va_eqt (hs _ (by decide +kernel))) (by decide)) hA
  obtain ⟨a1, a1e, a1T⟩ := va_Tof (tm := .static "BrideDoors" "DOOR_YEARS" "[I") (ty := .int) (N := 3) (f := fun j => .int (Int32.ofInt (([7, 15, 23] : List Int).getD j 0))) (A := fun q => s.heap.size ≤ q) (by decide) (hs _ (by decide +kernel)) (va_eqt (z := Int32.ofNat 3) (hs _ (by decide +kernel))) (fun j hj => by
    rcases (show j = 0 ∨ j = 1 ∨ j = 2 by omega) with rfl | rfl | rfl
    · exact x_i32 (x := 7) (va_eqt (hs _ (by decide +kernel))) (by decide)
    · exact x_i32 (x := 15) (va_eqt (hs _ (by decide +kernel))) (by decide)
    · exact x_i32 (x := 23) (va_eqt (hs _ (by decide +kernel))) (by decide)) hA
  have z0 := va_Zof (C := "BrideDoors") (n := "HOUSE_YEARS") (d := "[I") (A := fun q => s.heap.size ≤ q) (h _ tb_751) (h _ tb_70) a0e hA
  have z1 := va_Zof (C := "BrideDoors") (n := "DOOR_YEARS") (d := "[I") (A := fun q => s.heap.size ≤ q) (h _ tb_762) (h _ tb_70) a1e hA
  have z2 := va_Zof (C := "java/lang/String") (n := "COMPACT_STRINGS") (d := "Z") (v := .int 1) (A := fun q => s.heap.size ≤ q) (h _ tb_323) (h _ tb_78) (va_eqt (z := 1) (hs _ (by decide +kernel))) hA
  obtain ⟨adK, adV, hV, hE⟩ := vk_Sof (args := #[Value.ref b]) (s := s) (N := 1) (tm := fun _ => .string "BrideDoors$HouseText" 9) (len := [3]) (byt := [[115, 119, 116]]) (A := fun q => s.heap.size ≤ q)
    (fun i hi => by obtain rfl : i = 0 := (by omega); decide)
    (fun i hi => hs _ (by decide +kernel))
    (fun i hi => hs _ (by decide +kernel))
    (fun i hi => hs _ (by decide +kernel))
    (fun i hi => by obtain rfl : i = 0 := (by omega); exact hs _ (by decide +kernel))
    (fun i hi j hj => by
      obtain rfl : i = 0 := by omega
      have hj3 : j < 3 := hj
      rcases (show j = 0 ∨ j = 1 ∨ j = 2 by omega) with rfl | rfl | rfl <;> exact hs _ (by decide +kernel))
    (fun i j hi hj hne => absurd (show i = j by omega) hne) hA
  obtain ⟨scr, x1, x2, x3, x4, x5⟩ := hX
  refine ⟨a0, a1, adK 0, adV 0, fun φ p0 p1 p2 p3 p4 => ⟨hK, by rw [p0]; exact a0T, by rw [p1]; exact a1T, by rw [p2]; exact ⟨scr, x1, x2, x3, by omega, by rw [x4], x5, hA b hbl⟩, by rw [p0]; exact z0, by rw [p1]; exact z1, z2, by rw [p3]; exact vk_R.of (h _ tb_309) (hE 0 (by decide)), ⟨fun i hi => ?_, fun i j hi hj _ => by omega⟩, fun w hw => ?_, va_Nw.of rfl (h _ tb_296)⟩⟩
  · obtain rfl : i = 0 := by omega
    rw [p3, p4]
    exact hV.1 0 hi
  · simp only [n_nests, List.mem_cons, List.not_mem_nil, or_false] at hw
    rcases hw with rfl | rfl | rfl | rfl | rfl | rfl | rfl
    · exact va_Nw.of rfl (h _ tb_292)
    · exact va_Nw.of rfl (h _ tb_301)
    · exact va_Nw.of rfl (h _ tb_302)
    · exact va_Nw.of rfl (h _ tb_396)
    · exact va_Nw.of rfl (h _ tb_426)
    · exact va_Nw.of rfl (h _ tb_482)
    · exact va_Nw.of rfl (h _ tb_699)
