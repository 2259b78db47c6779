/-! rows for the constructors -/
theorem j_X0 : ∀ w ∈ u_ws RX0 TX0 4, w ∈ n_tg := fun w hw => n_tgm (i_X0 w hw)
theorem j_X1 : ∀ w ∈ u_ws RX1 TX1 4, w ∈ n_tg := fun w hw => n_tgm (i_X1 w hw)
theorem j_X2 : ∀ w ∈ u_ws RX2 TX2 4, w ∈ n_tg := fun w hw => n_tgm (i_X2 w hw)
theorem j_X3 : ∀ w ∈ u_ws RX3 TX3 4, w ∈ n_tg := fun w hw => n_tgm (i_X3 w hw)
theorem j_X5 : ∀ w ∈ u_ws RX5 TX5 10, w ∈ n_tg := fun w hw => n_tgm (i_X5 w hw)
theorem j_X6 : ∀ w ∈ u_ws RX6 TX6 13, w ∈ n_tg := fun w hw => n_tgm (i_X6 w hw)
theorem j_X7 : ∀ w ∈ u_ws RX7 TX7 30, w ∈ n_tg := fun w hw => n_tgm (i_X7 w hw)
theorem x_good {pl : Nat} {y : MethodName} {b : ByteArray} {mx : Nat} (h : n_at pl (.code y b mx none) = true) : GoodIn n_tg (.code y b mx none :: n_tg) := n_good (fun w hw => by
  rcases List.mem_cons.mp hw with rfl | hw
  · exact n_in h
  · exact hw)
section XR1
variable {p : Program} {l : Launch} {e : Env} {R : Room} {s : State} {m : MethodId} {args : Array Value} {below : List Frame} {meth : Method} {c : Code} {H : Heap} {locs : List Loc} {cells slots : Nat} {Q : State → Prop}
variable {cc : ByteArray} {pc : Nat} {ls : Array Slot} {rest : List Value} {D : va_G} {cl : List vw_C} {A : Nat → Prop} {ws : va_W} {H0 : Heap} {cI cS cA : ClassId}
theorem x_newi (hexec : p.tables.exec = Jvm.exec) (hb : c.code = cc) (harr : (Cond.arrayClass .int).before args s = true) (hK : va_K D cl (n_tys cI cS cA) s) (hP : va_P D cl ws H) (hD : va_D A ws) (hS : va_S A H0 H locs) (hA : ∀ q, H0.size ≤ q → A q) {n : Int32} {N' : Nat} (hn : ¬ n < 0) (hN : n.toNatClampNeg = N') (hbytes : N' * 4 ≤ 536870912) (hcells : cells + 1 ≤ R.cells) (hslots : slots + N' ≤ R.slots) (hdg : decode cc pc = .ok (.newarray .int, 2))
    (kk : ∀ (q : Nat) (H1 : Heap), va_P D cl (ws ++ [(q, .inl (cI, N', .inl (fun _ => 0)))]) H1 → va_D A (ws ++ [(q, .inl (cI, N', .inl (fun _ => 0)))]) → va_S A H0 H1 locs → W p l e R s m args below meth c H1 locs (cells + 1) (slots + N') Q (F0 m (pc + 2) ls (.ref q :: rest))) : W p l e R s m args below meth c H locs cells slots Q (F0 m pc ls (.int n :: rest)) := by
  refine va_newa (atype := .int) (ty := .int) (a0 := (N', .inl (fun _ => 0))) hexec hb harr rfl hK hP hD hS hA (fun cA => rfl) hn hN hbytes hcells hslots hdg (fun q cA' H1 hK1 hP1 hD1 hS1 => ?_)
  have e : cA' = cI := Option.some.inj ((va_nm_int (hK1.2 3 _ rfl).2).symm.trans (va_nm_int (hK.2 0 _ rfl).2))
  subst e
  exact kk q H1 hP1 hD1 hS1
theorem x_newq {own : String} {index : Nat} (hexec : p.tables.exec = Jvm.exec) (hb : c.code = cc) (hown : s.vm.findClass own = some m.cls) (hclink : (Cond.classLink own index "BrideDoors$Sheet").before args s = true) (hover : va_AO "BrideDoors$Sheet" s) (hK : va_K D cl (n_tys cI cS cA) s) (hP : va_P D cl ws H) (hD : va_D A ws) (hS : va_S A H0 H locs) (hA : ∀ q, H0.size ≤ q → A q) {n : Int32} {N' : Nat} (hn : ¬ n < 0) (hN : n.toNatClampNeg = N') (hbytes : N' * 4 ≤ 536870912) (hcells : cells + 1 ≤ R.cells) (hslots : slots + N' ≤ R.slots) (hdg : decode cc pc = .ok (.anewarray index, 3))
    (kk : ∀ (q : Nat) (H1 : Heap), va_P D cl (ws ++ [(q, .inl (cS, N', .inr (.inr (.inr (.inr (fun _ => none))))))]) H1 → va_D A (ws ++ [(q, .inl (cS, N', .inr (.inr (.inr (.inr (fun _ => none))))))]) → va_S A H0 H1 locs → W p l e R s m args below meth c H1 locs (cells + 1) (slots + N') Q (F0 m (pc + 3) ls (.ref q :: rest))) : W p l e R s m args below meth c H locs cells slots Q (F0 m pc ls (.int n :: rest)) := by
  refine va_newq hexec hb hown hclink hover hK hP hD hS hA hn hN hbytes hcells hslots hdg (fun q cA' H1 hK1 hP1 hD1 hS1 => ?_)
  have e : cA' = cS := Option.some.inj ((va_nmO (hK1.2 3 _ rfl).2 rfl).symm.trans (va_nmO (hK.2 1 _ rfl).2 rfl))
  subst e
  exact kk q H1 hP1 hD1 hS1
end XR1
