section XE
variable {p : Program} {l : Launch} {e : Env} {s : State} {m : MethodId} {below : List Frame} {meth : Method} {c : Code}
theorem x_n197 : code = n_c 197 := by unfold n_c; rw [List.getD_eq_getElem?_getD, show n_cs[197]? = some code from rfl]; rfl
theorem x_z32 {v : Int} (h : v = 0) : (0 : Int32) = Int32.ofInt v := by rw [h]; decide
theorem x_ok9 : s_ok (9, 0) := ⟨fun h => absurd h (by decide), fun h => absurd h (by decide), fun _ _ => Or.inr ⟨by decide, by decide +kernel⟩, fun h => absurd h (by decide), fun h => absurd h (by decide), fun h => absurd h (by decide), by decide⟩
theorem x_ok10 : s_ok (10, 47) := ⟨fun h => absurd h (by decide), fun h => absurd h (by decide), fun _ _ => Or.inr ⟨by decide, by decide +kernel⟩, fun h => absurd h (by decide), fun h => absurd h (by decide), fun h => absurd h (by decide), by decide⟩
theorem x_ok11 : s_ok (11, 202) := ⟨fun h => absurd h (by decide), fun h => absurd h (by decide), fun _ h => absurd h (by decide), fun _ => Or.inr (Or.inr (Or.inr rfl)), fun h => absurd h (by decide), fun h => absurd h (by decide), by decide⟩
theorem x_sL {φ : Nat → Nat} {ls : Array Slot} (hl : lv_has ls 4 [(2, .ref (φ 47)), (1, .ref (φ 0)), (0, .ref (φ 202))]) : s_L φ ls (m_mx 197) [(11, 202), (9, 0), (10, 47), (14, 0)] := by
  refine ⟨hl.1, hl.2.1, fun i hi => ?_⟩
  match i, hi with
  | 0, _ => exact ⟨x_ok11, hl.2.2 (0, .ref (φ 202)) (by simp)⟩
  | 1, _ => exact ⟨x_ok9, hl.2.2 (1, .ref (φ 0)) (by simp)⟩
  | 2, _ => exact ⟨x_ok10, hl.2.2 (2, .ref (φ 47)) (by simp)⟩
  | 3, hi => exact absurd rfl hi
  | i + 4, hi => exact absurd rfl hi
theorem x_end {b L : Nat} {xs : Nat → Int32} {φ : Nat → Nat} {D : va_G} {cI cS cA : ClassId} {H : Heap} {locs : List Loc} {ls : Array Slot} {cells slots : Nat} (hL : L ≤ 3072) (C0 : lw_At p s m meth c b L xs) (hfit : ∀ k t, m_bl k t ≠ [] → k_fit k (n_lb k t) (m_bl k t) = true) (hlb : ∀ z, n_lb z 0 = 0 ∨ z = 197)
    (hφ : ∀ i j, i < 71 → j < 71 → φ i = φ j → i = j) {A : Nat → Prop} (hAe : A = fun q => s.heap.size ≤ q) (hA : ∀ i, i < 71 → A (φ i)) (hSK : s_K φ D cI cS cA L xs (fun q => s.heap.size ≤ q) s s.heap) (hP : va_P D n_cl (s_ws φ cI cS cA (x_m0 L xs)) H) (hS : va_S A s.heap H locs)
    (hl : lv_has ls 4 [(2, .ref (φ 47)), (1, .ref (φ 0)), (0, .ref (φ 202))]) (hc : cells ≤ 600000) (hs : slots ≤ 7302250) : W p l e room_1 s m #[Value.ref b] below meth c H locs cells slots (lw_Z below #[Value.ref b] s) (F0 m 16 ls []) := by
  subst hAe
  obtain ⟨hx, hb, hr, hml, hown, hts, -, -, hlocks, -⟩ := C0
  obtain ⟨f, ⟨r, μ'⟩, hex, hr1⟩ := law_all (μ := x_m0 L xs) x_inv (x_scr hL)
  have hr1 : r = (0, 1) := hr1
  subst hr1
  have hlb0 : n_lb 197 0 = 16 := by decide +kernel
  have hne : m_bl 197 0 ≠ [] := by decide +kernel
  have hft := hfit 197 0 hne
  rw [hlb0] at hft
  have hcode : c.code = n_c 197 := hb.trans x_n197
  have hsC : s_C φ D cI cS cA L xs p room_1 s m #[Value.ref b] meth c 197 (fun q => s.heap.size ≤ q) cells slots := ⟨hx, hcode, hml, hown, x_tg (x_tb hts), hr, hlocks, by decide +kernel, by decide +kernel, hc, hs, hSK⟩
  refine s_main hφ hfit hlb (by omega) f 197 (m_bl 197 0) _ [] _ _ _ hex p e room_1 s m #[Value.ref b] below meth c (fun q => s.heap.size ≤ q) cells slots _ 16 H locs ls hsC hA hft hP (x_mo hL) hS (x_sL hl) (fun v hv => absurd hv List.not_mem_nil) ?_
  intro H' locs' pc' lsB hP' hmo' hS' hok hret
  have hdg : decode code pc' = .ok (.ireturn, 1) := by
    rcases hret with ⟨-, h, -⟩ | ⟨h, -⟩ | ⟨h, -⟩ | ⟨h, -⟩
    · exact h
    · exact absurd h (by decide)
    · exact absurd h (by decide)
    · exact absurd h (by decide)
  refine va_forget (fun q hq => hS'.2.2 q hq) ?_
  refine W.widen (k := 600000) (n := 7302250) hc hs ?_
  exact lw_ret hx hb hr hlocks hdg
end XE
