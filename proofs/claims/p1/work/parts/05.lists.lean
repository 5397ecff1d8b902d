set_option maxHeartbeats 4000000 in
set_option maxRecDepth 100000 in
/-- ArrayList.size() of a new list -/
theorem c_size (l : Launch) (hfl : l.stackTraces = false) (D : va_G) (G : kG) (sz : Nat) (a0 : Nat) : Met l yJx4a65c_size_8abf5 (kWs yJx4a65c_size_8abf5 cJx4a65c_size_8abf5 1 (some .int)) ({ frames := 0, cells := 0, slots := 0, locals := 0 } : Room) (va_Pc [.ref a0] (kPre D G [] (fun _ => False) [(a0, .inr (6, [.int 0, .ref G.1, .int 0]))] sz)) (va_Qi (fun (r : Int32) (u : Unit) => r = 0) (fun (u : Unit) (t : State) => True) (fun _ => False)) 0 0 (fun _ => False) := by
  refine kMetR (ret := (some .int)) (cc := cJx4a65c_size_8abf5) (R := RJx4a65c)  rfl (by decide) (by decide) ?_
  intro p e s m below meth c ls hx hb hr hml hts hown hlocks hP hK hD hst hS hl
  have hl : lv_has ls 1 [(0, .ref a0)] := hl
  refine lv_aload_n hx hb dJx4a65c_size_8abf5_0 rfl (lv_at hl 0 rfl) ?_
  refine va_get (ci := 6) (v := .int 0) (C := RJx4a65c) (T := TJx4a65c) (N := 3) hx hb hts iaJx4a65c hown hK hP 0 rfl rfl 2 (by decide) (hts _ q1) (fun _ h9 => h9) rfl dJx4a65c_size_8abf5_1 ?_
  refine W.widen (k := 0) (n := 0) (Nat.le_of_ble_eq_true rfl) (Nat.le_of_ble_eq_true rfl) ?_
  exact W.iret (v := 0) hx hb hr (fun t ht hW => ⟨⟨0, (), rfl, rfl, trivial⟩, hS.F ht⟩) (fun z hz => hS.2.2 z hz) dJx4a65c_size_8abf5_4
