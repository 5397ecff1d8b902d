set_option maxHeartbeats 4000000 in
set_option maxRecDepth 100000 in
/-- in(x, lo, hi) -/
theorem c_X16_in (l : Launch) (hfl : l.stackTraces = false) (D : va_G) (G : kG) (sz : Nat) (x : Int32) (lo : Int32) (hi : Int32) : Met l yX16_in (kWs yX16_in cX16_in 3 (some .boolean)) ({ frames := 0, cells := 0, slots := 0, locals := 0 } : Room) (va_Pc [.int x, .int lo, .int hi] (kPre D G [] (fun _ => False) [] sz)) (va_Qi (fun (r : Int32) (u : Unit) => (lo ≤ x ∧ x ≤ hi ∧ r = 1) ∨ (¬ (lo ≤ x ∧ x ≤ hi) ∧ r = 0)) (fun (u : Unit) (t : State) => True) (fun _ => False)) 0 0 (fun _ => False) := by
  refine kMetR (ret := (some .boolean)) (cc := cX16_in) (R := RX16)  rfl (by decide) (by decide) ?_
  intro p e s m below meth c ls hx hb hr hml hts hown hlocks hP hK hD hst hS hl
  have hl : lv_has ls 3 [(0, .int x), (1, .int lo), (2, .int hi)] := hl
  refine lv_iload_n hx hb dX16_in_0 rfl (lv_at hl 0 rfl) ?_
  refine lv_iload_n hx hb dX16_in_1 rfl (lv_at hl 1 rfl) ?_
  refine lv_icmp_lt (tgt := 14) hx hb dX16_in_2 (by decide) (fun c1 => ?_) (fun c1 => ?_)
  · skip
    refine lv_iconst (v := 0) hx hb dX16_in_14 (by decide) ?_
    refine W.widen (k := 0) (n := 0) (Nat.le_of_ble_eq_true rfl) (Nat.le_of_ble_eq_true rfl) ?_
    exact W.zret (v := 0) hx hb hr (by decide) (fun t ht hW => ⟨⟨0, (), rfl, (by first | exact Or.inl ⟨kGe c1, kLe c1, rfl⟩ | exact Or.inr ⟨fun h9 => kLt c1 h9.1, rfl⟩ | exact Or.inr ⟨fun h9 => kLt c1 h9.2, rfl⟩), trivial⟩, hS.F ht⟩) (fun z hz => hS.2.2 z hz) dX16_in_15
  · skip
    refine lv_iload_n hx hb dX16_in_5 rfl (lv_at hl 0 rfl) ?_
    refine lv_iload_n hx hb dX16_in_6 rfl (lv_at hl 2 rfl) ?_
    refine lv_icmp_gt (tgt := 14) hx hb dX16_in_7 (by decide) (fun c2 => ?_) (fun c2 => ?_)
    · skip
      refine lv_iconst (v := 0) hx hb dX16_in_14 (by decide) ?_
      refine W.widen (k := 0) (n := 0) (Nat.le_of_ble_eq_true rfl) (Nat.le_of_ble_eq_true rfl) ?_
      exact W.zret (v := 0) hx hb hr (by decide) (fun t ht hW => ⟨⟨0, (), rfl, (by first | exact Or.inl ⟨kGe c1, kLe c2, rfl⟩ | exact Or.inr ⟨fun h9 => kLt c1 h9.1, rfl⟩ | exact Or.inr ⟨fun h9 => kLt c2 h9.2, rfl⟩), trivial⟩, hS.F ht⟩) (fun z hz => hS.2.2 z hz) dX16_in_15
    · skip
      refine lv_iconst (v := 1) hx hb dX16_in_10 (by decide) ?_
      refine lv_goto (tgt := 15) hx hb dX16_in_11 (by decide) ?_
      refine W.widen (k := 0) (n := 0) (Nat.le_of_ble_eq_true rfl) (Nat.le_of_ble_eq_true rfl) ?_
      exact W.zret (v := 1) hx hb hr (by decide) (fun t ht hW => ⟨⟨1, (), rfl, (by first | exact Or.inl ⟨kGe c1, kLe c2, rfl⟩ | exact Or.inr ⟨fun h9 => kLt c1 h9.1, rfl⟩ | exact Or.inr ⟨fun h9 => kLt c2 h9.2, rfl⟩), trivial⟩, hS.F ht⟩) (fun z hz => hS.2.2 z hz) dX16_in_15
set_option maxHeartbeats 4000000 in
set_option maxRecDepth 100000 in
/-- in(x, 0, -1): never -/
theorem c_X16_in0 (l : Launch) (hfl : l.stackTraces = false) (D : va_G) (G : kG) (sz : Nat) (x : Int32) : Met l yX16_in (kWs yX16_in cX16_in 3 (some .boolean)) ({ frames := 0, cells := 0, slots := 0, locals := 0 } : Room) (va_Pc [.int x, .int 0, .int (-1)] (kPre D G [] (fun _ => False) [] sz)) (va_Qi (fun (r : Int32) (u : Unit) => r = 0) (fun (u : Unit) (t : State) => True) (fun _ => False)) 0 0 (fun _ => False) := by
  refine kMetR (ret := (some .boolean)) (cc := cX16_in) (R := RX16)  rfl (by decide) (by decide) ?_
  intro p e s m below meth c ls hx hb hr hml hts hown hlocks hP hK hD hst hS hl
  have hl : lv_has ls 3 [(0, .int x), (1, .int 0), (2, .int (-1))] := hl
  refine lv_iload_n hx hb dX16_in_0 rfl (lv_at hl 0 rfl) ?_
  refine lv_iload_n hx hb dX16_in_1 rfl (lv_at hl 1 rfl) ?_
  refine lv_icmp_lt (tgt := 14) hx hb dX16_in_2 (by decide) (fun c3 => ?_) (fun c3 => ?_)
  · skip
    refine lv_iconst (v := 0) hx hb dX16_in_14 (by decide) ?_
    refine W.widen (k := 0) (n := 0) (Nat.le_of_ble_eq_true rfl) (Nat.le_of_ble_eq_true rfl) ?_
    exact W.zret (v := 0) hx hb hr (by decide) (fun t ht hW => ⟨⟨0, (), rfl, rfl, trivial⟩, hS.F ht⟩) (fun z hz => hS.2.2 z hz) dX16_in_15
  · skip
    refine lv_iload_n hx hb dX16_in_5 rfl (lv_at hl 0 rfl) ?_
    refine lv_iload_n hx hb dX16_in_6 rfl (lv_at hl 2 rfl) ?_
    refine lv_icmp_gt (tgt := 14) hx hb dX16_in_7 (by decide) (fun _ => ?_) (fun h9 => absurd (kAb c3) h9)
    refine lv_iconst (v := 0) hx hb dX16_in_14 (by decide) ?_
    refine W.widen (k := 0) (n := 0) (Nat.le_of_ble_eq_true rfl) (Nat.le_of_ble_eq_true rfl) ?_
    exact W.zret (v := 0) hx hb hr (by decide) (fun t ht hW => ⟨⟨0, (), rfl, rfl, trivial⟩, hS.F ht⟩) (fun z hz => hS.2.2 z hz) dX16_in_15
set_option maxHeartbeats 4000000 in
set_option maxRecDepth 100000 in
/-- isTube(x) of a new shop: no -/
theorem c_X16_isTube (l : Launch) (hfl : l.stackTraces = false) (D : va_G) (G : kG) (sz : Nat) (a0 : Nat) (pa : Nat) (m2 : Nat) (m3 : Nat) (m4 : Nat) (m5 : Nat) (m6 : Nat) (m7 : Nat) (th : Int32) (x : Int32) : Met l yX16_isTube (kWs yX16_isTube cX16_isTube 2 (some .boolean)) ({ frames := 1, cells := 0, slots := 0, locals := 22 } : Room) (va_Pc [.ref a0, .int x] (kPre D G [] (fun _ => False) [(a0, .inr (10, [.int th, .ref pa, .ref m2, .ref m3, .ref m4, .ref m5, .ref m6, .ref m7, .int 0])), (m2, .inr (6, [.int 0, .ref G.1, .int 0]))] sz)) (va_Qi (fun (r : Int32) (u : Unit) => r = 0) (fun (u : Unit) (t : State) => True) (fun _ => False)) 0 0 (fun _ => False) := by
  refine kMetR (ret := (some .boolean)) (cc := cX16_isTube) (R := RX16)  rfl (by decide) (by decide) ?_
  intro p e s m below meth c ls hx hb hr hml hts hown hlocks hP hK hD hst hS hl
  have hl : lv_has ls 2 [(0, .ref a0), (1, .int x)] := hl
  refine lv_iload_n hx hb dX16_isTube_0 rfl (lv_at hl 1 rfl) ?_
  refine lv_iconst (v := 0) hx hb dX16_isTube_1 (by decide) ?_
  refine lv_aload_n hx hb dX16_isTube_2 rfl (lv_at hl 0 rfl) ?_
  refine va_get (ci := 10) (v := .ref m2) (C := RX16) (T := TX16) (N := 9) hx hb hts iaX16 hown hK hP 0 rfl rfl 2 (by decide) (hts _ q4) (fun _ h9 => h9) rfl dX16_isTube_3 ?_
  have hPc := hP.sub (ws' := [(m2, .inr (6, [.int 0, .ref G.1, .int 0]))]) [1] rfl
  have hDc := hD.sub (ws' := [(m2, .inr (6, [.int 0, .ref G.1, .int 0]))]) [1] (by decide) rfl
  have hKc := hK.sub (tys' := []) [] rfl
  refine va_calli (va_runV (As := []) (rest := [.int 0, .int x]) ⟨hx, hb, hml, hown, hts⟩ (c_size l hfl D G s.heap.size m2) (cwV 0 hts (kGV q6 q7 q8 q5 q0) rfl rfl rfl (by decide +kernel) ⟨Nat.le_of_ble_eq_true rfl, Nat.le_of_ble_eq_true rfl⟩) (kPreV hst hS hPc hKc hDc (fun q9 h9 => kNever h9) (va_recv hKc hPc (ci := 6) (q0 := 0) rfl rfl)) rfl rfl hl.1 rfl (lv_room (Nat.le_of_ble_eq_true rfl)) dX16_isTube_6 ⟨Nat.le_of_ble_eq_true rfl, Nat.le_of_ble_eq_true rfl⟩) hS (fun q9 _ h9 => kNever h9) (fun q9 h9 => kNever h9) (fun r4 u4 t4 H4 locs ht hvm hw hB hz1 hk1 hS => ?_)
  have hw4 : r4 = 0 := hw
  have hP := kKept hP hk1
  obtain rfl : r4 = 0 := hw4
  refine lv_iconst (v := 1) hx hb dX16_isTube_9 (by decide) ?_
  refine lv_isub hx hb dX16_isTube_10 ?_
  refine lv_topi (fun y5 ey5 => ?_)
  obtain rfl : y5 = (-1) := ey5.trans (by decide)
  have hPc := hP.sub (ws' := []) [] rfl
  have hDc := hD.sub (ws' := []) [] (by decide) rfl
  have hKc := hK.sub (tys' := []) [] rfl
  refine va_calli (va_runS (As := [.int x, .int 0, .int (-1)]) (rest := []) ⟨hx, hb, hml, hown, hts⟩ (c_X16_in0 l hfl D G H4.size x) (va_cwS 3 hts (kGS q10 q11 q9 q2) rfl rfl rfl (by decide +kernel) ⟨Nat.le_of_ble_eq_true rfl, Nat.le_of_ble_eq_true rfl⟩) (kPreS hst hS hPc hKc hDc (fun q9 h9 => kNever h9)) rfl rfl hl.1 rfl (lv_room (Nat.le_of_ble_eq_true rfl)) dX16_isTube_11 ⟨Nat.le_of_ble_eq_true rfl, Nat.le_of_ble_eq_true rfl⟩) hS (fun q9 _ h9 => kNever h9) (fun q9 h9 => kNever h9) (fun r6 u6 t6 H6 locs ht hvm hw hB hz1 hk1 hS => ?_)
  have hw6 : r6 = 0 := hw
  have hP := kKept hP hk1
  obtain rfl : r6 = 0 := hw6
  refine W.widen (k := 0) (n := 0) (Nat.le_of_ble_eq_true rfl) (Nat.le_of_ble_eq_true rfl) ?_
  exact W.zret (v := 0) hx hb hr (by decide) (fun t ht hW => ⟨⟨0, (), rfl, rfl, trivial⟩, hS.F ht⟩) (fun z hz => hS.2.2 z hz) dX16_isTube_14
set_option maxHeartbeats 4000000 in
set_option maxRecDepth 100000 in
/-- isTransformer(x) of a new shop: no -/
theorem c_X16_isTransformer (l : Launch) (hfl : l.stackTraces = false) (D : va_G) (G : kG) (sz : Nat) (a0 : Nat) (pa : Nat) (m2 : Nat) (m3 : Nat) (m4 : Nat) (m5 : Nat) (m6 : Nat) (m7 : Nat) (th : Int32) (x : Int32) : Met l yX16_isTransformer (kWs yX16_isTransformer cX16_isTransformer 2 (some .boolean)) ({ frames := 1, cells := 0, slots := 0, locals := 22 } : Room) (va_Pc [.ref a0, .int x] (kPre D G [] (fun _ => False) [(a0, .inr (10, [.int th, .ref pa, .ref m2, .ref m3, .ref m4, .ref m5, .ref m6, .ref m7, .int 0])), (m3, .inr (6, [.int 0, .ref G.1, .int 0]))] sz)) (va_Qi (fun (r : Int32) (u : Unit) => r = 0) (fun (u : Unit) (t : State) => True) (fun _ => False)) 0 0 (fun _ => False) := by
  refine kMetR (ret := (some .boolean)) (cc := cX16_isTransformer) (R := RX16)  rfl (by decide) (by decide) ?_
  intro p e s m below meth c ls hx hb hr hml hts hown hlocks hP hK hD hst hS hl
  have hl : lv_has ls 2 [(0, .ref a0), (1, .int x)] := hl
  refine lv_iload_n hx hb dX16_isTransformer_0 rfl (lv_at hl 1 rfl) ?_
  refine lv_iconst (v := 0) hx hb dX16_isTransformer_1 (by decide) ?_
  refine lv_aload_n hx hb dX16_isTransformer_2 rfl (lv_at hl 0 rfl) ?_
  refine va_get (ci := 10) (v := .ref m3) (C := RX16) (T := TX16) (N := 9) hx hb hts iaX16 hown hK hP 0 rfl rfl 3 (by decide) (hts _ q13) (fun _ h9 => h9) rfl dX16_isTransformer_3 ?_
  have hPc := hP.sub (ws' := [(m3, .inr (6, [.int 0, .ref G.1, .int 0]))]) [1] rfl
  have hDc := hD.sub (ws' := [(m3, .inr (6, [.int 0, .ref G.1, .int 0]))]) [1] (by decide) rfl
  have hKc := hK.sub (tys' := []) [] rfl
  refine va_calli (va_runV (As := []) (rest := [.int 0, .int x]) ⟨hx, hb, hml, hown, hts⟩ (c_size l hfl D G s.heap.size m3) (cwV 0 hts (kGV q6 q7 q8 q5 q0) rfl rfl rfl (by decide +kernel) ⟨Nat.le_of_ble_eq_true rfl, Nat.le_of_ble_eq_true rfl⟩) (kPreV hst hS hPc hKc hDc (fun q9 h9 => kNever h9) (va_recv hKc hPc (ci := 6) (q0 := 0) rfl rfl)) rfl rfl hl.1 rfl (lv_room (Nat.le_of_ble_eq_true rfl)) dX16_isTransformer_6 ⟨Nat.le_of_ble_eq_true rfl, Nat.le_of_ble_eq_true rfl⟩) hS (fun q9 _ h9 => kNever h9) (fun q9 h9 => kNever h9) (fun r7 u7 t7 H7 locs ht hvm hw hB hz1 hk1 hS => ?_)
  have hw7 : r7 = 0 := hw
  have hP := kKept hP hk1
  obtain rfl : r7 = 0 := hw7
  refine lv_iconst (v := 1) hx hb dX16_isTransformer_9 (by decide) ?_
  refine lv_isub hx hb dX16_isTransformer_10 ?_
  refine lv_topi (fun y8 ey8 => ?_)
  obtain rfl : y8 = (-1) := ey8.trans (by decide)
  have hPc := hP.sub (ws' := []) [] rfl
  have hDc := hD.sub (ws' := []) [] (by decide) rfl
  have hKc := hK.sub (tys' := []) [] rfl
  refine va_calli (va_runS (As := [.int x, .int 0, .int (-1)]) (rest := []) ⟨hx, hb, hml, hown, hts⟩ (c_X16_in0 l hfl D G H7.size x) (va_cwS 3 hts (kGS q10 q11 q9 q2) rfl rfl rfl (by decide +kernel) ⟨Nat.le_of_ble_eq_true rfl, Nat.le_of_ble_eq_true rfl⟩) (kPreS hst hS hPc hKc hDc (fun q9 h9 => kNever h9)) rfl rfl hl.1 rfl (lv_room (Nat.le_of_ble_eq_true rfl)) dX16_isTransformer_11 ⟨Nat.le_of_ble_eq_true rfl, Nat.le_of_ble_eq_true rfl⟩) hS (fun q9 _ h9 => kNever h9) (fun q9 h9 => kNever h9) (fun r9 u9 t9 H9 locs ht hvm hw hB hz1 hk1 hS => ?_)
  have hw9 : r9 = 0 := hw
  have hP := kKept hP hk1
  obtain rfl : r9 = 0 := hw9
  refine W.widen (k := 0) (n := 0) (Nat.le_of_ble_eq_true rfl) (Nat.le_of_ble_eq_true rfl) ?_
  exact W.zret (v := 0) hx hb hr (by decide) (fun t ht hW => ⟨⟨0, (), rfl, rfl, trivial⟩, hS.F ht⟩) (fun z hz => hS.2.2 z hz) dX16_isTransformer_14
set_option maxHeartbeats 4000000 in
set_option maxRecDepth 100000 in
/-- isSign(x) of a new shop: no -/
theorem c_X16_isSign (l : Launch) (hfl : l.stackTraces = false) (D : va_G) (G : kG) (sz : Nat) (a0 : Nat) (pa : Nat) (m2 : Nat) (m3 : Nat) (m4 : Nat) (m5 : Nat) (m6 : Nat) (m7 : Nat) (th : Int32) (x : Int32) : Met l yX16_isSign (kWs yX16_isSign cX16_isSign 2 (some .boolean)) ({ frames := 1, cells := 0, slots := 0, locals := 22 } : Room) (va_Pc [.ref a0, .int x] (kPre D G [] (fun _ => False) [(a0, .inr (10, [.int th, .ref pa, .ref m2, .ref m3, .ref m4, .ref m5, .ref m6, .ref m7, .int 0])), (m4, .inr (6, [.int 0, .ref G.1, .int 0]))] sz)) (va_Qi (fun (r : Int32) (u : Unit) => r = 0) (fun (u : Unit) (t : State) => True) (fun _ => False)) 0 0 (fun _ => False) := by
  refine kMetR (ret := (some .boolean)) (cc := cX16_isSign) (R := RX16)  rfl (by decide) (by decide) ?_
  intro p e s m below meth c ls hx hb hr hml hts hown hlocks hP hK hD hst hS hl
  have hl : lv_has ls 2 [(0, .ref a0), (1, .int x)] := hl
  refine lv_iload_n hx hb dX16_isSign_0 rfl (lv_at hl 1 rfl) ?_
  refine lv_iconst (v := 0) hx hb dX16_isSign_1 (by decide) ?_
  refine lv_aload_n hx hb dX16_isSign_2 rfl (lv_at hl 0 rfl) ?_
  refine va_get (ci := 10) (v := .ref m4) (C := RX16) (T := TX16) (N := 9) hx hb hts iaX16 hown hK hP 0 rfl rfl 4 (by decide) (hts _ q15) (fun _ h9 => h9) rfl dX16_isSign_3 ?_
  have hPc := hP.sub (ws' := [(m4, .inr (6, [.int 0, .ref G.1, .int 0]))]) [1] rfl
  have hDc := hD.sub (ws' := [(m4, .inr (6, [.int 0, .ref G.1, .int 0]))]) [1] (by decide) rfl
  have hKc := hK.sub (tys' := []) [] rfl
  refine va_calli (va_runV (As := []) (rest := [.int 0, .int x]) ⟨hx, hb, hml, hown, hts⟩ (c_size l hfl D G s.heap.size m4) (cwV 0 hts (kGV q6 q7 q8 q5 q0) rfl rfl rfl (by decide +kernel) ⟨Nat.le_of_ble_eq_true rfl, Nat.le_of_ble_eq_true rfl⟩) (kPreV hst hS hPc hKc hDc (fun q9 h9 => kNever h9) (va_recv hKc hPc (ci := 6) (q0 := 0) rfl rfl)) rfl rfl hl.1 rfl (lv_room (Nat.le_of_ble_eq_true rfl)) dX16_isSign_6 ⟨Nat.le_of_ble_eq_true rfl, Nat.le_of_ble_eq_true rfl⟩) hS (fun q9 _ h9 => kNever h9) (fun q9 h9 => kNever h9) (fun r10 u10 t10 H10 locs ht hvm hw hB hz1 hk1 hS => ?_)
  have hw10 : r10 = 0 := hw
  have hP := kKept hP hk1
  obtain rfl : r10 = 0 := hw10
  refine lv_iconst (v := 1) hx hb dX16_isSign_9 (by decide) ?_
  refine lv_isub hx hb dX16_isSign_10 ?_
  refine lv_topi (fun y11 ey11 => ?_)
  obtain rfl : y11 = (-1) := ey11.trans (by decide)
  have hPc := hP.sub (ws' := []) [] rfl
  have hDc := hD.sub (ws' := []) [] (by decide) rfl
  have hKc := hK.sub (tys' := []) [] rfl
  refine va_calli (va_runS (As := [.int x, .int 0, .int (-1)]) (rest := []) ⟨hx, hb, hml, hown, hts⟩ (c_X16_in0 l hfl D G H10.size x) (va_cwS 3 hts (kGS q10 q11 q9 q2) rfl rfl rfl (by decide +kernel) ⟨Nat.le_of_ble_eq_true rfl, Nat.le_of_ble_eq_true rfl⟩) (kPreS hst hS hPc hKc hDc (fun q9 h9 => kNever h9)) rfl rfl hl.1 rfl (lv_room (Nat.le_of_ble_eq_true rfl)) dX16_isSign_11 ⟨Nat.le_of_ble_eq_true rfl, Nat.le_of_ble_eq_true rfl⟩) hS (fun q9 _ h9 => kNever h9) (fun q9 h9 => kNever h9) (fun r12 u12 t12 H12 locs ht hvm hw hB hz1 hk1 hS => ?_)
  have hw12 : r12 = 0 := hw
  have hP := kKept hP hk1
  obtain rfl : r12 = 0 := hw12
  refine W.widen (k := 0) (n := 0) (Nat.le_of_ble_eq_true rfl) (Nat.le_of_ble_eq_true rfl) ?_
  exact W.zret (v := 0) hx hb hr (by decide) (fun t ht hW => ⟨⟨0, (), rfl, rfl, trivial⟩, hS.F ht⟩) (fun z hz => hS.2.2 z hz) dX16_isSign_14
set_option maxHeartbeats 4000000 in
set_option maxRecDepth 100000 in
/-- isCam(x) of a new shop: no -/
theorem c_X16_isCam (l : Launch) (hfl : l.stackTraces = false) (D : va_G) (G : kG) (sz : Nat) (a0 : Nat) (pa : Nat) (m2 : Nat) (m3 : Nat) (m4 : Nat) (m5 : Nat) (m6 : Nat) (m7 : Nat) (th : Int32) (x : Int32) : Met l yX16_isCam (kWs yX16_isCam cX16_isCam 2 (some .boolean)) ({ frames := 1, cells := 0, slots := 0, locals := 22 } : Room) (va_Pc [.ref a0, .int x] (kPre D G [] (fun _ => False) [(a0, .inr (10, [.int th, .ref pa, .ref m2, .ref m3, .ref m4, .ref m5, .ref m6, .ref m7, .int 0])), (m5, .inr (6, [.int 0, .ref G.1, .int 0]))] sz)) (va_Qi (fun (r : Int32) (u : Unit) => r = 0) (fun (u : Unit) (t : State) => True) (fun _ => False)) 0 0 (fun _ => False) := by
  refine kMetR (ret := (some .boolean)) (cc := cX16_isCam) (R := RX16)  rfl (by decide) (by decide) ?_
  intro p e s m below meth c ls hx hb hr hml hts hown hlocks hP hK hD hst hS hl
  have hl : lv_has ls 2 [(0, .ref a0), (1, .int x)] := hl
  refine lv_iload_n hx hb dX16_isCam_0 rfl (lv_at hl 1 rfl) ?_
  refine lv_iconst (v := 0) hx hb dX16_isCam_1 (by decide) ?_
  refine lv_aload_n hx hb dX16_isCam_2 rfl (lv_at hl 0 rfl) ?_
  refine va_get (ci := 10) (v := .ref m5) (C := RX16) (T := TX16) (N := 9) hx hb hts iaX16 hown hK hP 0 rfl rfl 5 (by decide) (hts _ q17) (fun _ h9 => h9) rfl dX16_isCam_3 ?_
  have hPc := hP.sub (ws' := [(m5, .inr (6, [.int 0, .ref G.1, .int 0]))]) [1] rfl
  have hDc := hD.sub (ws' := [(m5, .inr (6, [.int 0, .ref G.1, .int 0]))]) [1] (by decide) rfl
  have hKc := hK.sub (tys' := []) [] rfl
  refine va_calli (va_runV (As := []) (rest := [.int 0, .int x]) ⟨hx, hb, hml, hown, hts⟩ (c_size l hfl D G s.heap.size m5) (cwV 0 hts (kGV q6 q7 q8 q5 q0) rfl rfl rfl (by decide +kernel) ⟨Nat.le_of_ble_eq_true rfl, Nat.le_of_ble_eq_true rfl⟩) (kPreV hst hS hPc hKc hDc (fun q9 h9 => kNever h9) (va_recv hKc hPc (ci := 6) (q0 := 0) rfl rfl)) rfl rfl hl.1 rfl (lv_room (Nat.le_of_ble_eq_true rfl)) dX16_isCam_6 ⟨Nat.le_of_ble_eq_true rfl, Nat.le_of_ble_eq_true rfl⟩) hS (fun q9 _ h9 => kNever h9) (fun q9 h9 => kNever h9) (fun r13 u13 t13 H13 locs ht hvm hw hB hz1 hk1 hS => ?_)
  have hw13 : r13 = 0 := hw
  have hP := kKept hP hk1
  obtain rfl : r13 = 0 := hw13
  refine lv_iconst (v := 1) hx hb dX16_isCam_9 (by decide) ?_
  refine lv_isub hx hb dX16_isCam_10 ?_
  refine lv_topi (fun y14 ey14 => ?_)
  obtain rfl : y14 = (-1) := ey14.trans (by decide)
  have hPc := hP.sub (ws' := []) [] rfl
  have hDc := hD.sub (ws' := []) [] (by decide) rfl
  have hKc := hK.sub (tys' := []) [] rfl
  refine va_calli (va_runS (As := [.int x, .int 0, .int (-1)]) (rest := []) ⟨hx, hb, hml, hown, hts⟩ (c_X16_in0 l hfl D G H13.size x) (va_cwS 3 hts (kGS q10 q11 q9 q2) rfl rfl rfl (by decide +kernel) ⟨Nat.le_of_ble_eq_true rfl, Nat.le_of_ble_eq_true rfl⟩) (kPreS hst hS hPc hKc hDc (fun q9 h9 => kNever h9)) rfl rfl hl.1 rfl (lv_room (Nat.le_of_ble_eq_true rfl)) dX16_isCam_11 ⟨Nat.le_of_ble_eq_true rfl, Nat.le_of_ble_eq_true rfl⟩) hS (fun q9 _ h9 => kNever h9) (fun q9 h9 => kNever h9) (fun r15 u15 t15 H15 locs ht hvm hw hB hz1 hk1 hS => ?_)
  have hw15 : r15 = 0 := hw
  have hP := kKept hP hk1
  obtain rfl : r15 = 0 := hw15
  refine W.widen (k := 0) (n := 0) (Nat.le_of_ble_eq_true rfl) (Nat.le_of_ble_eq_true rfl) ?_
  exact W.zret (v := 0) hx hb hr (by decide) (fun t ht hW => ⟨⟨0, (), rfl, rfl, trivial⟩, hS.F ht⟩) (fun z hz => hS.2.2 z hz) dX16_isCam_14
set_option maxHeartbeats 4000000 in
set_option maxRecDepth 100000 in
/-- fails(0) -/
theorem c_X16_fails0 (l : Launch) (hfl : l.stackTraces = false) (D : va_G) (G : kG) (sz : Nat) (a0 : Nat) (pa : Nat) (m2 : Nat) (m3 : Nat) (m4 : Nat) (m5 : Nat) (m6 : Nat) (m7 : Nat) (th : Int32) : Met l yX16_fails (kWs yX16_fails cX16_fails 2 (some .boolean)) ({ frames := 0, cells := 0, slots := 0, locals := 0 } : Room) (va_Pc [.ref a0, .int 0] (kPre D G [] (va_A [(a0, .inr (10, [.int th, .ref pa, .ref m2, .ref m3, .ref m4, .ref m5, .ref m6, .ref m7, .int 0]))] sz) [(a0, .inr (10, [.int th, .ref pa, .ref m2, .ref m3, .ref m4, .ref m5, .ref m6, .ref m7, .int 0]))] sz)) (va_Qi (fun (r : Int32) (u : Unit) => r = 0) (fun (u : Unit) (t : State) => va_P D kCl [(a0, .inr (10, [.int 0, .ref pa, .ref m2, .ref m3, .ref m4, .ref m5, .ref m6, .ref m7, .int 0]))] t.heap ∧ va_D (va_A [(a0, .inr (10, [.int th, .ref pa, .ref m2, .ref m3, .ref m4, .ref m5, .ref m6, .ref m7, .int 0]))] sz) [(a0, .inr (10, [.int 0, .ref pa, .ref m2, .ref m3, .ref m4, .ref m5, .ref m6, .ref m7, .int 0]))]) (va_A [(a0, .inr (10, [.int th, .ref pa, .ref m2, .ref m3, .ref m4, .ref m5, .ref m6, .ref m7, .int 0]))] sz)) 0 0 (va_A [(a0, .inr (10, [.int th, .ref pa, .ref m2, .ref m3, .ref m4, .ref m5, .ref m6, .ref m7, .int 0]))] sz) := by
  refine kMetM (ret := (some .boolean)) (cc := cX16_fails) (R := RX16) (Qc := fun A => (va_Qi (fun (r : Int32) (u : Unit) => r = 0) (fun (u : Unit) (t : State) => va_P D kCl [(a0, .inr (10, [.int 0, .ref pa, .ref m2, .ref m3, .ref m4, .ref m5, .ref m6, .ref m7, .int 0]))] t.heap ∧ va_D A [(a0, .inr (10, [.int 0, .ref pa, .ref m2, .ref m3, .ref m4, .ref m5, .ref m6, .ref m7, .int 0]))]) A)) rfl (by decide) (by decide) ?_
  intro p e s m below meth c ls A hx hb hr hml hts hown hlocks hin hP hK hD hst hA hS hl
  have hl : lv_has ls 2 [(0, .ref a0), (1, .int 0)] := hl
  refine lv_aload_n hx hb dX16_fails_0 rfl (lv_at hl 0 rfl) ?_
  refine lv_iload_n hx hb dX16_fails_1 rfl (lv_at hl 1 rfl) ?_
  refine va_put (ci := 10) (v := .int 0) (C := RX16) (T := TX16) (N := 9) hx hb hts iaX16 tyX16 tyX16_ok nmX16 hown hK hP hD hS 0 rfl rfl 0 (by decide) (hts _ q19) (fun _ h9 => h9) rfl (by decide +kernel) rfl rfl (Nat.le_of_ble_eq_true rfl) dX16_fails_2 (fun H16 locs hP hD hS => ?_)
  have hP : va_P D kCl [(a0, .inr (10, [.int 0, .ref pa, .ref m2, .ref m3, .ref m4, .ref m5, .ref m6, .ref m7, .int 0]))] H16 := hP
  have hD : va_D A [(a0, .inr (10, [.int 0, .ref pa, .ref m2, .ref m3, .ref m4, .ref m5, .ref m6, .ref m7, .int 0]))] := hD
  refine lv_iload_n hx hb dX16_fails_5 rfl (lv_at hl 1 rfl) ?_
  refine lv_if_le (tgt := 13) hx hb dX16_fails_6 (by decide) (fun _ => ?_) (fun h9 => absurd (by decide) h9)
  refine lv_iconst (v := 0) hx hb dX16_fails_13 (by decide) ?_
  refine W.widen (k := 0) (n := 0) (Nat.le_of_ble_eq_true rfl) (Nat.le_of_ble_eq_true rfl) ?_
  exact W.zret (v := 0) hx hb hr (by decide) (fun t ht hW => ⟨⟨0, (), rfl, rfl, ⟨by rw [ht]; exact hP, hD⟩⟩, hS.F ht⟩) (fun z hz => hS.2.2 z hz) dX16_fails_14
set_option maxHeartbeats 4000000 in
set_option maxRecDepth 100000 in
/-- fails(1) -/
theorem c_X16_fails1 (l : Launch) (hfl : l.stackTraces = false) (D : va_G) (G : kG) (sz : Nat) (a0 : Nat) (pa : Nat) (m2 : Nat) (m3 : Nat) (m4 : Nat) (m5 : Nat) (m6 : Nat) (m7 : Nat) (th : Int32) : Met l yX16_fails (kWs yX16_fails cX16_fails 2 (some .boolean)) ({ frames := 0, cells := 0, slots := 0, locals := 0 } : Room) (va_Pc [.ref a0, .int 1] (kPre D G [] (va_A [(a0, .inr (10, [.int th, .ref pa, .ref m2, .ref m3, .ref m4, .ref m5, .ref m6, .ref m7, .int 0]))] sz) [(a0, .inr (10, [.int th, .ref pa, .ref m2, .ref m3, .ref m4, .ref m5, .ref m6, .ref m7, .int 0]))] sz)) (va_Qi (fun (r : Int32) (u : Unit) => r = 1) (fun (u : Unit) (t : State) => va_P D kCl [(a0, .inr (10, [.int 1, .ref pa, .ref m2, .ref m3, .ref m4, .ref m5, .ref m6, .ref m7, .int 0]))] t.heap ∧ va_D (va_A [(a0, .inr (10, [.int th, .ref pa, .ref m2, .ref m3, .ref m4, .ref m5, .ref m6, .ref m7, .int 0]))] sz) [(a0, .inr (10, [.int 1, .ref pa, .ref m2, .ref m3, .ref m4, .ref m5, .ref m6, .ref m7, .int 0]))]) (va_A [(a0, .inr (10, [.int th, .ref pa, .ref m2, .ref m3, .ref m4, .ref m5, .ref m6, .ref m7, .int 0]))] sz)) 0 0 (va_A [(a0, .inr (10, [.int th, .ref pa, .ref m2, .ref m3, .ref m4, .ref m5, .ref m6, .ref m7, .int 0]))] sz) := by
  refine kMetM (ret := (some .boolean)) (cc := cX16_fails) (R := RX16) (Qc := fun A => (va_Qi (fun (r : Int32) (u : Unit) => r = 1) (fun (u : Unit) (t : State) => va_P D kCl [(a0, .inr (10, [.int 1, .ref pa, .ref m2, .ref m3, .ref m4, .ref m5, .ref m6, .ref m7, .int 0]))] t.heap ∧ va_D A [(a0, .inr (10, [.int 1, .ref pa, .ref m2, .ref m3, .ref m4, .ref m5, .ref m6, .ref m7, .int 0]))]) A)) rfl (by decide) (by decide) ?_
  intro p e s m below meth c ls A hx hb hr hml hts hown hlocks hin hP hK hD hst hA hS hl
  have hl : lv_has ls 2 [(0, .ref a0), (1, .int 1)] := hl
  refine lv_aload_n hx hb dX16_fails_0 rfl (lv_at hl 0 rfl) ?_
  refine lv_iload_n hx hb dX16_fails_1 rfl (lv_at hl 1 rfl) ?_
  refine va_put (ci := 10) (v := .int 1) (C := RX16) (T := TX16) (N := 9) hx hb hts iaX16 tyX16 tyX16_ok nmX16 hown hK hP hD hS 0 rfl rfl 0 (by decide) (hts _ q19) (fun _ h9 => h9) rfl (by decide +kernel) rfl rfl (Nat.le_of_ble_eq_true rfl) dX16_fails_2 (fun H17 locs hP hD hS => ?_)
  have hP : va_P D kCl [(a0, .inr (10, [.int 1, .ref pa, .ref m2, .ref m3, .ref m4, .ref m5, .ref m6, .ref m7, .int 0]))] H17 := hP
  have hD : va_D A [(a0, .inr (10, [.int 1, .ref pa, .ref m2, .ref m3, .ref m4, .ref m5, .ref m6, .ref m7, .int 0]))] := hD
  refine lv_iload_n hx hb dX16_fails_5 rfl (lv_at hl 1 rfl) ?_
  refine lv_if_le (tgt := 13) hx hb dX16_fails_6 (by decide) (fun h9 => absurd h9 (by decide)) (fun _ => ?_)
  refine lv_iconst (v := 1) hx hb dX16_fails_9 (by decide) ?_
  refine lv_goto (tgt := 14) hx hb dX16_fails_10 (by decide) ?_
  refine W.widen (k := 0) (n := 0) (Nat.le_of_ble_eq_true rfl) (Nat.le_of_ble_eq_true rfl) ?_
  exact W.zret (v := 1) hx hb hr (by decide) (fun t ht hW => ⟨⟨1, (), rfl, rfl, ⟨by rw [ht]; exact hP, hD⟩⟩, hS.F ht⟩) (fun z hz => hS.2.2 z hz) dX16_fails_14
set_option maxHeartbeats 4000000 in
set_option maxRecDepth 100000 in
/-- fails(2) -/
theorem c_X16_fails2 (l : Launch) (hfl : l.stackTraces = false) (D : va_G) (G : kG) (sz : Nat) (a0 : Nat) (pa : Nat) (m2 : Nat) (m3 : Nat) (m4 : Nat) (m5 : Nat) (m6 : Nat) (m7 : Nat) (th : Int32) : Met l yX16_fails (kWs yX16_fails cX16_fails 2 (some .boolean)) ({ frames := 0, cells := 0, slots := 0, locals := 0 } : Room) (va_Pc [.ref a0, .int 2] (kPre D G [] (va_A [(a0, .inr (10, [.int th, .ref pa, .ref m2, .ref m3, .ref m4, .ref m5, .ref m6, .ref m7, .int 0]))] sz) [(a0, .inr (10, [.int th, .ref pa, .ref m2, .ref m3, .ref m4, .ref m5, .ref m6, .ref m7, .int 0]))] sz)) (va_Qi (fun (r : Int32) (u : Unit) => r = 1) (fun (u : Unit) (t : State) => va_P D kCl [(a0, .inr (10, [.int 2, .ref pa, .ref m2, .ref m3, .ref m4, .ref m5, .ref m6, .ref m7, .int 0]))] t.heap ∧ va_D (va_A [(a0, .inr (10, [.int th, .ref pa, .ref m2, .ref m3, .ref m4, .ref m5, .ref m6, .ref m7, .int 0]))] sz) [(a0, .inr (10, [.int 2, .ref pa, .ref m2, .ref m3, .ref m4, .ref m5, .ref m6, .ref m7, .int 0]))]) (va_A [(a0, .inr (10, [.int th, .ref pa, .ref m2, .ref m3, .ref m4, .ref m5, .ref m6, .ref m7, .int 0]))] sz)) 0 0 (va_A [(a0, .inr (10, [.int th, .ref pa, .ref m2, .ref m3, .ref m4, .ref m5, .ref m6, .ref m7, .int 0]))] sz) := by
  refine kMetM (ret := (some .boolean)) (cc := cX16_fails) (R := RX16) (Qc := fun A => (va_Qi (fun (r : Int32) (u : Unit) => r = 1) (fun (u : Unit) (t : State) => va_P D kCl [(a0, .inr (10, [.int 2, .ref pa, .ref m2, .ref m3, .ref m4, .ref m5, .ref m6, .ref m7, .int 0]))] t.heap ∧ va_D A [(a0, .inr (10, [.int 2, .ref pa, .ref m2, .ref m3, .ref m4, .ref m5, .ref m6, .ref m7, .int 0]))]) A)) rfl (by decide) (by decide) ?_
  intro p e s m below meth c ls A hx hb hr hml hts hown hlocks hin hP hK hD hst hA hS hl
  have hl : lv_has ls 2 [(0, .ref a0), (1, .int 2)] := hl
  refine lv_aload_n hx hb dX16_fails_0 rfl (lv_at hl 0 rfl) ?_
  refine lv_iload_n hx hb dX16_fails_1 rfl (lv_at hl 1 rfl) ?_
  refine va_put (ci := 10) (v := .int 2) (C := RX16) (T := TX16) (N := 9) hx hb hts iaX16 tyX16 tyX16_ok nmX16 hown hK hP hD hS 0 rfl rfl 0 (by decide) (hts _ q19) (fun _ h9 => h9) rfl (by decide +kernel) rfl rfl (Nat.le_of_ble_eq_true rfl) dX16_fails_2 (fun H18 locs hP hD hS => ?_)
  have hP : va_P D kCl [(a0, .inr (10, [.int 2, .ref pa, .ref m2, .ref m3, .ref m4, .ref m5, .ref m6, .ref m7, .int 0]))] H18 := hP
  have hD : va_D A [(a0, .inr (10, [.int 2, .ref pa, .ref m2, .ref m3, .ref m4, .ref m5, .ref m6, .ref m7, .int 0]))] := hD
  refine lv_iload_n hx hb dX16_fails_5 rfl (lv_at hl 1 rfl) ?_
  refine lv_if_le (tgt := 13) hx hb dX16_fails_6 (by decide) (fun h9 => absurd h9 (by decide)) (fun _ => ?_)
  refine lv_iconst (v := 1) hx hb dX16_fails_9 (by decide) ?_
  refine lv_goto (tgt := 14) hx hb dX16_fails_10 (by decide) ?_
  refine W.widen (k := 0) (n := 0) (Nat.le_of_ble_eq_true rfl) (Nat.le_of_ble_eq_true rfl) ?_
  exact W.zret (v := 1) hx hb hr (by decide) (fun t ht hW => ⟨⟨1, (), rfl, rfl, ⟨by rw [ht]; exact hP, hD⟩⟩, hS.F ht⟩) (fun z hz => hS.2.2 z hz) dX16_fails_14
set_option maxHeartbeats 4000000 in
set_option maxRecDepth 100000 in
/-- fails(3) -/
theorem c_X16_fails3 (l : Launch) (hfl : l.stackTraces = false) (D : va_G) (G : kG) (sz : Nat) (a0 : Nat) (pa : Nat) (m2 : Nat) (m3 : Nat) (m4 : Nat) (m5 : Nat) (m6 : Nat) (m7 : Nat) (th : Int32) : Met l yX16_fails (kWs yX16_fails cX16_fails 2 (some .boolean)) ({ frames := 0, cells := 0, slots := 0, locals := 0 } : Room) (va_Pc [.ref a0, .int 3] (kPre D G [] (va_A [(a0, .inr (10, [.int th, .ref pa, .ref m2, .ref m3, .ref m4, .ref m5, .ref m6, .ref m7, .int 0]))] sz) [(a0, .inr (10, [.int th, .ref pa, .ref m2, .ref m3, .ref m4, .ref m5, .ref m6, .ref m7, .int 0]))] sz)) (va_Qi (fun (r : Int32) (u : Unit) => r = 1) (fun (u : Unit) (t : State) => va_P D kCl [(a0, .inr (10, [.int 3, .ref pa, .ref m2, .ref m3, .ref m4, .ref m5, .ref m6, .ref m7, .int 0]))] t.heap ∧ va_D (va_A [(a0, .inr (10, [.int th, .ref pa, .ref m2, .ref m3, .ref m4, .ref m5, .ref m6, .ref m7, .int 0]))] sz) [(a0, .inr (10, [.int 3, .ref pa, .ref m2, .ref m3, .ref m4, .ref m5, .ref m6, .ref m7, .int 0]))]) (va_A [(a0, .inr (10, [.int th, .ref pa, .ref m2, .ref m3, .ref m4, .ref m5, .ref m6, .ref m7, .int 0]))] sz)) 0 0 (va_A [(a0, .inr (10, [.int th, .ref pa, .ref m2, .ref m3, .ref m4, .ref m5, .ref m6, .ref m7, .int 0]))] sz) := by
  refine kMetM (ret := (some .boolean)) (cc := cX16_fails) (R := RX16) (Qc := fun A => (va_Qi (fun (r : Int32) (u : Unit) => r = 1) (fun (u : Unit) (t : State) => va_P D kCl [(a0, .inr (10, [.int 3, .ref pa, .ref m2, .ref m3, .ref m4, .ref m5, .ref m6, .ref m7, .int 0]))] t.heap ∧ va_D A [(a0, .inr (10, [.int 3, .ref pa, .ref m2, .ref m3, .ref m4, .ref m5, .ref m6, .ref m7, .int 0]))]) A)) rfl (by decide) (by decide) ?_
  intro p e s m below meth c ls A hx hb hr hml hts hown hlocks hin hP hK hD hst hA hS hl
  have hl : lv_has ls 2 [(0, .ref a0), (1, .int 3)] := hl
  refine lv_aload_n hx hb dX16_fails_0 rfl (lv_at hl 0 rfl) ?_
  refine lv_iload_n hx hb dX16_fails_1 rfl (lv_at hl 1 rfl) ?_
  refine va_put (ci := 10) (v := .int 3) (C := RX16) (T := TX16) (N := 9) hx hb hts iaX16 tyX16 tyX16_ok nmX16 hown hK hP hD hS 0 rfl rfl 0 (by decide) (hts _ q19) (fun _ h9 => h9) rfl (by decide +kernel) rfl rfl (Nat.le_of_ble_eq_true rfl) dX16_fails_2 (fun H19 locs hP hD hS => ?_)
  have hP : va_P D kCl [(a0, .inr (10, [.int 3, .ref pa, .ref m2, .ref m3, .ref m4, .ref m5, .ref m6, .ref m7, .int 0]))] H19 := hP
  have hD : va_D A [(a0, .inr (10, [.int 3, .ref pa, .ref m2, .ref m3, .ref m4, .ref m5, .ref m6, .ref m7, .int 0]))] := hD
  refine lv_iload_n hx hb dX16_fails_5 rfl (lv_at hl 1 rfl) ?_
  refine lv_if_le (tgt := 13) hx hb dX16_fails_6 (by decide) (fun h9 => absurd h9 (by decide)) (fun _ => ?_)
  refine lv_iconst (v := 1) hx hb dX16_fails_9 (by decide) ?_
  refine lv_goto (tgt := 14) hx hb dX16_fails_10 (by decide) ?_
  refine W.widen (k := 0) (n := 0) (Nat.le_of_ble_eq_true rfl) (Nat.le_of_ble_eq_true rfl) ?_
  exact W.zret (v := 1) hx hb hr (by decide) (fun t ht hW => ⟨⟨1, (), rfl, rfl, ⟨by rw [ht]; exact hP, hD⟩⟩, hS.F ht⟩) (fun z hz => hS.2.2 z hz) dX16_fails_14
set_option maxHeartbeats 4000000 in
set_option maxRecDepth 100000 in
/-- failsTube(x) of a new shop: yes -/
theorem c_X16_failsTube (l : Launch) (hfl : l.stackTraces = false) (D : va_G) (G : kG) (sz : Nat) (a0 : Nat) (pa : Nat) (m2 : Nat) (m3 : Nat) (m4 : Nat) (m5 : Nat) (m6 : Nat) (m7 : Nat) (th : Int32) (x : Int32) : Met l yX16_failsTube (kWs yX16_failsTube cX16_failsTube 2 (some .boolean)) ({ frames := 2, cells := 0, slots := 0, locals := 43 } : Room) (va_Pc [.ref a0, .int x] (kPre D G [] (va_A [(a0, .inr (10, [.int th, .ref pa, .ref m2, .ref m3, .ref m4, .ref m5, .ref m6, .ref m7, .int 0])), (m2, .inr (6, [.int 0, .ref G.1, .int 0]))] sz) [(a0, .inr (10, [.int th, .ref pa, .ref m2, .ref m3, .ref m4, .ref m5, .ref m6, .ref m7, .int 0])), (m2, .inr (6, [.int 0, .ref G.1, .int 0]))] sz)) (va_Qi (fun (r : Int32) (u : Unit) => r = 1) (fun (u : Unit) (t : State) => va_P D kCl [(a0, .inr (10, [.int 1, .ref pa, .ref m2, .ref m3, .ref m4, .ref m5, .ref m6, .ref m7, .int 0]))] t.heap ∧ va_D (va_A [(a0, .inr (10, [.int th, .ref pa, .ref m2, .ref m3, .ref m4, .ref m5, .ref m6, .ref m7, .int 0])), (m2, .inr (6, [.int 0, .ref G.1, .int 0]))] sz) [(a0, .inr (10, [.int 1, .ref pa, .ref m2, .ref m3, .ref m4, .ref m5, .ref m6, .ref m7, .int 0]))]) (va_A [(a0, .inr (10, [.int th, .ref pa, .ref m2, .ref m3, .ref m4, .ref m5, .ref m6, .ref m7, .int 0])), (m2, .inr (6, [.int 0, .ref G.1, .int 0]))] sz)) 0 0 (va_A [(a0, .inr (10, [.int th, .ref pa, .ref m2, .ref m3, .ref m4, .ref m5, .ref m6, .ref m7, .int 0])), (m2, .inr (6, [.int 0, .ref G.1, .int 0]))] sz) := by
  refine kMetM (ret := (some .boolean)) (cc := cX16_failsTube) (R := RX16) (Qc := fun A => (va_Qi (fun (r : Int32) (u : Unit) => r = 1) (fun (u : Unit) (t : State) => va_P D kCl [(a0, .inr (10, [.int 1, .ref pa, .ref m2, .ref m3, .ref m4, .ref m5, .ref m6, .ref m7, .int 0]))] t.heap ∧ va_D A [(a0, .inr (10, [.int 1, .ref pa, .ref m2, .ref m3, .ref m4, .ref m5, .ref m6, .ref m7, .int 0]))]) A)) rfl (by decide) (by decide) ?_
  intro p e s m below meth c ls A hx hb hr hml hts hown hlocks hin hP hK hD hst hA hS hl
  have hl : lv_has ls 2 [(0, .ref a0), (1, .int x)] := hl
  refine lv_aload_n hx hb dX16_failsTube_0 rfl (lv_at hl 0 rfl) ?_
  refine lv_aload_n hx hb dX16_failsTube_1 rfl (lv_at hl 0 rfl) ?_
  refine lv_iload_n hx hb dX16_failsTube_2 rfl (lv_at hl 1 rfl) ?_
  have hPc := hP.sub (ws' := [(a0, .inr (10, [.int th, .ref pa, .ref m2, .ref m3, .ref m4, .ref m5, .ref m6, .ref m7, .int 0])), (m2, .inr (6, [.int 0, .ref G.1, .int 0]))]) [0, 1] rfl
  have hDc := hD.sub (ws' := [(a0, .inr (10, [.int th, .ref pa, .ref m2, .ref m3, .ref m4, .ref m5, .ref m6, .ref m7, .int 0])), (m2, .inr (6, [.int 0, .ref G.1, .int 0]))]) [0, 1] (by decide) rfl
  have hKc := hK.sub (tys' := []) [] rfl
  refine va_calli (va_runV (As := [.int x]) (rest := [.ref a0]) ⟨hx, hb, hml, hown, hts⟩ (c_X16_isTube l hfl D G s.heap.size a0 pa m2 m3 m4 m5 m6 m7 th x) (cwV 1 hts (kGV q21 q22 q23 q9 q3) rfl rfl rfl (by decide +kernel) ⟨Nat.le_of_ble_eq_true rfl, Nat.le_of_ble_eq_true rfl⟩) (kPreV hst hS hPc hKc hDc (fun q9 h9 => kNever h9) (va_recv hKc hPc (ci := 10) (q0 := 0) rfl rfl)) rfl rfl hl.1 rfl (lv_room (Nat.le_of_ble_eq_true rfl)) dX16_failsTube_3 ⟨Nat.le_of_ble_eq_true rfl, Nat.le_of_ble_eq_true rfl⟩) hS (fun q9 _ h9 => kNever h9) (fun q9 h9 => kNever h9) (fun r20 u20 t20 H20 locs ht hvm hw hB hz1 hk1 hS => ?_)
  have hw20 : r20 = 0 := hw
  have hP := kKept hP hk1
  obtain rfl : r20 = 0 := hw20
  refine lv_if_eq (tgt := 13) hx hb dX16_failsTube_6 (by decide) (fun _ => ?_) (fun h9 => absurd (by decide) h9)
  refine lv_iconst (v := 1) hx hb dX16_failsTube_13 (by decide) ?_
  have hPc := hP.sub (ws' := [(a0, .inr (10, [.int th, .ref pa, .ref m2, .ref m3, .ref m4, .ref m5, .ref m6, .ref m7, .int 0]))]) [0] rfl
  have hDc := hD.sub (ws' := [(a0, .inr (10, [.int th, .ref pa, .ref m2, .ref m3, .ref m4, .ref m5, .ref m6, .ref m7, .int 0]))]) [0] (by decide) rfl
  have hKc := hK.sub (tys' := []) [] rfl
  have hFc := va_free (wc := [(a0, .inr (10, [.int th, .ref pa, .ref m2, .ref m3, .ref m4, .ref m5, .ref m6, .ref m7, .int 0]))]) hD hS hA [0] rfl
  refine va_calli (va_runV (As := [.int 1]) (rest := []) ⟨hx, hb, hml, hown, hts⟩ (c_X16_fails1 l hfl D G H20.size a0 pa m2 m3 m4 m5 m6 m7 th) (cwV 1 hts (kGV q24 q25 q26 q9 q18) rfl rfl rfl (by decide +kernel) ⟨Nat.le_of_ble_eq_true rfl, Nat.le_of_ble_eq_true rfl⟩) (kPreV hst hS hPc hKc hDc hFc (va_recv hKc hPc (ci := 10) (q0 := 0) rfl rfl)) rfl rfl hl.1 rfl (lv_room (Nat.le_of_ble_eq_true rfl)) dX16_failsTube_14 ⟨Nat.le_of_ble_eq_true rfl, Nat.le_of_ble_eq_true rfl⟩) hS (fun q9 _ h9 => hFc q9 h9) hFc (fun r21 u21 t21 H21 locs ht hvm hw hB hz1 hk1 hS => ?_)
  have hw21 : r21 = 1 := hw
  obtain ⟨hP1, hD1⟩ := hB
  rw [ht] at hP1
  obtain ⟨hP, hD⟩ := va_join (wr := [(m2, .inr (6, [.int 0, .ref G.1, .int 0]))]) (w1 := [(a0, .inr (10, [.int 1, .ref pa, .ref m2, .ref m3, .ref m4, .ref m5, .ref m6, .ref m7, .int 0]))]) hP hD [0] [1] rfl rfl (by decide) (by decide) hk1 hFc hP1 hD1
  have hP : va_P D kCl [(m2, .inr (6, [.int 0, .ref G.1, .int 0])), (a0, .inr (10, [.int 1, .ref pa, .ref m2, .ref m3, .ref m4, .ref m5, .ref m6, .ref m7, .int 0]))] H21 := hP
  have hD : va_D A [(m2, .inr (6, [.int 0, .ref G.1, .int 0])), (a0, .inr (10, [.int 1, .ref pa, .ref m2, .ref m3, .ref m4, .ref m5, .ref m6, .ref m7, .int 0]))] := hD
  obtain rfl : r21 = 1 := hw21
  refine W.widen (k := 0) (n := 0) (Nat.le_of_ble_eq_true rfl) (Nat.le_of_ble_eq_true rfl) ?_
  exact W.zret (v := 1) hx hb hr (by decide) (fun t ht hW => ⟨⟨1, (), rfl, rfl, ⟨by rw [ht]; exact hP.sub [1] rfl, hD.sub [1] (by decide) rfl⟩⟩, hS.F ht⟩) (fun z hz => hS.2.2 z hz) dX16_failsTube_17
set_option maxHeartbeats 4000000 in
set_option maxRecDepth 100000 in
/-- failsTransformer(x) of a new shop: yes -/
theorem c_X16_failsTransformer (l : Launch) (hfl : l.stackTraces = false) (D : va_G) (G : kG) (sz : Nat) (a0 : Nat) (pa : Nat) (m2 : Nat) (m3 : Nat) (m4 : Nat) (m5 : Nat) (m6 : Nat) (m7 : Nat) (th : Int32) (x : Int32) : Met l yX16_failsTransformer (kWs yX16_failsTransformer cX16_failsTransformer 2 (some .boolean)) ({ frames := 2, cells := 0, slots := 0, locals := 43 } : Room) (va_Pc [.ref a0, .int x] (kPre D G [] (va_A [(a0, .inr (10, [.int th, .ref pa, .ref m2, .ref m3, .ref m4, .ref m5, .ref m6, .ref m7, .int 0])), (m3, .inr (6, [.int 0, .ref G.1, .int 0]))] sz) [(a0, .inr (10, [.int th, .ref pa, .ref m2, .ref m3, .ref m4, .ref m5, .ref m6, .ref m7, .int 0])), (m3, .inr (6, [.int 0, .ref G.1, .int 0]))] sz)) (va_Qi (fun (r : Int32) (u : Unit) => r = 1) (fun (u : Unit) (t : State) => va_P D kCl [(a0, .inr (10, [.int 1, .ref pa, .ref m2, .ref m3, .ref m4, .ref m5, .ref m6, .ref m7, .int 0]))] t.heap ∧ va_D (va_A [(a0, .inr (10, [.int th, .ref pa, .ref m2, .ref m3, .ref m4, .ref m5, .ref m6, .ref m7, .int 0])), (m3, .inr (6, [.int 0, .ref G.1, .int 0]))] sz) [(a0, .inr (10, [.int 1, .ref pa, .ref m2, .ref m3, .ref m4, .ref m5, .ref m6, .ref m7, .int 0]))]) (va_A [(a0, .inr (10, [.int th, .ref pa, .ref m2, .ref m3, .ref m4, .ref m5, .ref m6, .ref m7, .int 0])), (m3, .inr (6, [.int 0, .ref G.1, .int 0]))] sz)) 0 0 (va_A [(a0, .inr (10, [.int th, .ref pa, .ref m2, .ref m3, .ref m4, .ref m5, .ref m6, .ref m7, .int 0])), (m3, .inr (6, [.int 0, .ref G.1, .int 0]))] sz) := by
  refine kMetM (ret := (some .boolean)) (cc := cX16_failsTransformer) (R := RX16) (Qc := fun A => (va_Qi (fun (r : Int32) (u : Unit) => r = 1) (fun (u : Unit) (t : State) => va_P D kCl [(a0, .inr (10, [.int 1, .ref pa, .ref m2, .ref m3, .ref m4, .ref m5, .ref m6, .ref m7, .int 0]))] t.heap ∧ va_D A [(a0, .inr (10, [.int 1, .ref pa, .ref m2, .ref m3, .ref m4, .ref m5, .ref m6, .ref m7, .int 0]))]) A)) rfl (by decide) (by decide) ?_
  intro p e s m below meth c ls A hx hb hr hml hts hown hlocks hin hP hK hD hst hA hS hl
  have hl : lv_has ls 2 [(0, .ref a0), (1, .int x)] := hl
  refine lv_aload_n hx hb dX16_failsTransformer_0 rfl (lv_at hl 0 rfl) ?_
  refine lv_aload_n hx hb dX16_failsTransformer_1 rfl (lv_at hl 0 rfl) ?_
  refine lv_iload_n hx hb dX16_failsTransformer_2 rfl (lv_at hl 1 rfl) ?_
  have hPc := hP.sub (ws' := [(a0, .inr (10, [.int th, .ref pa, .ref m2, .ref m3, .ref m4, .ref m5, .ref m6, .ref m7, .int 0])), (m3, .inr (6, [.int 0, .ref G.1, .int 0]))]) [0, 1] rfl
  have hDc := hD.sub (ws' := [(a0, .inr (10, [.int th, .ref pa, .ref m2, .ref m3, .ref m4, .ref m5, .ref m6, .ref m7, .int 0])), (m3, .inr (6, [.int 0, .ref G.1, .int 0]))]) [0, 1] (by decide) rfl
  have hKc := hK.sub (tys' := []) [] rfl
  refine va_calli (va_runV (As := [.int x]) (rest := [.ref a0]) ⟨hx, hb, hml, hown, hts⟩ (c_X16_isTransformer l hfl D G s.heap.size a0 pa m2 m3 m4 m5 m6 m7 th x) (cwV 1 hts (kGV q28 q29 q30 q9 q12) rfl rfl rfl (by decide +kernel) ⟨Nat.le_of_ble_eq_true rfl, Nat.le_of_ble_eq_true rfl⟩) (kPreV hst hS hPc hKc hDc (fun q9 h9 => kNever h9) (va_recv hKc hPc (ci := 10) (q0 := 0) rfl rfl)) rfl rfl hl.1 rfl (lv_room (Nat.le_of_ble_eq_true rfl)) dX16_failsTransformer_3 ⟨Nat.le_of_ble_eq_true rfl, Nat.le_of_ble_eq_true rfl⟩) hS (fun q9 _ h9 => kNever h9) (fun q9 h9 => kNever h9) (fun r22 u22 t22 H22 locs ht hvm hw hB hz1 hk1 hS => ?_)
  have hw22 : r22 = 0 := hw
  have hP := kKept hP hk1
  obtain rfl : r22 = 0 := hw22
  refine lv_if_eq (tgt := 13) hx hb dX16_failsTransformer_6 (by decide) (fun _ => ?_) (fun h9 => absurd (by decide) h9)
  refine lv_iconst (v := 1) hx hb dX16_failsTransformer_13 (by decide) ?_
  have hPc := hP.sub (ws' := [(a0, .inr (10, [.int th, .ref pa, .ref m2, .ref m3, .ref m4, .ref m5, .ref m6, .ref m7, .int 0]))]) [0] rfl
  have hDc := hD.sub (ws' := [(a0, .inr (10, [.int th, .ref pa, .ref m2, .ref m3, .ref m4, .ref m5, .ref m6, .ref m7, .int 0]))]) [0] (by decide) rfl
  have hKc := hK.sub (tys' := []) [] rfl
  have hFc := va_free (wc := [(a0, .inr (10, [.int th, .ref pa, .ref m2, .ref m3, .ref m4, .ref m5, .ref m6, .ref m7, .int 0]))]) hD hS hA [0] rfl
  refine va_calli (va_runV (As := [.int 1]) (rest := []) ⟨hx, hb, hml, hown, hts⟩ (c_X16_fails1 l hfl D G H22.size a0 pa m2 m3 m4 m5 m6 m7 th) (cwV 1 hts (kGV q24 q25 q26 q9 q18) rfl rfl rfl (by decide +kernel) ⟨Nat.le_of_ble_eq_true rfl, Nat.le_of_ble_eq_true rfl⟩) (kPreV hst hS hPc hKc hDc hFc (va_recv hKc hPc (ci := 10) (q0 := 0) rfl rfl)) rfl rfl hl.1 rfl (lv_room (Nat.le_of_ble_eq_true rfl)) dX16_failsTransformer_14 ⟨Nat.le_of_ble_eq_true rfl, Nat.le_of_ble_eq_true rfl⟩) hS (fun q9 _ h9 => hFc q9 h9) hFc (fun r23 u23 t23 H23 locs ht hvm hw hB hz1 hk1 hS => ?_)
  have hw23 : r23 = 1 := hw
  obtain ⟨hP1, hD1⟩ := hB
  rw [ht] at hP1
  obtain ⟨hP, hD⟩ := va_join (wr := [(m3, .inr (6, [.int 0, .ref G.1, .int 0]))]) (w1 := [(a0, .inr (10, [.int 1, .ref pa, .ref m2, .ref m3, .ref m4, .ref m5, .ref m6, .ref m7, .int 0]))]) hP hD [0] [1] rfl rfl (by decide) (by decide) hk1 hFc hP1 hD1
  have hP : va_P D kCl [(m3, .inr (6, [.int 0, .ref G.1, .int 0])), (a0, .inr (10, [.int 1, .ref pa, .ref m2, .ref m3, .ref m4, .ref m5, .ref m6, .ref m7, .int 0]))] H23 := hP
  have hD : va_D A [(m3, .inr (6, [.int 0, .ref G.1, .int 0])), (a0, .inr (10, [.int 1, .ref pa, .ref m2, .ref m3, .ref m4, .ref m5, .ref m6, .ref m7, .int 0]))] := hD
  obtain rfl : r23 = 1 := hw23
  refine W.widen (k := 0) (n := 0) (Nat.le_of_ble_eq_true rfl) (Nat.le_of_ble_eq_true rfl) ?_
  exact W.zret (v := 1) hx hb hr (by decide) (fun t ht hW => ⟨⟨1, (), rfl, rfl, ⟨by rw [ht]; exact hP.sub [1] rfl, hD.sub [1] (by decide) rfl⟩⟩, hS.F ht⟩) (fun z hz => hS.2.2 z hz) dX16_failsTransformer_17
set_option maxHeartbeats 4000000 in
set_option maxRecDepth 100000 in
/-- failsSign(x) of a new shop: yes -/
theorem c_X16_failsSign (l : Launch) (hfl : l.stackTraces = false) (D : va_G) (G : kG) (sz : Nat) (a0 : Nat) (pa : Nat) (m2 : Nat) (m3 : Nat) (m4 : Nat) (m5 : Nat) (m6 : Nat) (m7 : Nat) (th : Int32) (x : Int32) : Met l yX16_failsSign (kWs yX16_failsSign cX16_failsSign 2 (some .boolean)) ({ frames := 2, cells := 0, slots := 0, locals := 43 } : Room) (va_Pc [.ref a0, .int x] (kPre D G [] (va_A [(a0, .inr (10, [.int th, .ref pa, .ref m2, .ref m3, .ref m4, .ref m5, .ref m6, .ref m7, .int 0])), (m4, .inr (6, [.int 0, .ref G.1, .int 0]))] sz) [(a0, .inr (10, [.int th, .ref pa, .ref m2, .ref m3, .ref m4, .ref m5, .ref m6, .ref m7, .int 0])), (m4, .inr (6, [.int 0, .ref G.1, .int 0]))] sz)) (va_Qi (fun (r : Int32) (u : Unit) => r = 1) (fun (u : Unit) (t : State) => va_P D kCl [(a0, .inr (10, [.int 1, .ref pa, .ref m2, .ref m3, .ref m4, .ref m5, .ref m6, .ref m7, .int 0]))] t.heap ∧ va_D (va_A [(a0, .inr (10, [.int th, .ref pa, .ref m2, .ref m3, .ref m4, .ref m5, .ref m6, .ref m7, .int 0])), (m4, .inr (6, [.int 0, .ref G.1, .int 0]))] sz) [(a0, .inr (10, [.int 1, .ref pa, .ref m2, .ref m3, .ref m4, .ref m5, .ref m6, .ref m7, .int 0]))]) (va_A [(a0, .inr (10, [.int th, .ref pa, .ref m2, .ref m3, .ref m4, .ref m5, .ref m6, .ref m7, .int 0])), (m4, .inr (6, [.int 0, .ref G.1, .int 0]))] sz)) 0 0 (va_A [(a0, .inr (10, [.int th, .ref pa, .ref m2, .ref m3, .ref m4, .ref m5, .ref m6, .ref m7, .int 0])), (m4, .inr (6, [.int 0, .ref G.1, .int 0]))] sz) := by
  refine kMetM (ret := (some .boolean)) (cc := cX16_failsSign) (R := RX16) (Qc := fun A => (va_Qi (fun (r : Int32) (u : Unit) => r = 1) (fun (u : Unit) (t : State) => va_P D kCl [(a0, .inr (10, [.int 1, .ref pa, .ref m2, .ref m3, .ref m4, .ref m5, .ref m6, .ref m7, .int 0]))] t.heap ∧ va_D A [(a0, .inr (10, [.int 1, .ref pa, .ref m2, .ref m3, .ref m4, .ref m5, .ref m6, .ref m7, .int 0]))]) A)) rfl (by decide) (by decide) ?_
  intro p e s m below meth c ls A hx hb hr hml hts hown hlocks hin hP hK hD hst hA hS hl
  have hl : lv_has ls 2 [(0, .ref a0), (1, .int x)] := hl
  refine lv_aload_n hx hb dX16_failsSign_0 rfl (lv_at hl 0 rfl) ?_
  refine lv_aload_n hx hb dX16_failsSign_1 rfl (lv_at hl 0 rfl) ?_
  refine lv_iload_n hx hb dX16_failsSign_2 rfl (lv_at hl 1 rfl) ?_
  have hPc := hP.sub (ws' := [(a0, .inr (10, [.int th, .ref pa, .ref m2, .ref m3, .ref m4, .ref m5, .ref m6, .ref m7, .int 0])), (m4, .inr (6, [.int 0, .ref G.1, .int 0]))]) [0, 1] rfl
  have hDc := hD.sub (ws' := [(a0, .inr (10, [.int th, .ref pa, .ref m2, .ref m3, .ref m4, .ref m5, .ref m6, .ref m7, .int 0])), (m4, .inr (6, [.int 0, .ref G.1, .int 0]))]) [0, 1] (by decide) rfl
  have hKc := hK.sub (tys' := []) [] rfl
  refine va_calli (va_runV (As := [.int x]) (rest := [.ref a0]) ⟨hx, hb, hml, hown, hts⟩ (c_X16_isSign l hfl D G s.heap.size a0 pa m2 m3 m4 m5 m6 m7 th x) (cwV 1 hts (kGV q32 q33 q34 q9 q14) rfl rfl rfl (by decide +kernel) ⟨Nat.le_of_ble_eq_true rfl, Nat.le_of_ble_eq_true rfl⟩) (kPreV hst hS hPc hKc hDc (fun q9 h9 => kNever h9) (va_recv hKc hPc (ci := 10) (q0 := 0) rfl rfl)) rfl rfl hl.1 rfl (lv_room (Nat.le_of_ble_eq_true rfl)) dX16_failsSign_3 ⟨Nat.le_of_ble_eq_true rfl, Nat.le_of_ble_eq_true rfl⟩) hS (fun q9 _ h9 => kNever h9) (fun q9 h9 => kNever h9) (fun r24 u24 t24 H24 locs ht hvm hw hB hz1 hk1 hS => ?_)
  have hw24 : r24 = 0 := hw
  have hP := kKept hP hk1
  obtain rfl : r24 = 0 := hw24
  refine lv_if_eq (tgt := 13) hx hb dX16_failsSign_6 (by decide) (fun _ => ?_) (fun h9 => absurd (by decide) h9)
  refine lv_iconst (v := 1) hx hb dX16_failsSign_13 (by decide) ?_
  have hPc := hP.sub (ws' := [(a0, .inr (10, [.int th, .ref pa, .ref m2, .ref m3, .ref m4, .ref m5, .ref m6, .ref m7, .int 0]))]) [0] rfl
  have hDc := hD.sub (ws' := [(a0, .inr (10, [.int th, .ref pa, .ref m2, .ref m3, .ref m4, .ref m5, .ref m6, .ref m7, .int 0]))]) [0] (by decide) rfl
  have hKc := hK.sub (tys' := []) [] rfl
  have hFc := va_free (wc := [(a0, .inr (10, [.int th, .ref pa, .ref m2, .ref m3, .ref m4, .ref m5, .ref m6, .ref m7, .int 0]))]) hD hS hA [0] rfl
  refine va_calli (va_runV (As := [.int 1]) (rest := []) ⟨hx, hb, hml, hown, hts⟩ (c_X16_fails1 l hfl D G H24.size a0 pa m2 m3 m4 m5 m6 m7 th) (cwV 1 hts (kGV q24 q25 q26 q9 q18) rfl rfl rfl (by decide +kernel) ⟨Nat.le_of_ble_eq_true rfl, Nat.le_of_ble_eq_true rfl⟩) (kPreV hst hS hPc hKc hDc hFc (va_recv hKc hPc (ci := 10) (q0 := 0) rfl rfl)) rfl rfl hl.1 rfl (lv_room (Nat.le_of_ble_eq_true rfl)) dX16_failsSign_14 ⟨Nat.le_of_ble_eq_true rfl, Nat.le_of_ble_eq_true rfl⟩) hS (fun q9 _ h9 => hFc q9 h9) hFc (fun r25 u25 t25 H25 locs ht hvm hw hB hz1 hk1 hS => ?_)
  have hw25 : r25 = 1 := hw
  obtain ⟨hP1, hD1⟩ := hB
  rw [ht] at hP1
  obtain ⟨hP, hD⟩ := va_join (wr := [(m4, .inr (6, [.int 0, .ref G.1, .int 0]))]) (w1 := [(a0, .inr (10, [.int 1, .ref pa, .ref m2, .ref m3, .ref m4, .ref m5, .ref m6, .ref m7, .int 0]))]) hP hD [0] [1] rfl rfl (by decide) (by decide) hk1 hFc hP1 hD1
  have hP : va_P D kCl [(m4, .inr (6, [.int 0, .ref G.1, .int 0])), (a0, .inr (10, [.int 1, .ref pa, .ref m2, .ref m3, .ref m4, .ref m5, .ref m6, .ref m7, .int 0]))] H25 := hP
  have hD : va_D A [(m4, .inr (6, [.int 0, .ref G.1, .int 0])), (a0, .inr (10, [.int 1, .ref pa, .ref m2, .ref m3, .ref m4, .ref m5, .ref m6, .ref m7, .int 0]))] := hD
  obtain rfl : r25 = 1 := hw25
  refine W.widen (k := 0) (n := 0) (Nat.le_of_ble_eq_true rfl) (Nat.le_of_ble_eq_true rfl) ?_
  exact W.zret (v := 1) hx hb hr (by decide) (fun t ht hW => ⟨⟨1, (), rfl, rfl, ⟨by rw [ht]; exact hP.sub [1] rfl, hD.sub [1] (by decide) rfl⟩⟩, hS.F ht⟩) (fun z hz => hS.2.2 z hz) dX16_failsSign_17
