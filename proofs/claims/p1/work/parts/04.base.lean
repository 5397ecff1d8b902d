/-! what all methods of this claim share: the premises that don't move, a method's start and its end -/
abbrev kG : Type := Nat × (Nat × Nat) × (Nat × Nat) × (Nat × Nat)
def kEw : List Int32 := [101, 119, 110, 115, 117, 100]
/-- a text that stands from the start: its object, its bytes -/
def kStr (q : Nat × Nat) (n : Nat) (bs : List Int32) (A : Nat → Prop) (U : State) (H : Heap) : Prop :=
  va_O "java/lang/String" q.1 A U H ∧ va_OF "java/lang/String" "coder" "B" (.int 0) q.1 A U H ∧ va_OF "java/lang/String" "value" "[B" (.ref q.2) q.1 A U H ∧ va_T .byte q.2 n (fun j => .int (bs.getD j 0)) A U H
theorem kStr.moved {q : Nat × Nat} {n : Nat} {bs : List Int32} {A : Nat → Prop} {u U : State} {H : Heap} (hvm : u.vm.Alike U.vm) (h : kStr q n bs A u H) : kStr q n bs A U H := ⟨va_O.moved hvm h.1, va_OF.moved hvm h.2.1, va_OF.moved hvm h.2.2.1, va_T.moved hvm h.2.2.2⟩
theorem kStr.kept {q : Nat × Nat} {n : Nat} {bs : List Int32} {A : Nat → Prop} {U : State} {H H1 : Heap} (h : kStr q n bs A U H) (hq : ∀ a : Nat, a < H.size → ¬ A a → H1[a]? = H[a]?) : kStr q n bs A U H1 := ⟨va_O.kept h.1 hq, va_OF.kept h.2.1 hq, va_OF.kept h.2.2.1 hq, va_T.kept h.2.2.2 hq⟩
theorem kStr.narrow {q : Nat × Nat} {n : Nat} {bs : List Int32} {A B : Nat → Prop} {U : State} {H : Heap} (h : kStr q n bs A U H) (hAB : ∀ q, B q → A q) : kStr q n bs B U H := ⟨va_O.narrow h.1 hAB, va_OF.narrow h.2.1 hAB, va_OF.narrow h.2.2.1 hAB, va_T.narrow h.2.2.2 hAB⟩
/-- the statics and texts that nobody writes -/
def kHp (G : kG) (A : Nat → Prop) (U : State) (H : Heap) : Prop :=
  vx_Zq Bundle.tN "UNASSIGNED_STACK" Bundle.steD A U H ∧ vx_Zq Bundle.tN "SUPPRESSED_SENTINEL" Bundle.listD A U H ∧ va_Z "java/lang/String" "COMPACT_STRINGS" "Z" (.int 1) A U H ∧
  va_Z "java/util/ArrayList" "DEFAULTCAPACITY_EMPTY_ELEMENTDATA" "[Ljava/lang/Object;" (.ref G.1) A U H ∧ va_T (.object "java/lang/Object") G.1 0 (fun _ => .null) A U H ∧ kStr G.2.1 0 [] A U H ∧ kStr G.2.2.1 6 kEw A U H ∧ kStr G.2.2.2 6 kEw A U H
theorem kHp.moved {G : kG} {A : Nat → Prop} {u U : State} {H : Heap} (hvm : u.vm.Alike U.vm) (h : kHp G A u H) : kHp G A U H :=
  ⟨vx_Zq.moved hvm h.1, vx_Zq.moved hvm h.2.1, va_Z.moved hvm h.2.2.1, va_Z.moved hvm h.2.2.2.1, va_T.moved hvm h.2.2.2.2.1, kStr.moved hvm h.2.2.2.2.2.1, kStr.moved hvm h.2.2.2.2.2.2.1, kStr.moved hvm h.2.2.2.2.2.2.2⟩
theorem kHp.kept {G : kG} {A : Nat → Prop} {U : State} {H H1 : Heap} (h : kHp G A U H) (hq : ∀ a : Nat, a < H.size → ¬ A a → H1[a]? = H[a]?) : kHp G A U H1 :=
  ⟨vx_Zq.kept h.1 hq, vx_Zq.kept h.2.1 hq, va_Z.kept h.2.2.1 hq, va_Z.kept h.2.2.2.1 hq, va_T.kept h.2.2.2.2.1 hq, kStr.kept h.2.2.2.2.2.1 hq, kStr.kept h.2.2.2.2.2.2.1 hq, kStr.kept h.2.2.2.2.2.2.2 hq⟩
theorem kHp.narrow {G : kG} {A B : Nat → Prop} {U : State} {H : Heap} (h : kHp G A U H) (hAB : ∀ q, B q → A q) : kHp G B U H :=
  ⟨vx_Zq.narrow h.1 hAB, vx_Zq.narrow h.2.1 hAB, va_Z.narrow h.2.2.1 hAB, va_Z.narrow h.2.2.2.1 hAB, va_T.narrow h.2.2.2.2.1 hAB, kStr.narrow h.2.2.2.2.2.1 hAB, kStr.narrow h.2.2.2.2.2.2.1 hAB, kStr.narrow h.2.2.2.2.2.2.2 hAB⟩
/-- words of the tables that aren't kept as words: texts by their entries, casts, interfaces, nests -/
def kTab (G : kG) (U : State) : Prop :=
  (∀ q ∈ kTexts, ∃ a : Nat, vk_R RX11 q.1 q.2 a U) ∧ vk_R RX16 7 "" G.2.1.1 U ∧ vk_R RX4 22 "ewnsud" G.2.2.1.1 U ∧ vk_R RX16 42 "ewnsud" G.2.2.2.1 U ∧
  (∀ q ∈ kCast, va_Nw (.castable q q) U) ∧ (∀ q ∈ kNot, va_Nc q.1 q.2 U) ∧ (∀ q ∈ kFaces, va_Fw q.1 q.2.1 q.2.2 U) ∧ (∀ q ∈ kNest, va_Nw (.methodLinkNest q.1 q.2.1 q.2.2 "Neonworks") U) ∧ va_Nw (.fieldLinkNest "java/util/ArrayList$Itr" 28 "java/util/ArrayList" "size" "I" "java/util/ArrayList") U
theorem kTab.moved {G : kG} {s U : State} (hW : s.WarmedH U.vm) (h : kTab G s) : kTab G U :=
  ⟨fun q hq => (h.1 q hq).imp fun a ha => vk_R.warm hW ha, vk_R.warm hW h.2.1, vk_R.warm hW h.2.2.1, vk_R.warm hW h.2.2.2.1, fun q hq => va_Nw.warmC hW (h.2.2.2.2.1 q hq), fun q hq => va_Nc.moved hW.alike (h.2.2.2.2.2.1 q hq), fun q hq => va_Fw.moved (kFaces_ok q hq) hW.alike (h.2.2.2.2.2.2.1 q hq), fun q hq => va_Nw.warmM hW (h.2.2.2.2.2.2.2.1 q hq), va_Nw.warmF hW h.2.2.2.2.2.2.2.2⟩
def kSt (G : kG) (A : Nat → Prop) (U : State) (H : Heap) : Prop := kHp G A U H ∧ kTab G U
theorem kSt.moved {G : kG} {A : Nat → Prop} {s U : State} {H : Heap} (hW : s.WarmedH U.vm) (h : kSt G A s H) : kSt G A U H := ⟨h.1.moved hW.alike, h.2.moved hW⟩
theorem kSt.kept {G : kG} {A : Nat → Prop} {U : State} {H H1 : Heap} (h : kSt G A U H) (hq : ∀ a : Nat, a < H.size → ¬ A a → H1[a]? = H[a]?) : kSt G A U H1 := ⟨h.1.kept hq, h.2⟩
theorem kSt.narrow {G : kG} {A B : Nat → Prop} {U : State} {H : Heap} (h : kSt G A U H) (hAB : ∀ q, B q → A q) : kSt G B U H := ⟨h.1.narrow hAB, h.2⟩
abbrev kWs (y : MethodName) (cc : ByteArray) (maxL : Nat) (ret : Option FieldType) : List Cond := .code y cc maxL ret :: lw_all
abbrev kWh (y : MethodName) (cc : ByteArray) (maxL : Nat) (ret : Option FieldType) (hh : List (Nat × Nat × Nat × Nat)) : List Cond := .codeWith y cc maxL ret hh :: lw_all
theorem kGood {w : Cond} (h : w ∈ lw_all) : (w.onTables && w.keeps) = true ∨ ∃ ty, w = .arrayClass ty := (lw_all_in w h).2
theorem kGW {ws : List Cond} (h : ∀ w ∈ ws, w ∈ lw_all) : GoodIn lw_all ws := fun w hw => ⟨h w hw, kGood (h w hw)⟩
theorem kG1 {y : MethodName} {cc : ByteArray} {n : Nat} {ret : Option FieldType} (q : Cond.code y cc n ret ∈ lw_all) : GoodIn lw_all (kWs y cc n ret) := kGW fun w h => (List.mem_cons.mp h).elim (fun e => e ▸ q) id
theorem kG1h {y : MethodName} {cc : ByteArray} {n : Nat} {ret : Option FieldType} {hh : List (Nat × Nat × Nat × Nat)} (q : Cond.codeWith y cc n ret hh ∈ lw_all) : GoodIn lw_all (kWh y cc n ret hh) := kGW fun w h => (List.mem_cons.mp h).elim (fun e => e ▸ q) id
theorem kGV {own C : String} {i : Nat} {y : MethodName} {cc : ByteArray} {n : Nat} {ret : Option FieldType} (q1 : Cond.methodLink own i y ∈ lw_all) (q2 : Cond.instanceMethod y ∈ lw_all) (q3 : Cond.selects C y y ∈ lw_all) (q4 : Cond.initialized C ∈ lw_all) (q5 : Cond.code y cc n ret ∈ lw_all) : GoodIn lw_all (wsV own i C y (kWs y cc n ret)) :=
  goodIn_app (kGW (List.forall_mem_cons.mpr ⟨q1, List.forall_mem_cons.mpr ⟨q2, List.forall_mem_cons.mpr ⟨q3, List.forall_mem_cons.mpr ⟨q4, fun _ h => nomatch h⟩⟩⟩⟩)) (kG1 q5)
theorem kGS {own : String} {i : Nat} {y : MethodName} {cc : ByteArray} {n : Nat} {ret : Option FieldType} (q1 : Cond.methodLink own i y ∈ lw_all) (q2 : Cond.static y ∈ lw_all) (q4 : Cond.initialized y.cls ∈ lw_all) (q5 : Cond.code y cc n ret ∈ lw_all) : GoodIn lw_all (va_wsS own i y (kWs y cc n ret)) :=
  goodIn_app (kGW (List.forall_mem_cons.mpr ⟨q1, List.forall_mem_cons.mpr ⟨q2, List.forall_mem_cons.mpr ⟨q4, fun _ h => nomatch h⟩⟩⟩)) (kG1 q5)
theorem kGSh {own : String} {i : Nat} {y : MethodName} {cc : ByteArray} {n : Nat} {ret : Option FieldType} {hh : List (Nat × Nat × Nat × Nat)} (q1 : Cond.methodLink own i y ∈ lw_all) (q2 : Cond.static y ∈ lw_all) (q4 : Cond.initialized y.cls ∈ lw_all) (q5 : Cond.codeWith y cc n ret hh ∈ lw_all) : GoodIn lw_all (va_wsS own i y (kWh y cc n ret hh)) :=
  goodIn_app (kGW (List.forall_mem_cons.mpr ⟨q1, List.forall_mem_cons.mpr ⟨q2, List.forall_mem_cons.mpr ⟨q4, fun _ h => nomatch h⟩⟩⟩)) (kG1h q5)
theorem kGF {own C : String} {i : Nat} {x y : MethodName} {cc : ByteArray} {n : Nat} {ret : Option FieldType} (q1 : Cond.methodLink own i x ∈ lw_all) (q2 : Cond.selects C x y ∈ lw_all) (q3 : Cond.instanceMethod y ∈ lw_all) (q4 : Cond.initialized y.cls ∈ lw_all) (q5 : Cond.code y cc n ret ∈ lw_all) : GoodIn lw_all (va_wsF own i C x y (kWs y cc n ret)) :=
  goodIn_app (kGW (List.forall_mem_cons.mpr ⟨q1, List.forall_mem_cons.mpr ⟨q2, List.forall_mem_cons.mpr ⟨q3, List.forall_mem_cons.mpr ⟨q4, fun _ h => nomatch h⟩⟩⟩⟩)) (kG1 q5)
/-- a method's start: its world, what stands from the start -/
def kPre (D : va_G) (G : kG) (tys : List (ClassId × FieldType)) (A : Nat → Prop) (ws : va_W) (sz : Nat) (U : State) : Prop :=
  U.heap.size = sz ∧ va_P D kCl ws U.heap ∧ va_K D kCl tys U ∧ va_D (fun _ => True) ws ∧ kSt G A U U.heap
theorem kBlind {av : List Value} {D : va_G} {G : kG} {tys : List (ClassId × FieldType)} {A : Nat → Prop} {ws : va_W} {sz : Nat} : FrameBlind (va_Pc av (kPre D G tys A ws sz)) := fun a U g mk q => by
  obtain ⟨h0, h1, h2, h3, h4, h5⟩ := q
  exact ⟨h0, h1, h2, va_K.moved (u := U) (U := U.calling g mk a) (Vm.Alike.refl U.vm) h3, h4, kSt.moved (s := U) (U := U.calling g mk a) (State.WarmedH.refl U) h5⟩
theorem kAt {s : State} {H : Heap} {A A0 A1 : Nat → Prop} {D : va_G} {G : kG} {tys : List (ClassId × FieldType)} {ws : va_W} {av : List Value} {locs : List Loc} (hst : kSt G A s s.heap) (hS : va_S A s.heap H locs) (hP : va_P D kCl ws H) (hK : va_K D kCl tys s) (hD : va_D A0 ws) (hF : ∀ q, A1 q → A q) (U : State) (hU : U.heap = H) (hW : s.WarmedH U.vm) : va_Pc av (kPre D G tys A1 ws H.size) av.toArray U :=
  ⟨rfl, by rw [hU], by rw [hU]; exact hP, va_K.moved hW.alike hK, hD.weaken (fun _ _ _ _ => trivial), by rw [hU]; exact ((hst.kept hS.2.1).narrow hF).moved hW⟩
theorem kPreS {s : State} {H : Heap} {A A0 A1 : Nat → Prop} {D : va_G} {G : kG} {tys : List (ClassId × FieldType)} {ws : va_W} {av : List Value} {locs : List Loc} (hst : kSt G A s s.heap) (hS : va_S A s.heap H locs) (hP : va_P D kCl ws H) (hK : va_K D kCl tys s) (hD : va_D A0 ws) (hF : ∀ q, A1 q → A q) : PreS s H (va_Pc av (kPre D G tys A1 ws H.size)) av :=
  ⟨kBlind, kAt hst hS hP hK hD hF⟩
theorem kPreV {s : State} {H : Heap} {A A0 A1 : Nat → Prop} {D : va_G} {G : kG} {tys : List (ClassId × FieldType)} {ws : va_W} {av : List Value} {locs : List Loc} {b : Nat} {C : String} (hst : kSt G A s s.heap) (hS : va_S A s.heap H locs) (hP : va_P D kCl ws H) (hK : va_K D kCl tys s) (hD : va_D A0 ws) (hF : ∀ q, A1 q → A q) (hr : ∃ cell : Cell, H[b]? = some cell ∧ cell.vm.isStatics = false ∧ s.vm.findClass C = some cell.cls) : PreV s H C b (va_Pc (.ref b :: av) (kPre D G tys A1 ws H.size)) av :=
  ⟨kBlind, hr, kAt hst hS hP hK hD hF⟩
theorem kKept {D : va_G} {ws : va_W} {H H1 : Heap} (hP : va_P D kCl ws H) (hk : ∀ q : Nat, q < H.size → ¬ False → H1[q]? = H[q]?) : va_P D kCl ws H1 := hP.kept fun k q h => hk q.1 (hP k q h).lt (fun h => h)
theorem kNever {q : Nat} {A : Nat → Prop} (h : False) : A q := h.elim
section KM
variable {l : Launch} {y : MethodName} {cc : ByteArray} {maxL : Nat} {ret : Option FieldType} {rm : Room} {av : List Value} {D : va_G} {G : kG} {tys : List (ClassId × FieldType)} {ws : va_W} {sz mc ms : Nat} {R : String}
/-- a body that writes nothing that was there: what stands at its entry -/
theorem kMetR {Qc : Array Value → State → Outcome → State → Prop} (hR : y.cls = R) (hpl : plainName y.cls = true) (hn : (lg_sl av).length ≤ maxL)
    (body : ∀ (p : Program) (e : Env) (s : State) (m : MethodId) (below : List Frame) (meth : Method) (c : Code) (ls : Array Slot), p.tables.exec = Jvm.exec → c.code = cc → meth.sig.returnType = ret → c.maxLocals = maxL → (∀ w ∈ lw_all, w.before av.toArray s = true) → s.vm.findClass R = some m.cls → meth.locks = false → va_P D kCl ws s.heap → va_K D kCl tys s → va_D (fun _ => True) ws → kSt G (fun _ => False) s s.heap → va_S (fun _ => False) s.heap s.heap [] → lv_has ls maxL (lv_args 0 av) → W p l e rm s m av.toArray below meth c s.heap [] 0 0 (MQ below Qc av.toArray s mc ms (fun _ => False)) (F0 m 0 ls [])) :
    Met l y (kWs y cc maxL ret) rm (va_Pc av (kPre D G tys (fun _ => False) ws sz)) Qc mc ms (fun _ => False) := by
  refine Met.ofW (cc := cc) (maxL := maxL) (ret := ret) hpl rfl ?_
  intro p e s m args below meth c s₁ B hml hv
  obtain ⟨rfl, hsz, hP, hK, hD0, hst⟩ := hv
  have hts := atoms_spec (ws := kWs y cc maxL ret) B.pre
  have hl := lv_entry av (n := maxL) hn
  rw [lg_entry_eq]
  generalize (lg_sl av ++ List.replicate (maxL - (lg_sl av).length) Slot.unset).toArray = ls at hl ⊢
  exact body p e s m below meth c ls B.exec B.bytes B.returns hml (fun w h => hts w (List.mem_cons_of_mem _ h)) (hR ▸ findClass_of_methodNamed B.named) B.notSynchronized hP hK hD0 hst va_S.rf hl
/-- a body that may write its world and make cells: A its cells and the new ones -/
theorem kMetM {Qc : (Nat → Prop) → Array Value → State → Outcome → State → Prop} (hR : y.cls = R) (hpl : plainName y.cls = true) (hn : (lg_sl av).length ≤ maxL)
    (body : ∀ (p : Program) (e : Env) (s : State) (m : MethodId) (below : List Frame) (meth : Method) (c : Code) (ls : Array Slot) (A : Nat → Prop), p.tables.exec = Jvm.exec → c.code = cc → meth.sig.returnType = ret → c.maxLocals = maxL → (∀ w ∈ lw_all, w.before av.toArray s = true) → s.vm.findClass R = some m.cls → meth.locks = false → meth.name = y.name → va_P D kCl ws s.heap → va_K D kCl tys s → va_D A ws → kSt G A s s.heap → (∀ q : Nat, s.heap.size ≤ q → A q) → va_S A s.heap s.heap [] → lv_has ls maxL (lv_args 0 av) → W p l e rm s m av.toArray below meth c s.heap [] 0 0 (MQ below (Qc A) av.toArray s mc ms A) (F0 m 0 ls [])) :
    Met l y (kWs y cc maxL ret) rm (va_Pc av (kPre D G tys (va_A ws sz) ws sz)) (Qc (va_A ws sz)) mc ms (va_A ws sz) := by
  refine Met.ofW (cc := cc) (maxL := maxL) (ret := ret) hpl rfl ?_
  intro p e s m args below meth c s₁ B hml hv
  obtain ⟨rfl, hsz, hP, hK, hD0, hst⟩ := hv
  have hts := atoms_spec (ws := kWs y cc maxL ret) B.pre
  subst hsz
  have hl := lv_entry av (n := maxL) hn
  rw [lg_entry_eq]
  generalize (lg_sl av ++ List.replicate (maxL - (lg_sl av).length) Slot.unset).toArray = ls at hl ⊢
  exact body p e s m below meth c ls _ B.exec B.bytes B.returns hml (fun w h => hts w (List.mem_cons_of_mem _ h)) (hR ▸ findClass_of_methodNamed B.named) B.notSynchronized (name_of_methodNamed B.named B.method).1 hP hK (hD0.self (sz := s.heap.size)) hst (fun q h => Or.inr h) va_S.rf hl
/-- .. that may throw -/
theorem kVxR {Qc : Array Value → State → Outcome → State → Prop} {XC : String → State → State → Prop} (hR : y.cls = R) (hpl : plainName y.cls = true) (hn : (lg_sl av).length ≤ maxL)
    (body : ∀ (p : Program) (e : Env) (s : State) (m : MethodId) (below : List Frame) (meth : Method) (c : Code) (ls : Array Slot), p.tables.exec = Jvm.exec → c.code = cc → meth.sig.returnType = ret → c.maxLocals = maxL → (∀ w ∈ lw_all, w.before av.toArray s = true) → s.vm.findClass R = some m.cls → meth.locks = false → (∀ x ∈ c.exceptionTable.toList, False) → va_P D kCl ws s.heap → va_K D kCl tys s → va_D (fun _ => True) ws → kSt G (fun _ => False) s s.heap → va_S (fun _ => False) s.heap s.heap [] → lv_has ls maxL (lv_args 0 av) → W p l e rm s m av.toArray below meth c s.heap [] 0 0 (vx_MQ below Qc XC av.toArray s mc ms (fun _ => False)) (F0 m 0 ls [])) :
    vx_Met l y (kWs y cc maxL ret) rm (va_Pc av (kPre D G tys (fun _ => False) ws sz)) Qc XC mc ms (fun _ => False) := by
  refine vx_ofW (cc := cc) (maxL := maxL) (ret := ret) hpl rfl ?_
  intro p e s m args below meth c s₁ B hml htb hv
  obtain ⟨rfl, hsz, hP, hK, hD0, hst⟩ := hv
  have hts := atoms_spec (ws := kWs y cc maxL ret) B.pre
  have hl := lv_entry av (n := maxL) hn
  rw [lg_entry_eq]
  generalize (lg_sl av ++ List.replicate (maxL - (lg_sl av).length) Slot.unset).toArray = ls at hl ⊢
  exact body p e s m below meth c ls B.exec B.bytes B.returns hml (fun w h => hts w (List.mem_cons_of_mem _ h)) (hR ▸ findClass_of_methodNamed B.named) B.notSynchronized htb hP hK hD0 hst va_S.rf hl
theorem kVxM {Qc : (Nat → Prop) → Array Value → State → Outcome → State → Prop} {XC : (Nat → Prop) → String → State → State → Prop} (hR : y.cls = R) (hpl : plainName y.cls = true) (hn : (lg_sl av).length ≤ maxL)
    (body : ∀ (p : Program) (e : Env) (s : State) (m : MethodId) (below : List Frame) (meth : Method) (c : Code) (ls : Array Slot) (A : Nat → Prop), p.tables.exec = Jvm.exec → c.code = cc → meth.sig.returnType = ret → c.maxLocals = maxL → (∀ w ∈ lw_all, w.before av.toArray s = true) → s.vm.findClass R = some m.cls → meth.locks = false → (∀ x ∈ c.exceptionTable.toList, False) → va_P D kCl ws s.heap → va_K D kCl tys s → va_D A ws → kSt G A s s.heap → (∀ q : Nat, s.heap.size ≤ q → A q) → va_S A s.heap s.heap [] → lv_has ls maxL (lv_args 0 av) → W p l e rm s m av.toArray below meth c s.heap [] 0 0 (vx_MQ below (Qc A) (XC A) av.toArray s mc ms A) (F0 m 0 ls [])) :
    vx_Met l y (kWs y cc maxL ret) rm (va_Pc av (kPre D G tys (va_A ws sz) ws sz)) (Qc (va_A ws sz)) (XC (va_A ws sz)) mc ms (va_A ws sz) := by
  refine vx_ofW (cc := cc) (maxL := maxL) (ret := ret) hpl rfl ?_
  intro p e s m args below meth c s₁ B hml htb hv
  obtain ⟨rfl, hsz, hP, hK, hD0, hst⟩ := hv
  have hts := atoms_spec (ws := kWs y cc maxL ret) B.pre
  subst hsz
  have hl := lv_entry av (n := maxL) hn
  rw [lg_entry_eq]
  generalize (lg_sl av ++ List.replicate (maxL - (lg_sl av).length) Slot.unset).toArray = ls at hl ⊢
  exact body p e s m below meth c ls _ B.exec B.bytes B.returns hml (fun w h => hts w (List.mem_cons_of_mem _ h)) (hR ▸ findClass_of_methodNamed B.named) B.notSynchronized htb hP hK (hD0.self (sz := s.heap.size)) hst (fun q h => Or.inr h) va_S.rf hl
/-- .. with a table of its own, that catches and returns -/
theorem kMetH {Qc : (Nat → Prop) → Array Value → State → Outcome → State → Prop} {hh : List (Nat × Nat × Nat × Nat)} (hR : y.cls = R) (hpl : plainName y.cls = true) (hn : (lg_sl av).length ≤ maxL)
    (body : ∀ (p : Program) (e : Env) (s : State) (m : MethodId) (below : List Frame) (meth : Method) (c : Code) (ls : Array Slot) (A : Nat → Prop), p.tables.exec = Jvm.exec → c.code = cc → meth.sig.returnType = ret → c.maxLocals = maxL → (∀ w ∈ lw_all, w.before av.toArray s = true) → s.vm.findClass R = some m.cls → meth.locks = false → c.exceptionTable.toList = tableOf hh → va_P D kCl ws s.heap → va_K D kCl tys s → va_D A ws → kSt G A s s.heap → (∀ q : Nat, s.heap.size ≤ q → A q) → va_S A s.heap s.heap [] → lv_has ls maxL (lv_args 0 av) → W p l e rm s m av.toArray below meth c s.heap [] 0 0 (MQ below (Qc A) av.toArray s mc ms A) (F0 m 0 ls [])) :
    Met l y (kWh y cc maxL ret hh) rm (va_Pc av (kPre D G tys (va_A ws sz) ws sz)) (Qc (va_A ws sz)) mc ms (va_A ws sz) := by
  refine va_MetW (cc := cc) (maxL := maxL) (ret := ret) (hh := hh) hpl rfl ?_
  intro p e s m args below meth c s₁ B hml hv
  obtain ⟨rfl, hsz, hP, hK, hD0, hst⟩ := hv
  have hts := atoms_spec (ws := kWh y cc maxL ret hh) B.pre
  subst hsz
  have hl := lv_entry av (n := maxL) hn
  rw [lg_entry_eq]
  generalize (lg_sl av ++ List.replicate (maxL - (lg_sl av).length) Slot.unset).toArray = ls at hl ⊢
  exact body p e s m below meth c ls _ B.exec B.bytes B.returns hml (fun w h => hts w (List.mem_cons_of_mem _ h)) (hR ▸ findClass_of_methodNamed B.named) B.notSynchronized (vx_table B (hts _ List.mem_cons_self)) hP hK (hD0.self (sz := s.heap.size)) hst (fun q h => Or.inr h) va_S.rf hl
theorem kMetHR {Qc : Array Value → State → Outcome → State → Prop} {hh : List (Nat × Nat × Nat × Nat)} (hR : y.cls = R) (hpl : plainName y.cls = true) (hn : (lg_sl av).length ≤ maxL)
    (body : ∀ (p : Program) (e : Env) (s : State) (m : MethodId) (below : List Frame) (meth : Method) (c : Code) (ls : Array Slot), p.tables.exec = Jvm.exec → c.code = cc → meth.sig.returnType = ret → c.maxLocals = maxL → (∀ w ∈ lw_all, w.before av.toArray s = true) → s.vm.findClass R = some m.cls → meth.locks = false → c.exceptionTable.toList = tableOf hh → va_P D kCl ws s.heap → va_K D kCl tys s → va_D (fun _ => True) ws → kSt G (fun _ => False) s s.heap → va_S (fun _ => False) s.heap s.heap [] → lv_has ls maxL (lv_args 0 av) → W p l e rm s m av.toArray below meth c s.heap [] 0 0 (MQ below Qc av.toArray s mc ms (fun _ => False)) (F0 m 0 ls [])) :
    Met l y (kWh y cc maxL ret hh) rm (va_Pc av (kPre D G tys (fun _ => False) ws sz)) Qc mc ms (fun _ => False) := by
  refine va_MetW (cc := cc) (maxL := maxL) (ret := ret) (hh := hh) hpl rfl ?_
  intro p e s m args below meth c s₁ B hml hv
  obtain ⟨rfl, hsz, hP, hK, hD0, hst⟩ := hv
  have hts := atoms_spec (ws := kWh y cc maxL ret hh) B.pre
  have hl := lv_entry av (n := maxL) hn
  rw [lg_entry_eq]
  generalize (lg_sl av ++ List.replicate (maxL - (lg_sl av).length) Slot.unset).toArray = ls at hl ⊢
  exact body p e s m below meth c ls B.exec B.bytes B.returns hml (fun w h => hts w (List.mem_cons_of_mem _ h)) (hR ▸ findClass_of_methodNamed B.named) B.notSynchronized (vx_table B (hts _ List.mem_cons_self)) hP hK hD0 hst va_S.rf hl
end KM
/-- no int is at least 0 and at most -1 -/
theorem kNo (x : Int32) : ¬ (0 ≤ x ∧ x ≤ -1) := by
  intro h
  have h1 := Int32.le_iff_toInt_le.mp h.1
  have h2 := Int32.le_iff_toInt_le.mp h.2
  have e0 : (0 : Int32).toInt = 0 := by decide
  have e1 : (-1 : Int32).toInt = -1 := by decide
  omega
theorem kGe {a b : Int32} (h : ¬ a < b) : b ≤ a := Int32.not_lt.mp h
theorem kLe {a b : Int32} (h : ¬ b < a) : a ≤ b := Int32.not_lt.mp h
theorem kLt {a b : Int32} (h : a < b) (h2 : b ≤ a) : False := absurd h (Int32.not_lt.mpr h2)
theorem kGtL {a b : Int32} (h : ¬ a ≤ b) : b < a := Int32.not_le.mp h
theorem kLeL {a b : Int32} (h : a ≤ b) : ¬ b < a := Int32.not_lt.mpr h
/-- what is at least 0 is above -1 -/
theorem kAb {x : Int32} (h : ¬ x < 0) : -1 < x := by
  have h1 := Int32.le_iff_toInt_le.mp (Int32.not_lt.mp h)
  have e0 : (0 : Int32).toInt = 0 := by decide
  have e1 : (-1 : Int32).toInt = -1 := by decide
  exact Int32.lt_iff_toInt_lt.mpr (by omega)
theorem kNil {D : va_G} {H : Heap} : va_P D kCl [] H := fun k q h => by simp at h
theorem kNilD {A : Nat → Prop} : va_D A [] := ⟨fun i j p q h => by simp at h, fun k q h => by simp at h⟩
