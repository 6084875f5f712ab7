/-! What every contract of this claim says, and how it is used. -/
abbrev pz_G : Type := va_G × (Nat → ClassId)
abbrev pz_T (G : pz_G) : List (ClassId × FieldType) := [(G.2 0, .int), (G.2 1, .boolean), (G.2 2, .long), (G.2 3, .char), (G.2 4, .double), (G.2 5, .object "java/lang/Object"), (G.2 6, .array .int)]
theorem pz_good {ws : List Cond} (h : ∀ w ∈ ws, w ∈ lw_good) : GoodIn lw_good ws := fun w hw => ⟨h w hw, good_of_word (List.mem_filter.mp (h w hw)).2⟩
abbrev pz_cd (y : MethodName) (b : ByteArray) (n : Nat) (ret : Option FieldType) : List Cond := Cond.code y b n ret :: lw_good
abbrev pz_cw (y : MethodName) (b : ByteArray) (n : Nat) (ret : Option FieldType) (hh : List (Nat × Nat × Nat × Nat)) : List Cond := Cond.codeWith y b n ret hh :: lw_good
theorem pz_gC {y : MethodName} {b : ByteArray} {n : Nat} {ret : Option FieldType} (h : Cond.code y b n ret ∈ lw_good) : GoodIn lw_good (pz_cd y b n ret) := pz_good (List.forall_mem_cons.mpr ⟨h, fun _ h => h⟩)
theorem pz_gV {own C : String} {i : Nat} {y : MethodName} {b : ByteArray} {n : Nat} {ret : Option FieldType} (h1 : Cond.methodLink own i y ∈ lw_good) (h2 : Cond.instanceMethod y ∈ lw_good) (h3 : Cond.selects C y y ∈ lw_good) (h4 : Cond.initialized C ∈ lw_good) (h5 : Cond.code y b n ret ∈ lw_good) : GoodIn lw_good (wsV own i C y (pz_cd y b n ret)) :=
  pz_good (List.forall_mem_cons.mpr ⟨h1, List.forall_mem_cons.mpr ⟨h2, List.forall_mem_cons.mpr ⟨h3, List.forall_mem_cons.mpr ⟨h4, List.forall_mem_cons.mpr ⟨h5, fun _ h => h⟩⟩⟩⟩⟩)
theorem pz_gS {own : String} {i : Nat} {y : MethodName} {b : ByteArray} {n : Nat} {ret : Option FieldType} (h1 : Cond.methodLink own i y ∈ lw_good) (h2 : Cond.static y ∈ lw_good) (h4 : Cond.initialized y.cls ∈ lw_good) (h5 : Cond.code y b n ret ∈ lw_good) : GoodIn lw_good (va_wsS own i y (pz_cd y b n ret)) :=
  pz_good (List.forall_mem_cons.mpr ⟨h1, List.forall_mem_cons.mpr ⟨h2, List.forall_mem_cons.mpr ⟨h4, List.forall_mem_cons.mpr ⟨h5, fun _ h => h⟩⟩⟩⟩)
theorem pz_gSW {own : String} {i : Nat} {y : MethodName} {b : ByteArray} {n : Nat} {ret : Option FieldType} {hh : List (Nat × Nat × Nat × Nat)} (h1 : Cond.methodLink own i y ∈ lw_good) (h2 : Cond.static y ∈ lw_good) (h4 : Cond.initialized y.cls ∈ lw_good) (h5 : Cond.codeWith y b n ret hh ∈ lw_good) : GoodIn lw_good (va_wsS own i y (pz_cw y b n ret hh)) :=
  pz_good (List.forall_mem_cons.mpr ⟨h1, List.forall_mem_cons.mpr ⟨h2, List.forall_mem_cons.mpr ⟨h4, List.forall_mem_cons.mpr ⟨h5, fun _ h => h⟩⟩⟩⟩)
theorem pz_gF {own C : String} {i : Nat} {x y : MethodName} {b : ByteArray} {n : Nat} {ret : Option FieldType} (h1 : Cond.methodLink own i x ∈ lw_good) (h2 : Cond.selects C x y ∈ lw_good) (h3 : Cond.instanceMethod y ∈ lw_good) (h4 : Cond.initialized y.cls ∈ lw_good) (h5 : Cond.code y b n ret ∈ lw_good) : GoodIn lw_good (va_wsF own i C x y (pz_cd y b n ret)) :=
  pz_good (List.forall_mem_cons.mpr ⟨h1, List.forall_mem_cons.mpr ⟨h2, List.forall_mem_cons.mpr ⟨h3, List.forall_mem_cons.mpr ⟨h4, List.forall_mem_cons.mpr ⟨h5, fun _ h => h⟩⟩⟩⟩⟩)
/-- the class of rows of int rows -/
def pz_AOA (U : State) : Prop := ∃ (comp c : ClassId) (k : Class), U.vm.findClass (FieldType.array .int).toString = some comp ∧ U.vm.classes[c]? = some k ∧ k.kind = .array comp (.array .int) ∧ U.vm.findClass ("[" ++ (FieldType.array .int).toString) = some c
theorem pz_AOA.moved {u U : State} (hvm : u.vm.Alike U.vm) (h : pz_AOA u) : pz_AOA U := by
  obtain ⟨comp, c, k, h1, h2, h3, h4⟩ := h
  obtain ⟨k', hk', he⟩ := hvm.2.2 _ _ h2
  exact ⟨comp, c, k', by rw [hvm.findClass]; exact h1, hk', by rw [he]; exact h3, by rw [hvm.findClass]; exact h4⟩
section PZM
variable {E : CtlPost} {e : Env} {d : Bool} {acts : List Action} {s : State}
/-- an empty row of references -/
theorem pz_new0 {c comp : ClassId} {k : Class} {t : FieldType} (hk : s.vm.classes[c]? = some k) (hkind : k.kind = .array comp t) {Q : Addr → Pre} (h1 : s.heap.size < e.platform.maxCells) (h2 : s.slotsUsed ≤ e.platform.maxSlots)
    (hq : Q s.heap.size d acts (s.pushCell { cls := c, slots := Array.replicate 0 .null, vm := .none })) : wp (Jvm.newArray c 0 .null) Q E e d acts s := by
  have hda : allocActs (Array.replicate 0 Value.null) s.heap.size acts = acts := by
    unfold allocActs
    rw [if_pos (by simp)]
  have g1 : ¬ 0 > e.platform.arrayLengthLimit := Nat.not_lt_zero _
  have g2 : ¬ 0 * componentBytes t > e.platform.maxHeapBytes := by rw [Nat.zero_mul]; exact Nat.not_lt_zero _
  have hfit : ∀ i v, (Array.replicate 0 Value.null)[i]? = some v → s.fitsSlot c .none i v = true := fun i v h => by simp at h
  simp only [Jvm.newArray, Jvm.arrayFits, wp_bind', W.ask, W.ite, g1, if_false, wp_pure', W.theClass, hk, hkind, g2, W.alloc, W.stop, Option.some.injEq, exists_eq_left', Array.size_replicate, hda]
  rw [if_neg (by omega)]
  exact ⟨h1, h2, hfit, hq⟩
/-- new T[0][0]: the outer row alone -/
theorem pz_make0 {c comp : ClassId} {k : Class} {t : FieldType} (hk : s.vm.classes[c]? = some k) (hkind : k.kind = .array comp t) {Q : Addr → Pre} (h1 : s.heap.size < e.platform.maxCells) (h2 : s.slotsUsed ≤ e.platform.maxSlots)
    (hq : ∀ d' acts', Q s.heap.size d' acts' (s.pushCell { cls := c, slots := Array.replicate 0 .null, vm := .none })) : wp (multianewarray.make c [0, 0]) Q E e d acts s := by
  have hn : ¬ (0 : Int32) < 0 := by decide
  have hz : (0 : Int32).toNatClampNeg = 0 := rfl
  have hfind : (([0] : List Int32).find? (· < 0)) = none := by decide
  rw [multianewarray.make]
  simp only [wp_bind', W.ite, hn, if_false, wp_pure', W.theClass, hk, hkind, Option.some.injEq, exists_eq_left', hz]
  refine pz_new0 hk hkind h1 h2 ?_
  simp only [hfind]
  rw [ite_self, wp_bind', Std.Legacy.Range.forIn_eq_forIn_range']
  have hsz : ([:0] : Std.Legacy.Range).size = 0 := by simp [Std.Legacy.Range.size]
  rw [hsz]
  simp only [List.range'_zero, List.forIn_nil, wp_pure']
  exact hq _ _
end PZM
/-- what the contracts take as given of things that no cell of ours is: static rows, small Integers, texts, links among nest mates -/
def pz_E (X : Nat → Nat) (A : Nat → Prop) (U : State) (H : Heap) : Prop :=
  (va_Z "Sourcewright" "PLAIN" "[I" (.ref (X 0)) A U H ∧ va_T .int (X 0) 16 pz_fP A U H) ∧
  (va_Z "Sourcewright" "BRANCHES" "[I" (.ref (X 1)) A U H ∧ va_T .int (X 1) 16 pz_fB A U H) ∧
  (va_Z "Sourcewright" "SPANS" "[I" (.ref (X 2)) A U H ∧ va_T .int (X 2) 19 pz_fS A U H) ∧
  (va_Z "java/util/ArrayList" "DEFAULTCAPACITY_EMPTY_ELEMENTDATA" "[Ljava/lang/Object;" (.ref (X 3)) A U H ∧ va_T (.object "java/lang/Object") (X 3) 0 (fun _ => .null) A U H ∧ va_O "[Ljava/lang/Object;" (X 3) A U H) ∧
  (va_Z "java/lang/Integer$IntegerCache" "high" "I" (.int 127) A U H ∧ va_Z "java/lang/Integer$IntegerCache" "cache" "[Ljava/lang/Integer;" (.ref (X 4)) A U H ∧ va_T (.object "java/lang/Integer") (X 4) 256 (fun k => .ref (X (1000 + k))) A U H ∧ vb_C (fun k => X (1000 + k)) A U H) ∧
  (vx_Zq Bundle.tN "UNASSIGNED_STACK" Bundle.steD A U H ∧ vx_Zq Bundle.tN "SUPPRESSED_SENTINEL" Bundle.listD A U H) ∧
  va_Mi "[Ljava/lang/Object;" (X 5) U ∧
  (∀ q ∈ pz_strs, ∃ a : Nat, vk_R q.1 q.2.1 q.2.2 a U) ∧ (∀ w ∈ pz_nx, va_Nw w U) ∧ (∀ q ∈ pz_ncs, va_Nc q.1 q.2 U) ∧ va_AO "java/lang/Object" U ∧ pz_AOA U ∧ (∀ q ∈ pz_fws, va_Fw q.1 q.2.1 q.2.2 U)
theorem pz_E.to {X : Nat → Nat} {A A1 : Nat → Prop} {s U : State} {H H1 : Heap} (h : pz_E X A s H) (hW : s.WarmedH U.vm) (hq : ∀ a : Nat, a < H.size → ¬ A a → H1[a]? = H[a]?) (hAB : ∀ q, A1 q → A q) : pz_E X A1 U H1 := by
  have hv := hW.alike
  obtain ⟨⟨a1, a2⟩, ⟨b1, b2⟩, ⟨c1, c2⟩, ⟨d1, d2, d3⟩, ⟨e1, e2, e3, e4⟩, ⟨f1, f2⟩, g1, g2, g3, g4, g5, g7, g6⟩ := h
  refine ⟨⟨((a1.moved hv).kept hq).narrow hAB, ((a2.moved hv).kept hq).narrow hAB⟩, ⟨((b1.moved hv).kept hq).narrow hAB, ((b2.moved hv).kept hq).narrow hAB⟩, ⟨((c1.moved hv).kept hq).narrow hAB, ((c2.moved hv).kept hq).narrow hAB⟩,
    ⟨((d1.moved hv).kept hq).narrow hAB, ((d2.moved hv).kept hq).narrow hAB, ((d3.moved hv).kept hq).narrow hAB⟩, ⟨((e1.moved hv).kept hq).narrow hAB, ((e2.moved hv).kept hq).narrow hAB, ((e3.moved hv).kept hq).narrow hAB, ((e4.moved hv).kept hq).narrow hAB⟩,
    ⟨((f1.moved hv).kept hq).narrow hAB, ((f2.moved hv).kept hq).narrow hAB⟩, g1.moved hv, fun q hqm => ?_, fun w hw => pz_nx_warm w hw hW (g3 w hw), fun q hqm => (g4 q hqm).moved hv, g5.moved hv, g7.moved hv, fun q hqm => (g6 q hqm).moved (pz_fws_ok q hqm) hv⟩
  obtain ⟨a, ha⟩ := g2 q hqm
  exact ⟨a, ha.warm hW⟩
theorem pz_E.calling {X : Nat → Nat} {A : Nat → Prop} {U : State} {g : JFrame} {mk : MethodId} {a : Array Value} (h : pz_E X A U U.heap) : pz_E X A (U.calling g mk a) (U.calling g mk a).heap := h.to (State.WarmedH.refl U) (fun _ _ _ => rfl) (fun _ h => h)
def pz_pre (G : pz_G) (X : Nat → Nat) (sz : Nat) (ws : va_W) (U : State) : Prop := U.heap.size = sz ∧ va_P G.1 pz_cl ws U.heap ∧ va_K G.1 pz_cl (pz_T G) U ∧ va_D (fun _ => True) ws ∧ pz_E X (va_A ws sz) U U.heap
theorem pz_blind {G : pz_G} {X : Nat → Nat} {sz : Nat} {ws : va_W} {av : List Value} : FrameBlind (va_Pc av (pz_pre G X sz ws)) := fun a U g mk q => by
  obtain ⟨h1, h2, h3, h4, h5, h6⟩ := q
  exact ⟨h1, h2, h3, va_K.moved (u := U) (U := U.calling g mk a) (Vm.Alike.refl U.vm) h4, h5, pz_E.calling h6⟩
/-- a method that returns v u in the world w1 u, for some u -/
def pz_QR {S : Type} (G : pz_G) (v : S → Option Value) (w1 : S → va_W) (A : Nat → Prop) : Array Value → State → Outcome → State → Prop := fun _ st oc t => (∃ u : S, oc = .returned (v u) ∧ va_P G.1 pz_cl (w1 u) t.heap ∧ va_D A (w1 u)) ∧ va_F A st t
def pz_XF : String → State → State → Prop := fun _ _ _ => False
def pz_QF : Array Value → State → Outcome → State → Prop := fun _ _ _ _ => False
def pz_XT (E : String) (A : Nat → Prop) : String → State → State → Prop := fun E1 st t => E1 = E ∧ va_F A st t
abbrev pz_rm (fr lc mc ms : Nat) : Room := { frames := fr, cells := mc, slots := ms, locals := lc }
abbrev pz_MR {S : Type} (l : Launch) (y : MethodName) (cs : List Cond) (fr lc mc ms : Nat) (G : pz_G) (X : Nat → Nat) (sz : Nat) (ws : va_W) (av : List Value) (v : S → Option Value) (w1 : S → va_W) : Prop :=
  vx_Met l y cs (pz_rm fr lc mc ms) (va_Pc av (pz_pre G X sz ws)) (pz_QR G v w1 (va_A ws sz)) pz_XF mc ms (va_A ws sz)
abbrev pz_MT (l : Launch) (y : MethodName) (cs : List Cond) (fr lc mc ms : Nat) (G : pz_G) (X : Nat → Nat) (sz : Nat) (ws : va_W) (av : List Value) (E : String) : Prop :=
  vx_Met l y cs (pz_rm fr lc mc ms) (va_Pc av (pz_pre G X sz ws)) pz_QF (pz_XT E (va_A ws sz)) mc ms (va_A ws sz)
/-- a body's start -/
theorem pz_on {l : Launch} {y : MethodName} {b : ByteArray} {n : Nat} {ret : Option FieldType} {fr lc mc ms : Nat} {G : pz_G} {X : Nat → Nat} {sz : Nat} {ws : va_W} {av : List Value} {Qc : (Nat → Prop) → Array Value → State → Outcome → State → Prop} {XC : (Nat → Prop) → String → State → State → Prop}
    (hy : plainName y.cls = true) (hle : (lg_sl av).length ≤ n)
    (body : ∀ (p : Program) (e : Env) (s : State) (m : MethodId) (below : List Frame) (meth : Method) (c : Code) (A : Nat → Prop), p.tables.exec = Jvm.exec → c.code = b → meth.sig.returnType = ret → c.maxLocals = n → s.vm.findClass y.cls = some m.cls → (∀ w ∈ lw_good, w.before av.toArray s = true) → meth.locks = false → meth.name = y.name → (∀ x ∈ c.exceptionTable.toList, False) → va_P G.1 pz_cl ws s.heap → va_K G.1 pz_cl (pz_T G) s → va_D A ws → va_S A s.heap s.heap [] → (∀ q : Nat, s.heap.size ≤ q → A q) → pz_E X A s s.heap →
      ∀ ls : Array Slot, lv_has ls n (lv_args 0 av) → W p l e (pz_rm fr lc mc ms) s m av.toArray below meth c s.heap [] 0 0 (vx_MQ below (Qc A) (XC A) av.toArray s mc ms A) (F0 m 0 ls [])) :
    vx_Met l y (pz_cd y b n ret) (pz_rm fr lc mc ms) (va_Pc av (pz_pre G X sz ws)) (Qc (va_A ws sz)) (XC (va_A ws sz)) mc ms (va_A ws sz) := by
  refine vx_ofW (cc := b) (maxL := n) (ret := ret) hy rfl ?_
  intro p e s m args below meth c s₁ B hml hx0 hv
  obtain ⟨rfl, hsz, hP, hK, hD0, hE⟩ := hv
  subst hsz
  rw [lg_entry_eq]
  exact body p e s m below meth c _ B.exec B.bytes B.returns hml (findClass_of_methodNamed B.named) (fun w h => atoms_spec (ws := pz_cd y b n ret) B.pre w (List.mem_cons_of_mem _ h)) B.notSynchronized (name_of_methodNamed B.named B.method).1 hx0 hP hK (hD0.self (sz := s.heap.size)) va_S.rf (fun q h => Or.inr h) hE _ (lv_entry av hle)
/-- a body's start, of a method with handlers -/
theorem pz_onH {l : Launch} {y : MethodName} {b : ByteArray} {n : Nat} {ret : Option FieldType} {hh : List (Nat × Nat × Nat × Nat)} {fr lc mc ms : Nat} {G : pz_G} {X : Nat → Nat} {sz : Nat} {ws : va_W} {av : List Value} {Qc : (Nat → Prop) → Array Value → State → Outcome → State → Prop} {XC : (Nat → Prop) → String → State → State → Prop}
    (hy : plainName y.cls = true) (hle : (lg_sl av).length ≤ n)
    (body : ∀ (p : Program) (e : Env) (s : State) (m : MethodId) (below : List Frame) (meth : Method) (c : Code) (A : Nat → Prop), p.tables.exec = Jvm.exec → c.code = b → meth.sig.returnType = ret → c.maxLocals = n → s.vm.findClass y.cls = some m.cls → (∀ w ∈ lw_good, w.before av.toArray s = true) → meth.locks = false → meth.name = y.name → c.exceptionTable.toList = tableOf hh → va_P G.1 pz_cl ws s.heap → va_K G.1 pz_cl (pz_T G) s → va_D A ws → va_S A s.heap s.heap [] → (∀ q : Nat, s.heap.size ≤ q → A q) → pz_E X A s s.heap →
      ∀ ls : Array Slot, lv_has ls n (lv_args 0 av) → W p l e (pz_rm fr lc mc ms) s m av.toArray below meth c s.heap [] 0 0 (vx_MQ below (Qc A) (XC A) av.toArray s mc ms A) (F0 m 0 ls [])) :
    vx_Met l y (pz_cw y b n ret hh) (pz_rm fr lc mc ms) (va_Pc av (pz_pre G X sz ws)) (Qc (va_A ws sz)) (XC (va_A ws sz)) mc ms (va_A ws sz) := by
  refine vx_ofWH (cc := b) (maxL := n) (ret := ret) (hh := hh) hy rfl ?_
  intro p e s m args below meth c s₁ B hml hv
  obtain ⟨rfl, hsz, hP, hK, hD0, hE⟩ := hv
  subst hsz
  rw [lg_entry_eq]
  have ht := atoms_spec (ws := pz_cw y b n ret hh) B.pre
  exact body p e s m below meth c _ B.exec B.bytes B.returns hml (findClass_of_methodNamed B.named) (fun w h => ht w (List.mem_cons_of_mem _ h)) B.notSynchronized (name_of_methodNamed B.named B.method).1 (vx_table (x := y) B (ht _ List.mem_cons_self)) hP hK (hD0.self (sz := s.heap.size)) va_S.rf (fun q h => Or.inr h) hE _ (lv_entry av hle)
theorem pz_onR {l : Launch} {y : MethodName} {b : ByteArray} {n : Nat} {ret : Option FieldType} {fr lc mc ms : Nat} {G : pz_G} {X : Nat → Nat} {sz : Nat} {ws : va_W} {av : List Value} {S : Type} {v : S → Option Value} {w1 : S → va_W}
    (hy : plainName y.cls = true) (hle : (lg_sl av).length ≤ n)
    (body : ∀ (p : Program) (e : Env) (s : State) (m : MethodId) (below : List Frame) (meth : Method) (c : Code) (A : Nat → Prop), p.tables.exec = Jvm.exec → c.code = b → meth.sig.returnType = ret → c.maxLocals = n → s.vm.findClass y.cls = some m.cls → (∀ w ∈ lw_good, w.before av.toArray s = true) → meth.locks = false → meth.name = y.name → (∀ x ∈ c.exceptionTable.toList, False) → va_P G.1 pz_cl ws s.heap → va_K G.1 pz_cl (pz_T G) s → va_D A ws → va_S A s.heap s.heap [] → (∀ q : Nat, s.heap.size ≤ q → A q) → pz_E X A s s.heap →
      ∀ ls : Array Slot, lv_has ls n (lv_args 0 av) → W p l e (pz_rm fr lc mc ms) s m av.toArray below meth c s.heap [] 0 0 (vx_MQ below (pz_QR G v w1 A) pz_XF av.toArray s mc ms A) (F0 m 0 ls [])) :
    pz_MR l y (pz_cd y b n ret) fr lc mc ms G X sz ws av v w1 := pz_on (Qc := fun A => pz_QR G v w1 A) (XC := fun _ => pz_XF) hy hle body
theorem pz_onT {l : Launch} {y : MethodName} {b : ByteArray} {n : Nat} {ret : Option FieldType} {fr lc mc ms : Nat} {G : pz_G} {X : Nat → Nat} {sz : Nat} {ws : va_W} {av : List Value} {E : String}
    (hy : plainName y.cls = true) (hle : (lg_sl av).length ≤ n)
    (body : ∀ (p : Program) (e : Env) (s : State) (m : MethodId) (below : List Frame) (meth : Method) (c : Code) (A : Nat → Prop), p.tables.exec = Jvm.exec → c.code = b → meth.sig.returnType = ret → c.maxLocals = n → s.vm.findClass y.cls = some m.cls → (∀ w ∈ lw_good, w.before av.toArray s = true) → meth.locks = false → meth.name = y.name → (∀ x ∈ c.exceptionTable.toList, False) → va_P G.1 pz_cl ws s.heap → va_K G.1 pz_cl (pz_T G) s → va_D A ws → va_S A s.heap s.heap [] → (∀ q : Nat, s.heap.size ≤ q → A q) → pz_E X A s s.heap →
      ∀ ls : Array Slot, lv_has ls n (lv_args 0 av) → W p l e (pz_rm fr lc mc ms) s m av.toArray below meth c s.heap [] 0 0 (vx_MQ below pz_QF (pz_XT E A) av.toArray s mc ms A) (F0 m 0 ls [])) :
    pz_MT l y (pz_cd y b n ret) fr lc mc ms G X sz ws av E := pz_on (Qc := fun _ => pz_QF) (XC := fun A => pz_XT E A) hy hle body
theorem pz_onHR {l : Launch} {y : MethodName} {b : ByteArray} {n : Nat} {ret : Option FieldType} {hh : List (Nat × Nat × Nat × Nat)} {fr lc mc ms : Nat} {G : pz_G} {X : Nat → Nat} {sz : Nat} {ws : va_W} {av : List Value} {S : Type} {v : S → Option Value} {w1 : S → va_W}
    (hy : plainName y.cls = true) (hle : (lg_sl av).length ≤ n)
    (body : ∀ (p : Program) (e : Env) (s : State) (m : MethodId) (below : List Frame) (meth : Method) (c : Code) (A : Nat → Prop), p.tables.exec = Jvm.exec → c.code = b → meth.sig.returnType = ret → c.maxLocals = n → s.vm.findClass y.cls = some m.cls → (∀ w ∈ lw_good, w.before av.toArray s = true) → meth.locks = false → meth.name = y.name → c.exceptionTable.toList = tableOf hh → va_P G.1 pz_cl ws s.heap → va_K G.1 pz_cl (pz_T G) s → va_D A ws → va_S A s.heap s.heap [] → (∀ q : Nat, s.heap.size ≤ q → A q) → pz_E X A s s.heap →
      ∀ ls : Array Slot, lv_has ls n (lv_args 0 av) → W p l e (pz_rm fr lc mc ms) s m av.toArray below meth c s.heap [] 0 0 (vx_MQ below (pz_QR G v w1 A) pz_XF av.toArray s mc ms A) (F0 m 0 ls [])) :
    pz_MR l y (pz_cw y b n ret hh) fr lc mc ms G X sz ws av v w1 := pz_onH (Qc := fun A => pz_QR G v w1 A) (XC := fun _ => pz_XF) hy hle body
theorem pz_wk_tab {w : Cond} (h : pz_wk w = true) : w.onTables = true := by
  cases w <;> first | rfl | exact absurd (show false = true from h) Bool.false_ne_true
section PZ
variable {p : Program} {l : Launch} {e : Env} {R : Room} {s : State} {m : MethodId} {args : Array Value} {below : List Frame} {meth : Method} {c : Code} {H : Heap} {locs : List Loc} {cells slots : Nat} {Q : State → Prop}
variable {cc : ByteArray} {pc : Nat} {ls : Array Slot} {rest st0 : List Value} {G : pz_G} {X : Nat → Nat} {A : Nat → Prop} {ws : va_W}
theorem pz_K {x y : Int32} (h : x = y) (k : W p l e R s m args below meth c H locs cells slots Q (F0 m pc ls (.int y :: rest))) : W p l e R s m args below meth c H locs cells slots Q (F0 m pc ls (.int x :: rest)) := h ▸ k
theorem pz_KL {x y : Int64} (h : x = y) (k : W p l e R s m args below meth c H locs cells slots Q (F0 m pc ls (.long y :: rest))) : W p l e R s m args below meth c H locs cells slots Q (F0 m pc ls (.long x :: rest)) := h ▸ k
theorem pz_nt {a : Prop} {P : Prop} (h : ¬ a) : a → P := fun c => absurd c h
/-- what a call finds -/
theorem pz_preS {wc : va_W} {av : List Value} (hK : va_K G.1 pz_cl (pz_T G) s) (hP : va_P G.1 pz_cl ws H) (hD : va_D A ws) (hS : va_S A s.heap H locs) (hA : ∀ q : Nat, s.heap.size ≤ q → A q) (hE : pz_E X A s s.heap) (isC : List Nat) (hn : va_nd isC = true) (hC : isC.map (fun i => ws[i]?) = wc.map some) : PreS s H (va_Pc av (pz_pre G X H.size wc)) av := by
  refine ⟨pz_blind, fun U hU hW => ⟨rfl, by rw [hU], ?_, va_K.moved hW.alike hK, (hD.sub isC hn hC).weaken (fun _ _ _ _ => trivial), ?_⟩⟩
  · rw [hU]
    intro k q hq
    have h1 : (isC.map (fun i => ws[i]?))[k]? = some (some q) := by rw [hC, List.getElem?_map, hq]; rfl
    rw [List.getElem?_map] at h1
    cases hi : isC[k]? with
    | none => rw [hi] at h1; cases h1
    | some i => rw [hi] at h1; exact hP i q (Option.some.inj h1)
  · rw [hU]
    exact hE.to hW hS.2.1 (va_free hD hS hA isC hC)
theorem pz_preV {wc : va_W} {a ci : Nat} {fs As : List Value} {C : vw_C} (hK : va_K G.1 pz_cl (pz_T G) s) (hP : va_P G.1 pz_cl ws H) (hD : va_D A ws) (hS : va_S A s.heap H locs) (hA : ∀ q : Nat, s.heap.size ≤ q → A q) (hE : pz_E X A s s.heap) (q0 : Nat) (he : ws[q0]? = some (a, .inr (ci, fs))) (hc : pz_cl[ci]? = some C) (isC : List Nat) (hn : va_nd isC = true) (hC : isC.map (fun i => ws[i]?) = wc.map some) : PreV s H C.1 a (va_Pc (.ref a :: As) (pz_pre G X H.size wc)) As :=
  ⟨pz_blind, va_recv hK hP hc he, (pz_preS hK hP hD hS hA hE isC hn hC).2⟩
/-- behind a call that returns: the rest of the world as it was, and what the callee left -/
theorem pz_go {S : Type} {v : S → Option Value} {w1 : S → va_W} {wc wr : va_W} {a : Array Value} {mc ms : Nat} (hr : vx_Run p l e R s m args below meth c H locs cells slots mc ms (F0 m pc ls st0) rest (pz_QR G v w1 (va_A wc H.size) a) pz_XF (va_A wc H.size)) (hP : va_P G.1 pz_cl ws H) (hD : va_D A ws) (hS : va_S A s.heap H locs) (hA : ∀ q : Nat, s.heap.size ≤ q → A q)
    (isC isR : List Nat) (hC : isC.map (fun i => ws[i]?) = wc.map some) (hR : isR.map (fun i => ws[i]?) = wr.map some) (hn : va_nd isR = true) (hdis : ∀ i ∈ isR, i ∉ isC)
    (kk : ∀ (u : S) (H1 : Heap) (locs1 : List Loc), va_P G.1 pz_cl (wr ++ w1 u) H1 → va_D A (wr ++ w1 u) → va_S A s.heap H1 locs1 → W p l e R s m args below meth c H1 locs1 (cells + mc) (slots + ms) Q (F0 m (pc + 3) ls ((v u).toList ++ rest))) : W p l e R s m args below meth c H locs cells slots Q (F0 m pc ls st0) := by
  have hF := va_free hD hS hA isC hC
  intro T hT Y
  rcases hr T hT Y with ⟨vv, st₀, t, T', L, h0, Y', hL, e1, e2, ⟨⟨u, hv, hP1, hD1⟩, hz, hk⟩, st⟩ | ⟨_, _, _, _, _, _, _, _, _, _, _, _, hx, _⟩
  · cases hv
    rw [h0] at hz hk
    have hk1 : ∀ q : Nat, q < H.size → ¬ va_A wc H.size q → T'.heap[q]? = H[q]? := fun q h1 h2 => by rw [e1]; exact hk q h1 h2
    rw [← e1] at hP1
    obtain ⟨hP2, hD2⟩ := va_join hP hD isC isR hC hR hn hdis hk1 hF hP1 hD1
    obtain ⟨t2, a1, b1⟩ := kk u T'.heap (locs ++ L) hP2 hD2
      ⟨Nat.le_trans hS.1 (by rw [e1]; exact hz), fun q h1 h2 => by rw [hk1 q (Nat.lt_of_lt_of_le h1 hS.1) (fun z => h2 (hF q z))]; exact hS.2.1 q h1 h2, fun q hq => by
        rcases List.mem_append.mp hq with h | h
        · exact hS.2.2 q h
        · exact hF _ (hL q h)⟩ T' rfl Y'
    exact ⟨t2, st t2 a1, b1⟩
  · exact hx.elim
/-- behind a call that throws -/
theorem pz_goT {E : String} {wc wr : va_W} {a : Array Value} {mc ms : Nat} (hr : vx_Run p l e R s m args below meth c H locs cells slots mc ms (F0 m pc ls st0) rest (pz_QF a) (pz_XT E (va_A wc H.size)) (va_A wc H.size)) (hP : va_P G.1 pz_cl ws H) (hD : va_D A ws) (hS : va_S A s.heap H locs) (hA : ∀ q : Nat, s.heap.size ≤ q → A q)
    (isC isR : List Nat) (hC : isC.map (fun i => ws[i]?) = wc.map some) (hR : isR.map (fun i => ws[i]?) = wr.map some) (hn : va_nd isR = true) (hdis : ∀ i ∈ isR, i ∉ isC)
    (kk : ∀ (ce : Cell) (q9 : Addr) (H1 : Heap) (locs1 : List Loc), va_P G.1 pz_cl wr H1 → va_D A wr → va_S A s.heap H1 locs1 → H1[q9]? = some ce → ce.vm = .none → s.vm.findClass E = some ce.cls → vx_W p l e R s m args below meth c H1 locs1 (cells + mc) (slots + ms) Q (F0 m pc ls rest) q9) : W p l e R s m args below meth c H locs cells slots Q (F0 m pc ls st0) := by
  have hF := va_free hD hS hA isC hC
  intro T hT Y
  rcases hr T hT Y with ⟨_, _, _, _, _, _, _, _, _, _, hx, _⟩ | ⟨q9, st₀, t, T', L, E1, ce, h0, Y', hL, e1, e2, ⟨rfl, hz, hk⟩, hce, hcv, hcl, st⟩
  · exact hx.elim
  · rw [h0] at hz hk
    have hk1 : ∀ q : Nat, q < H.size → ¬ va_A wc H.size q → T'.heap[q]? = H[q]? := fun q h1 h2 => by rw [e1]; exact hk q h1 h2
    obtain ⟨hP2, hD2⟩ := va_join (w1 := []) hP hD isC isR hC hR hn hdis hk1 hF (fun k q h => by simp at h) ⟨fun i j p q h => by simp at h, fun k q h => by simp at h⟩
    rw [List.append_nil] at hP2 hD2
    obtain ⟨t2, a1, b1⟩ := kk ce q9 T'.heap (locs ++ L) hP2 hD2
      ⟨Nat.le_trans hS.1 (by rw [e1]; exact hz), fun q h1 h2 => by rw [hk1 q (Nat.lt_of_lt_of_le h1 hS.1) (fun z => h2 (hF q z))]; exact hS.2.1 q h1 h2, fun q hq => by
        rcases List.mem_append.mp hq with h | h
        · exact hS.2.2 q h
        · exact hF _ (hL q h)⟩ (by rw [e1]; exact hce) hcv hcl T' rfl Y'
    exact ⟨t2, st.trans a1, b1⟩
theorem pz_thrF (hS : va_S A s.heap H locs) {t : State} (hsz : H.size ≤ t.heap.size) (hk : ∀ q : Nat, q < H.size → t.heap[q]? = H[q]?) : va_F A s t :=
  ⟨Nat.le_trans hS.1 hsz, fun q h1 h2 => by rw [hk q (Nat.lt_of_lt_of_le h1 hS.1)]; exact hS.2.1 q h1 h2⟩
/-- the ends -/
theorem pz_rz {S : Type} {v1 : S → Option Value} {w1 : S → va_W} {v : Int32} {ty : FieldType} {mc ms : Nat} (hx : p.tables.exec = Jvm.exec) (hb : c.code = cc) (hr : meth.sig.returnType = some ty) (hlocks : meth.locks = false) (hn : narrow ty (.int v) = .int v) (hS : va_S A s.heap H locs) (hmc : cells ≤ mc) (hms : slots ≤ ms) (hdg : decode cc pc = .ok (.ireturn, 1)) (u : S) (hv : v1 u = some (.int v)) (hP : va_P G.1 pz_cl (w1 u) H) (hD : va_D A (w1 u)) {XC : String → State → State → Prop} : W p l e R s m args below meth c H locs cells slots (vx_MQ below (pz_QR G v1 w1 A) XC args s mc ms A) (F0 m pc ls [.int v]) :=
  W.widen hmc hms (vx_ret (W.widen (Nat.le_refl _) (Nat.le_refl _) (W.zret hx hb hr hn (fun t ht hW => ⟨⟨u, by rw [hv], by rw [ht]; exact hP, hD⟩, hS.F ht⟩) hS.2.2 hdg hlocks)))
theorem pz_rv {S : Type} {v1 : S → Option Value} {w1 : S → va_W} {mc ms : Nat} (hx : p.tables.exec = Jvm.exec) (hb : c.code = cc) (hr : meth.sig.returnType = none) (hlocks : meth.locks = false) (hS : va_S A s.heap H locs) (hmc : cells ≤ mc) (hms : slots ≤ ms) (hdg : decode cc pc = .ok (.return_, 1)) (u : S) (hv : v1 u = none) (hP : va_P G.1 pz_cl (w1 u) H) (hD : va_D A (w1 u)) {XC : String → State → State → Prop} : W p l e R s m args below meth c H locs cells slots (vx_MQ below (pz_QR G v1 w1 A) XC args s mc ms A) (F0 m pc ls []) :=
  W.widen hmc hms (vx_ret (W.vret hx hb hr (fun t ht hW => ⟨⟨u, by rw [hv], by rw [ht]; exact hP, hD⟩, hS.F ht⟩) hS.2.2 hdg hlocks))
theorem pz_ra {S : Type} {v1 : S → Option Value} {w1 : S → va_W} {v : Value} {rt : FieldType} {mc ms : Nat} (hx : p.tables.exec = Jvm.exec) (hb : c.code = cc) (hr : meth.sig.returnType = some rt) (hlocks : meth.locks = false) (hrt : (∃ n, rt = .object n) ∨ ∃ t, rt = .array t) (hva : v = .null ∨ ∃ a, v = .ref a) (hS : va_S A s.heap H locs) (hmc : cells ≤ mc) (hms : slots ≤ ms) (hdg : decode cc pc = .ok (.areturn, 1)) (u : S) (hv : v1 u = some v) (hP : va_P G.1 pz_cl (w1 u) H) (hD : va_D A (w1 u)) {XC : String → State → State → Prop} : W p l e R s m args below meth c H locs cells slots (vx_MQ below (pz_QR G v1 w1 A) XC args s mc ms A) (F0 m pc ls [v]) :=
  W.widen hmc hms (vx_ret (W.aret hx hb hr hrt hva (fun t ht hW => ⟨⟨u, by rw [hv], by rw [ht]; exact hP, hD⟩, hS.F ht⟩) hS.2.2 hdg hlocks))
theorem pz_rl {S : Type} {v1 : S → Option Value} {w1 : S → va_W} {v : Int64} {mc ms : Nat} (hx : p.tables.exec = Jvm.exec) (hb : c.code = cc) (hr : meth.sig.returnType = some .long) (hlocks : meth.locks = false) (hS : va_S A s.heap H locs) (hmc : cells ≤ mc) (hms : slots ≤ ms) (hdg : decode cc pc = .ok (.lreturn, 1)) (u : S) (hv : v1 u = some (.long v)) (hP : va_P G.1 pz_cl (w1 u) H) (hD : va_D A (w1 u)) {XC : String → State → State → Prop} : W p l e R s m args below meth c H locs cells slots (vx_MQ below (pz_QR G v1 w1 A) XC args s mc ms A) (F0 m pc ls [.long v]) :=
  W.widen hmc hms (vx_ret (W.lret hx hb hr (fun t ht hW => ⟨⟨u, by rw [hv], by rw [ht]; exact hP, hD⟩, hS.F ht⟩) hS.2.2 hdg hlocks))
theorem pz_rf {S : Type} {v1 : S → Option Value} {w1 : S → va_W} {v : UInt32} {mc ms : Nat} (hx : p.tables.exec = Jvm.exec) (hb : c.code = cc) (hr : meth.sig.returnType = some .float) (hlocks : meth.locks = false) (hS : va_S A s.heap H locs) (hmc : cells ≤ mc) (hms : slots ≤ ms) (hdg : decode cc pc = .ok (.freturn, 1)) (u : S) (hv : v1 u = some (.float v)) (hP : va_P G.1 pz_cl (w1 u) H) (hD : va_D A (w1 u)) {XC : String → State → State → Prop} : W p l e R s m args below meth c H locs cells slots (vx_MQ below (pz_QR G v1 w1 A) XC args s mc ms A) (F0 m pc ls [.float v]) :=
  W.widen hmc hms (vx_ret (W.fret hx hb hr (fun t ht hW => ⟨⟨u, by rw [hv], by rw [ht]; exact hP, hD⟩, hS.F ht⟩) hS.2.2 hdg hlocks))
theorem pz_rd {S : Type} {v1 : S → Option Value} {w1 : S → va_W} {v : UInt64} {mc ms : Nat} (hx : p.tables.exec = Jvm.exec) (hb : c.code = cc) (hr : meth.sig.returnType = some .double) (hlocks : meth.locks = false) (hS : va_S A s.heap H locs) (hmc : cells ≤ mc) (hms : slots ≤ ms) (hdg : decode cc pc = .ok (.dreturn, 1)) (u : S) (hv : v1 u = some (.double v)) (hP : va_P G.1 pz_cl (w1 u) H) (hD : va_D A (w1 u)) {XC : String → State → State → Prop} : W p l e R s m args below meth c H locs cells slots (vx_MQ below (pz_QR G v1 w1 A) XC args s mc ms A) (F0 m pc ls [.double v]) :=
  W.widen hmc hms (vx_ret (W.dret hx hb hr (fun t ht hW => ⟨⟨u, by rw [hv], by rw [ht]; exact hP, hD⟩, hS.F ht⟩) hS.2.2 hdg hlocks))
/-- not caught here -/
theorem pz_out {E : String} {ce : Cell} {q : Addr} {mc ms : Nat} (hx0 : ∀ x ∈ c.exceptionTable.toList, False) (hlocks : meth.locks = false) (hcell : H[q]? = some ce) (hv : ce.vm = .none) (hcl : s.vm.findClass E = some ce.cls) (hS : va_S A s.heap H locs) (hc : cells ≤ mc) (hs : slots ≤ ms) :
    vx_W p l e R s m args below meth c H locs cells slots (vx_MQ below pz_QF (pz_XT E A) args s mc ms A) (F0 m pc ls rest) q :=
  vx_out (fun x h => (hx0 x h).elim) hlocks hcell hv hcl (fun t ht hvm => ⟨rfl, hS.F ht⟩) hS.2.2 hc hs
/-- new rows of numbers: their class is the one that is known -/
theorem pz_ty {cA cB : ClassId} {ty : FieldType} {tys : List (ClassId × FieldType)} {D : va_G} {cl : List vw_C} (hK : va_K D cl tys s) (i j : Nat) (hi : tys[i]? = some (cA, ty)) (hj : tys[j]? = some (cB, ty)) (hp : ∀ C, ty ≠ .object C) : cA = cB := by
  have h1 := (hK.2 i _ hi).2
  have h2 := (hK.2 j _ hj).2
  cases ty with
  | object C => exact absurd rfl (hp C)
  | _ => exact Option.some.inj (h1.symm.trans h2)
theorem pz_tyO {cA cB : ClassId} {C : String} {tys : List (ClassId × FieldType)} {D : va_G} {cl : List vw_C} (hK : va_K D cl tys s) (i j : Nat) (hi : tys[i]? = some (cA, .object C)) (hj : tys[j]? = some (cB, .object C)) : cA = cB := by
  obtain ⟨_, _, _, _, _, h1⟩ := (hK.2 i _ hi).2
  obtain ⟨_, _, _, _, _, h2⟩ := (hK.2 j _ hj).2
  exact Option.some.inj (h1.symm.trans h2)
theorem pz_nmO (hK : va_K G.1 pz_cl (pz_T G) s) : s.vm.findClass "[Ljava/lang/Object;" = some (G.2 5) := by
  obtain ⟨_, _, _, _, _, h1⟩ := (hK.2 5 _ rfl).2
  exact h1
theorem pz_vi {i : Int32} {n : Nat} (h : (!(decide (i < 0)) && !(decide (n ≤ i.toNatClampNeg))) = true) : vp_in i n := by
  simp only [Bool.and_eq_true, Bool.not_eq_true', decide_eq_false_iff_not] at h
  exact fun z => z.elim h.1 h.2
theorem pz_vk {x : Int32} (h1 : -128 ≤ x.toInt) (h2 : x.toInt ≤ 127) : (x + 128).toNatClampNeg < 256 := by
  have e : (x + 128).toInt = x.toInt + 128 := by
    rw [Int32.toInt_add]
    show (x.toInt + 128).bmod (2 ^ 32) = x.toInt + 128
    rw [Int.bmod_def]; omega
  show (x + 128).toInt.toNat < 256
  omega
theorem pz_vb {x : Int32} (h1 : -128 ≤ x.toInt) (h2 : x.toInt ≤ 127) : vp_in (x + 128) 256 := by
  have e : (x + 128).toInt = x.toInt + 128 := by
    rw [Int32.toInt_add]
    show (x.toInt + 128).bmod (2 ^ 32) = x.toInt + 128
    rw [Int.bmod_def]; omega
  refine fun z => z.elim (fun z => ?_) (fun z => absurd (pz_vk h1 h2) (Nat.not_lt.mpr z))
  have z := Int32.lt_iff_toInt_lt.mp z
  rw [e] at z
  have : (0 : Int32).toInt = 0 := rfl
  omega
theorem pz_lt {x y : Int32} (h : x < y) : x.toInt < y.toInt := Int32.lt_iff_toInt_lt.mp h
theorem pz_le {x y : Int32} (h : x ≤ y) : x.toInt ≤ y.toInt := Int32.le_iff_toInt_le.mp h
theorem pz_nlt {x y : Int32} (h : ¬ x < y) : y.toInt ≤ x.toInt := Int.not_lt.mp (fun z => h (Int32.lt_iff_toInt_lt.mpr z))
theorem pz_nle {x y : Int32} (h : ¬ x ≤ y) : y.toInt < x.toInt := Int.not_le.mp (fun z => h (Int32.le_iff_toInt_le.mpr z))
theorem pz_eq {x y : Int32} (h : x = y) : x.toInt = y.toInt := congrArg _ h
theorem pz_ne {x y : Int32} (h : ¬ x = y) : x.toInt ≠ y.toInt := fun z => h (Int32.toInt_inj.mp z)
theorem pz_hat {L : List Cond} (hts : ∀ w ∈ lw_good, w.before args s = true) (hN : ∀ w ∈ pz_nx, va_Nw w s) (h : ∀ w ∈ L, w ∈ lw_good ∨ w ∈ pz_nx) : ∀ w ∈ L, w.before args s = true := fun w hw =>
  (h w hw).elim (hts w) (fun q => va_Nw.use (pz_wk_tab (List.all_eq_true.mp pz_nx_wk w q)) (hN w q))
theorem pz_go5 {S : Type} {v : S → Option Value} {w1 : S → va_W} {wc wr : va_W} {a : Array Value} {mc ms : Nat} (hr : vx_Run5 p l e R s m args below meth c H locs cells slots mc ms (F0 m pc ls st0) rest (pz_QR G v w1 (va_A wc H.size) a) pz_XF (va_A wc H.size)) (hP : va_P G.1 pz_cl ws H) (hD : va_D A ws) (hS : va_S A s.heap H locs) (hA : ∀ q : Nat, s.heap.size ≤ q → A q)
    (isC isR : List Nat) (hC : isC.map (fun i => ws[i]?) = wc.map some) (hR : isR.map (fun i => ws[i]?) = wr.map some) (hn : va_nd isR = true) (hdis : ∀ i ∈ isR, i ∉ isC)
    (kk : ∀ (u : S) (H1 : Heap) (locs1 : List Loc), va_P G.1 pz_cl (wr ++ w1 u) H1 → va_D A (wr ++ w1 u) → va_S A s.heap H1 locs1 → W p l e R s m args below meth c H1 locs1 (cells + mc) (slots + ms) Q (F0 m (pc + 5) ls ((v u).toList ++ rest))) : W p l e R s m args below meth c H locs cells slots Q (F0 m pc ls st0) := by
  have hF := va_free hD hS hA isC hC
  intro T hT Y
  rcases hr T hT Y with ⟨vv, st₀, t, T', L, h0, Y', hL, e1, e2, ⟨⟨u, hv, hP1, hD1⟩, hz, hk⟩, st⟩ | ⟨_, _, _, _, _, _, _, _, _, _, _, _, hx, _⟩
  · cases hv
    rw [h0] at hz hk
    have hk1 : ∀ q : Nat, q < H.size → ¬ va_A wc H.size q → T'.heap[q]? = H[q]? := fun q h1 h2 => by rw [e1]; exact hk q h1 h2
    rw [← e1] at hP1
    obtain ⟨hP2, hD2⟩ := va_join hP hD isC isR hC hR hn hdis hk1 hF hP1 hD1
    obtain ⟨t2, a1, b1⟩ := kk u T'.heap (locs ++ L) hP2 hD2
      ⟨Nat.le_trans hS.1 (by rw [e1]; exact hz), fun q h1 h2 => by rw [hk1 q (Nat.lt_of_lt_of_le h1 hS.1) (fun z => h2 (hF q z))]; exact hS.2.1 q h1 h2, fun q hq => by
        rcases List.mem_append.mp hq with h | h
        · exact hS.2.2 q h
        · exact hF _ (hL q h)⟩ T' rfl Y'
    exact ⟨t2, st t2 a1, b1⟩
  · exact hx.elim
theorem pz_copy0 {cc : ByteArray} (hx : p.tables.exec = Jvm.exec) (hb : c.code = cc) (hml : c.maxLocals = ls.size) {own : String} {index t a N n1 : Nat} {f : Nat → Value} {g : Nat → Option Nat} (hown : s.vm.findClass own = some m.cls) (hlink : (Cond.methodLink own index arraycopyName).before args s = true) (hnat : (Cond.native arraycopyName).before args s = true) (hstat : (Cond.static arraycopyName).before args s = true) (hini : (Cond.initialized "java/lang/System").before args s = true)
    (hK : va_K G.1 pz_cl (pz_T G) s) (hP : va_P G.1 pz_cl ws H) (hS : va_S A s.heap H locs) (q1 : Nat) (ha1 : ws[q1]? = some (a, .inl (G.2 5, n1, .inr (.inr (.inr (.inr g)))))) (hO : va_O "[Ljava/lang/Object;" t A s s.heap) (hTT : va_T (.object "java/lang/Object") t N f A s s.heap)
    (hframes : 1 ≤ R.frames) (hlocals : (rest.map fun v => v.category).sum + (nativeFrameWords "java/lang/System" "arraycopy" 5 + 11) ≤ R.locals) (hdg : decode cc pc = .ok (.invokestatic index, 3))
    (kk : W p l e R s m args below meth c H locs cells slots Q (F0 m (pc + 3) ls rest)) : W p l e R s m args below meth c H locs cells slots Q (F0 m pc ls (.int 0 :: .int 0 :: .ref a :: .int 0 :: .ref t :: rest)) := by
  intro T hT Y
  obtain ⟨cs, o1, o2, o3, -⟩ := hO.kept hS.2.1
  obtain ⟨cs', u1, u2, u3, -⟩ := hTT.kept hS.2.1
  cases o1.symm.trans u1
  have hcd : H[a]? = some (vp_cell (G.2 5) (n1, .inr (.inr (.inr (.inr g))))) := hP q1 _ ha1
  obtain ⟨kA, comp, r1, r2, r3, r4⟩ := (hK.2 5 _ rfl).2
  have hcls : cs.cls = G.2 5 := Option.some.inj (o3.symm.trans (pz_nmO hK))
  obtain ⟨vm', Y', step⟩ := Y.arraycopy hx hown hlink hnat hstat hini (src := t) (dst := a) (cs := cs) (cd := vp_cell (G.2 5) (n1, .inr (.inr (.inr (.inr g))))) (srcPos := 0) (destPos := 0) (n := 0) (by rw [hT]; exact o1) (by rw [hT]; exact hcd)
    (fun k h => by rw [h] at o2; cases o2) (fun _ h => by cases h) u3 (fun h => by cases h) (by rw [hcls]; exact r1) r1 r2 r2 (by decide) (by decide) (by decide) (by decide)
    (by show ¬ (0 : Int) > _; omega) (by show ¬ (0 : Int) > _; omega) (fun vm' _ i hi => absurd hi (Nat.not_lt_zero i))
    (g := F0 m pc ls (.int 0 :: .int 0 :: .ref a :: .int 0 :: .ref t :: rest)) rfl (by rw [hml]) (rest := rest) rfl (by rw [hb]; exact hdg) hframes (by show 2 * 0 + _ + _ ≤ _; omega)
  have e1 : copied cs (vp_cell (G.2 5) (n1, .inr (.inr (.inr (.inr g))))) 0 0 0 = vp_cell (G.2 5) (n1, .inr (.inr (.inr (.inr g)))) := rfl
  have e2 : (locs ++ (cs.stretch (0 : Int32).toNatClampNeg (0 : Int32).toNatClampNeg).zipIdx.map fun q => (⟨a, (0 : Int32).toNatClampNeg + q.2⟩ : Loc)) = locs := by
    show locs ++ [] = locs
    exact List.append_nil _
  rw [e1, e2, State.setCell_held (show (T.setVm vm').heap[a]? = some _ by show T.heap[a]? = some _; rw [hT]; exact hcd)] at Y'
  rw [e1, State.setCell_held (show (T.setVm vm').heap[a]? = some _ by show T.heap[a]? = some _; rw [hT]; exact hcd)] at step
  obtain ⟨t2, a1, b1⟩ := kk (T.setVm vm') hT Y'
  exact ⟨t2, step t2 a1, b1⟩
theorem pz_mna0 {cc : ByteArray} (hx : p.tables.exec = Jvm.exec) (hb : c.code = cc) {own : String} {index : Nat} (hown : s.vm.findClass own = some m.cls) (hclink : (Cond.classLink own index "[[I").before args s = true) (hover : pz_AOA s) (harr : (Cond.arrayClass .int).before args s = true)
    (hK : va_K G.1 pz_cl (pz_T G) s) (hP : va_P G.1 pz_cl ws H) (hD : va_D A ws) (hS : va_S A s.heap H locs) (hA : ∀ q : Nat, s.heap.size ≤ q → A q) (hcells : cells + 1 ≤ R.cells) (hslots : slots ≤ R.slots) (hdg : decode cc pc = .ok (.multianewarray index 2, 4))
    (kk : ∀ (q : Nat) (H1 : Heap), va_P G.1 pz_cl (ws ++ [(q, .inl (G.2 6, 0, .inr (.inr (.inr (.inr (fun _ => none))))))]) H1 → va_D A (ws ++ [(q, .inl (G.2 6, 0, .inr (.inr (.inr (.inr (fun _ => none))))))]) → va_S A s.heap H1 locs →
      W p l e R s m args below meth c H1 locs (cells + 1) slots Q (F0 m (pc + 4) ls (.ref q :: rest))) : W p l e R s m args below meth c H locs cells slots Q (F0 m pc ls (.int 0 :: .int 0 :: rest)) := by
  intro T hT Xs
  obtain ⟨comp, cA, kA, hcomp, hkA, hkindA, hnameA⟩ := hover
  have hcl : cA = G.2 6 := Option.some.inj (hnameA.symm.trans (hK.2 6 _ rfl).2)
  subst hcl
  have hpl : e.platform.magicAccessors = ({} : Platform).magicAccessors := by rw [Xs.admits.platform]
  obtain ⟨c0, hfc0, hcl0⟩ := Cond.classLink_spec hown hclink e.platform hpl
  have hfc1 : s.vm.findClass ("[" ++ (FieldType.array .int).toString) = some c0 := hfc0
  cases hnameA.symm.trans hfc1
  obtain ⟨hg1, hW1, -⟩ := State.classEntry (e := e) Xs.warmed hcl0
  generalize T.vm.noted m.cls index (.cls (G.2 6)) = vm1 at hg1 hW1
  obtain ⟨kA1, hkA1, heA⟩ := hW1.alike.2.2 _ _ hkA
  have hkindA1 : kA1.kind = .array comp (.array .int) := by rw [heA]; exact hkindA
  have X1 := Xs.noted hW1
  obtain ⟨hr1, hr2⟩ := Xs.roomAbove (a := 1) (b := 0) hcells (by omega)
  have hTh : (T.setVm vm1).heap = H := hT
  have hout : ({ cls := G.2 6, slots := Array.replicate 0 .null, vm := .none } : Cell) = vp_cell (G.2 6) (0, .inr (.inr (.inr (.inr (fun _ => none))))) := by
    rw [vp_cell_q]
    rfl
  have X2 := X1.pushed ({ cls := G.2 6, slots := Array.replicate 0 .null, vm := .none } : Cell)
  have hF : ((T.setVm vm1).pushCell ({ cls := G.2 6, slots := Array.replicate 0 .null, vm := .none } : Cell)).heap = H.push (vp_cell (G.2 6) (0, .inr (.inr (.inr (.inr (fun _ => none)))))) := by
    rw [← hout, ← hTh]
    rfl
  have hold : ∀ x : Nat, x < H.size → (H.push (vp_cell (G.2 6) (0, .inr (.inr (.inr (.inr (fun _ => none)))))))[x]? = H[x]? := fun x hx => by simp [Array.getElem?_push, Nat.ne_of_lt hx]
  have hnew : (H.push (vp_cell (G.2 6) (0, .inr (.inr (.inr (.inr (fun _ => none)))))))[H.size]? = some (vp_cell (G.2 6) (0, .inr (.inr (.inr (.inr (fun _ => none)))))) := by simp
  have hP0 : va_P G.1 pz_cl ws (H.push (vp_cell (G.2 6) (0, .inr (.inr (.inr (.inr (fun _ => none))))))) := hP.kept (fun k9 x hx => hold x.1 ((hP k9 x hx).lt))
  have hP1 := hP0.app (w2 := [(H.size, .inl (G.2 6, 0, .inr (.inr (.inr (.inr (fun _ => none))))))]) (fun k9 x hx => by
    have h0 : k9 < 1 := (List.getElem?_eq_some_iff.mp hx).1
    rw [show k9 = 0 by omega] at hx
    cases hx
    exact hnew)
  obtain ⟨t2, a1, b1⟩ := kk H.size _ hP1 (va_D.push hD hP rfl (hA _ hS.1)) ⟨by simp; have := hS.1; omega, fun q g1 g2 => by rw [hold q (Nat.lt_of_lt_of_le g1 hS.1)]; exact hS.2.1 q g1 g2, hS.2.2⟩ _ hF X2
  refine ⟨t2, ?_, b1⟩
  have hsz : T.heap.size = H.size := by rw [hT]
  have hdg' : decode c.code (F0 m pc ls (.int 0 :: .int 0 :: rest)).pc = .ok (.multianewarray index 2, 4) := by rw [hb]; exact hdg
  jvm_step Xs.here [hx, hdg']
  simp only [multianewarray.sem, wp_bind', W.resolveClassAt_links (State.method?_setTop (F0 m pc ls (.int 0 :: .int 0 :: rest)) Xs.here.top) hg1]
  rw [W.popN, if_neg (by decide)]
  refine ⟨F0 m pc ls (.int 0 :: .int 0 :: rest), State.topJava?_setTop' (s := T.setVm vm1) (F0 m pc ls (.int 0 :: .int 0 :: rest)) Xs.here.top, [.int 0, .int 0], rest, rfl, rfl, ?_⟩
  simp only [List.mapM_cons, List.mapM_nil, wp_bind', wp_pure']
  refine pz_make0 (k := kA1) (comp := comp) (t := .array .int) hkA1 hkindA1 (by show T.heap.size < _; omega) (by show T.slotsUsed ≤ _; omega) (fun d' acts' => ?_)
  have eS : ((T.setTop (F0 m pc ls (.int 0 :: .int 0 :: rest))).setVm vm1).setTop { (F0 m pc ls (.int 0 :: .int 0 :: rest)) with stack := rest } = (T.setVm vm1).setTop { (F0 m pc ls (.int 0 :: .int 0 :: rest)) with stack := rest } := by
    show ((T.setVm vm1).setTop (F0 m pc ls (.int 0 :: .int 0 :: rest))).setTop _ = _
    rw [State.setTop_setTop]
  rw [eS, State.pushCell_setTop]
  simp only [wp_bind', W.mark, W.pushRef, State.topJava?_setTop' _ X2.here.top, Option.some.injEq, exists_eq_left', State.setTop_setTop, State.heap_setTop]
  intro acts
  simp [jvm, X2.here.top]
  have h9 := a1
  rw [← hsz] at h9
  exact h9
end PZ
