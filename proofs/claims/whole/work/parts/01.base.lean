-- ===== PART A: goes FIRST, ahead of the names: the tables' words, and 'selects' of the private methods out of them =====
/-- a private method of a class that the tables say can be made, by its rows of tables_1 -/
def lw_okq (q : MethodName × Nat) : Prop := (q.1.cls ≠ "java/lang/invoke/MethodHandle" ∧ q.1.cls ≠ "java/lang/invoke/VarHandle") ∧ Cond.instantiable q.1.cls q.2 ∈ tables_1 ∧ Cond.privateMethod q.1 ∈ tables_1 ∧ Cond.instanceMethod q.1 ∈ tables_1
theorem lw_p0 : lw_okq (⟨"PageStore", "noRowLeft", "()Z"⟩, 10) := ⟨⟨by decide +kernel, by decide +kernel⟩, List.mem_of_getElem? (i := 12) (by decide +kernel), List.mem_of_getElem? (i := 162) (by decide +kernel), List.mem_of_getElem? (i := 163) (by decide +kernel)⟩
theorem lw_p1 : lw_okq (⟨"PageStore", "addRow", "(III)I"⟩, 10) := ⟨⟨by decide +kernel, by decide +kernel⟩, List.mem_of_getElem? (i := 12) (by decide +kernel), List.mem_of_getElem? (i := 183) (by decide +kernel), List.mem_of_getElem? (i := 184) (by decide +kernel)⟩
theorem lw_p2 : lw_okq (⟨"PageStore", "isRow", "(I)Z"⟩, 10) := ⟨⟨by decide +kernel, by decide +kernel⟩, List.mem_of_getElem? (i := 12) (by decide +kernel), List.mem_of_getElem? (i := 221) (by decide +kernel), List.mem_of_getElem? (i := 222) (by decide +kernel)⟩
theorem lw_p3 : lw_okq (⟨"PageStore", "indexIn", "(III)I"⟩, 10) := ⟨⟨by decide +kernel, by decide +kernel⟩, List.mem_of_getElem? (i := 12) (by decide +kernel), List.mem_of_getElem? (i := 241) (by decide +kernel), List.mem_of_getElem? (i := 242) (by decide +kernel)⟩
theorem lw_p4 : lw_okq (⟨"PageStore", "remember", "(II)Z"⟩, 10) := ⟨⟨by decide +kernel, by decide +kernel⟩, List.mem_of_getElem? (i := 12) (by decide +kernel), List.mem_of_getElem? (i := 248) (by decide +kernel), List.mem_of_getElem? (i := 249) (by decide +kernel)⟩
theorem lw_p5 : lw_okq (⟨"PageStore", "mustRemember", "(II)Z"⟩, 10) := ⟨⟨by decide +kernel, by decide +kernel⟩, List.mem_of_getElem? (i := 12) (by decide +kernel), List.mem_of_getElem? (i := 252) (by decide +kernel), List.mem_of_getElem? (i := 253) (by decide +kernel)⟩
theorem lw_p6 : lw_okq (⟨"PageStore", "countAtSave", "(II)I"⟩, 10) := ⟨⟨by decide +kernel, by decide +kernel⟩, List.mem_of_getElem? (i := 12) (by decide +kernel), List.mem_of_getElem? (i := 256) (by decide +kernel), List.mem_of_getElem? (i := 257) (by decide +kernel)⟩
theorem lw_p7 : lw_okq (⟨"PageStore", "valuesOf", "(I)LPageStore$Values;"⟩, 10) := ⟨⟨by decide +kernel, by decide +kernel⟩, List.mem_of_getElem? (i := 12) (by decide +kernel), List.mem_of_getElem? (i := 266) (by decide +kernel), List.mem_of_getElem? (i := 267) (by decide +kernel)⟩
theorem lw_p8 : lw_okq (⟨"PageStore", "isKeyPossible", "(II)Z"⟩, 10) := ⟨⟨by decide +kernel, by decide +kernel⟩, List.mem_of_getElem? (i := 12) (by decide +kernel), List.mem_of_getElem? (i := 302) (by decide +kernel), List.mem_of_getElem? (i := 303) (by decide +kernel)⟩
theorem lw_p9 : lw_okq (⟨"PageStore", "isDictionary", "(I)Z"⟩, 10) := ⟨⟨by decide +kernel, by decide +kernel⟩, List.mem_of_getElem? (i := 12) (by decide +kernel), List.mem_of_getElem? (i := 306) (by decide +kernel), List.mem_of_getElem? (i := 307) (by decide +kernel)⟩
theorem lw_p10 : lw_okq (⟨"PageStore", "addKey", "(IIIII)I"⟩, 10) := ⟨⟨by decide +kernel, by decide +kernel⟩, List.mem_of_getElem? (i := 12) (by decide +kernel), List.mem_of_getElem? (i := 315) (by decide +kernel), List.mem_of_getElem? (i := 316) (by decide +kernel)⟩
theorem lw_p11 : lw_okq (⟨"PageStore$Keys", "isThere", "(II)Z"⟩, 4) := ⟨⟨by decide +kernel, by decide +kernel⟩, List.mem_of_getElem? (i := 77) (by decide +kernel), List.mem_of_getElem? (i := 333) (by decide +kernel), List.mem_of_getElem? (i := 334) (by decide +kernel)⟩
theorem lw_p12 : lw_okq (⟨"PageStore", "moveCursor", "(I)I"⟩, 10) := ⟨⟨by decide +kernel, by decide +kernel⟩, List.mem_of_getElem? (i := 12) (by decide +kernel), List.mem_of_getElem? (i := 361) (by decide +kernel), List.mem_of_getElem? (i := 362) (by decide +kernel)⟩
theorem lw_p13 : lw_okq (⟨"PageStore", "isSave", "(I)Z"⟩, 10) := ⟨⟨by decide +kernel, by decide +kernel⟩, List.mem_of_getElem? (i := 12) (by decide +kernel), List.mem_of_getElem? (i := 381) (by decide +kernel), List.mem_of_getElem? (i := 382) (by decide +kernel)⟩
theorem lw_p14 : lw_okq (⟨"PageStore", "putBack", "(I)V"⟩, 10) := ⟨⟨by decide +kernel, by decide +kernel⟩, List.mem_of_getElem? (i := 12) (by decide +kernel), List.mem_of_getElem? (i := 385) (by decide +kernel), List.mem_of_getElem? (i := 386) (by decide +kernel)⟩
theorem lw_p15 : lw_okq (⟨"PageStoreModel", "row", "(III)I"⟩, 27) := ⟨⟨by decide +kernel, by decide +kernel⟩, List.mem_of_getElem? (i := 393) (by decide +kernel), List.mem_of_getElem? (i := 491) (by decide +kernel), List.mem_of_getElem? (i := 492) (by decide +kernel)⟩
def lw_privs_1 : List (MethodName × Nat) := [(⟨"PageStore", "noRowLeft", "()Z"⟩, 10), (⟨"PageStore", "addRow", "(III)I"⟩, 10), (⟨"PageStore", "isRow", "(I)Z"⟩, 10), (⟨"PageStore", "indexIn", "(III)I"⟩, 10), (⟨"PageStore", "remember", "(II)Z"⟩, 10), (⟨"PageStore", "mustRemember", "(II)Z"⟩, 10), (⟨"PageStore", "countAtSave", "(II)I"⟩, 10), (⟨"PageStore", "valuesOf", "(I)LPageStore$Values;"⟩, 10), (⟨"PageStore", "isKeyPossible", "(II)Z"⟩, 10), (⟨"PageStore", "isDictionary", "(I)Z"⟩, 10), (⟨"PageStore", "addKey", "(IIIII)I"⟩, 10), (⟨"PageStore$Keys", "isThere", "(II)Z"⟩, 4), (⟨"PageStore", "moveCursor", "(I)I"⟩, 10), (⟨"PageStore", "isSave", "(I)Z"⟩, 10), (⟨"PageStore", "putBack", "(I)V"⟩, 10), (⟨"PageStoreModel", "row", "(III)I"⟩, 27)]
theorem lw_r1 : ∀ q ∈ lw_privs_1, lw_okq q := List.forall_mem_cons.mpr ⟨lw_p0, List.forall_mem_cons.mpr ⟨lw_p1, List.forall_mem_cons.mpr ⟨lw_p2, List.forall_mem_cons.mpr ⟨lw_p3, List.forall_mem_cons.mpr ⟨lw_p4, List.forall_mem_cons.mpr ⟨lw_p5, List.forall_mem_cons.mpr ⟨lw_p6, List.forall_mem_cons.mpr ⟨lw_p7, List.forall_mem_cons.mpr ⟨lw_p8, List.forall_mem_cons.mpr ⟨lw_p9, List.forall_mem_cons.mpr ⟨lw_p10, List.forall_mem_cons.mpr ⟨lw_p11, List.forall_mem_cons.mpr ⟨lw_p12, List.forall_mem_cons.mpr ⟨lw_p13, List.forall_mem_cons.mpr ⟨lw_p14, List.forall_mem_cons.mpr ⟨lw_p15, fun _ h => absurd h List.not_mem_nil⟩⟩⟩⟩⟩⟩⟩⟩⟩⟩⟩⟩⟩⟩⟩⟩
theorem lw_p16 : lw_okq (⟨"PageStoreModel", "isRow", "(I)Z"⟩, 27) := ⟨⟨by decide +kernel, by decide +kernel⟩, List.mem_of_getElem? (i := 393) (by decide +kernel), List.mem_of_getElem? (i := 503) (by decide +kernel), List.mem_of_getElem? (i := 504) (by decide +kernel)⟩
theorem lw_p17 : lw_okq (⟨"PageStoreModel", "at", "(II)I"⟩, 27) := ⟨⟨by decide +kernel, by decide +kernel⟩, List.mem_of_getElem? (i := 393) (by decide +kernel), List.mem_of_getElem? (i := 519) (by decide +kernel), List.mem_of_getElem? (i := 520) (by decide +kernel)⟩
theorem lw_p18 : lw_okq (⟨"PageStoreModel", "remember", "(I)Z"⟩, 27) := ⟨⟨by decide +kernel, by decide +kernel⟩, List.mem_of_getElem? (i := 393) (by decide +kernel), List.mem_of_getElem? (i := 523) (by decide +kernel), List.mem_of_getElem? (i := 524) (by decide +kernel)⟩
theorem lw_p19 : lw_okq (⟨"PageStoreModel", "isOpen", "(I)Z"⟩, 27) := ⟨⟨by decide +kernel, by decide +kernel⟩, List.mem_of_getElem? (i := 393) (by decide +kernel), List.mem_of_getElem? (i := 527) (by decide +kernel), List.mem_of_getElem? (i := 528) (by decide +kernel)⟩
theorem lw_p20 : lw_okq (⟨"PageStoreModel", "isDictionary", "(I)Z"⟩, 27) := ⟨⟨by decide +kernel, by decide +kernel⟩, List.mem_of_getElem? (i := 393) (by decide +kernel), List.mem_of_getElem? (i := 551) (by decide +kernel), List.mem_of_getElem? (i := 552) (by decide +kernel)⟩
theorem lw_p21 : lw_okq (⟨"PageStoreModel", "key", "(III)I"⟩, 27) := ⟨⟨by decide +kernel, by decide +kernel⟩, List.mem_of_getElem? (i := 393) (by decide +kernel), List.mem_of_getElem? (i := 558) (by decide +kernel), List.mem_of_getElem? (i := 559) (by decide +kernel)⟩
theorem lw_p22 : lw_okq (⟨"PageStoreModel", "there", "(III)I"⟩, 27) := ⟨⟨by decide +kernel, by decide +kernel⟩, List.mem_of_getElem? (i := 393) (by decide +kernel), List.mem_of_getElem? (i := 566) (by decide +kernel), List.mem_of_getElem? (i := 567) (by decide +kernel)⟩
theorem lw_p23 : lw_okq (⟨"PageStoreModel", "now", "(I)I"⟩, 27) := ⟨⟨by decide +kernel, by decide +kernel⟩, List.mem_of_getElem? (i := 393) (by decide +kernel), List.mem_of_getElem? (i := 598) (by decide +kernel), List.mem_of_getElem? (i := 599) (by decide +kernel)⟩
theorem lw_p24 : lw_okq (⟨"PageStoreModel", "back", "()V"⟩, 27) := ⟨⟨by decide +kernel, by decide +kernel⟩, List.mem_of_getElem? (i := 393) (by decide +kernel), List.mem_of_getElem? (i := 606) (by decide +kernel), List.mem_of_getElem? (i := 607) (by decide +kernel)⟩
def lw_privs_2 : List (MethodName × Nat) := [(⟨"PageStoreModel", "isRow", "(I)Z"⟩, 27), (⟨"PageStoreModel", "at", "(II)I"⟩, 27), (⟨"PageStoreModel", "remember", "(I)Z"⟩, 27), (⟨"PageStoreModel", "isOpen", "(I)Z"⟩, 27), (⟨"PageStoreModel", "isDictionary", "(I)Z"⟩, 27), (⟨"PageStoreModel", "key", "(III)I"⟩, 27), (⟨"PageStoreModel", "there", "(III)I"⟩, 27), (⟨"PageStoreModel", "now", "(I)I"⟩, 27), (⟨"PageStoreModel", "back", "()V"⟩, 27)]
theorem lw_r2 : ∀ q ∈ lw_privs_2, lw_okq q := List.forall_mem_cons.mpr ⟨lw_p16, List.forall_mem_cons.mpr ⟨lw_p17, List.forall_mem_cons.mpr ⟨lw_p18, List.forall_mem_cons.mpr ⟨lw_p19, List.forall_mem_cons.mpr ⟨lw_p20, List.forall_mem_cons.mpr ⟨lw_p21, List.forall_mem_cons.mpr ⟨lw_p22, List.forall_mem_cons.mpr ⟨lw_p23, List.forall_mem_cons.mpr ⟨lw_p24, fun _ h => absurd h List.not_mem_nil⟩⟩⟩⟩⟩⟩⟩⟩⟩
def lw_privs : List (MethodName × Nat) := lw_privs_1 ++ (lw_privs_2)
def lw_tbl : List Cond := k2_sels lw_privs ++ tables_1
theorem lw_privs_ok : ∀ q ∈ lw_privs, lw_okq q := by
  show ∀ q ∈ lw_privs_1 ++ (lw_privs_2), lw_okq q
  exact List.forall_mem_append.mpr ⟨lw_r1, lw_r2⟩
/-- the words of the tables that a callee may have, one table for every method -/
def ps_tbl : List Cond := lw_tbl.filter goodWord
theorem ps_gd : ∀ w ∈ ps_tbl, goodWord w = true := fun _ h => (List.mem_filter.mp h).2
theorem ps_t1 {w : Cond} (i : Nat) (h : tables_1_1[i]? = some w) (hg : goodWord w = true) : w ∈ ps_tbl := List.mem_filter.mpr ⟨List.mem_append_right _ (List.mem_append_left _ (List.mem_of_getElem? h)), hg⟩
theorem ps_t2 {w : Cond} (i : Nat) (h : tables_1_2[i]? = some w) (hg : goodWord w = true) : w ∈ ps_tbl := List.mem_filter.mpr ⟨List.mem_append_right _ (List.mem_append_right _ (List.mem_append_left _ (List.mem_of_getElem? h))), hg⟩
theorem ps_t3 {w : Cond} (i : Nat) (h : tables_1_3[i]? = some w) (hg : goodWord w = true) : w ∈ ps_tbl := List.mem_filter.mpr ⟨List.mem_append_right _ (List.mem_append_right _ (List.mem_append_right _ (List.mem_of_getElem? h))), hg⟩
theorem ps_ts {y : MethodName} {n : Nat} (i : Nat) (h : lw_privs[i]? = some (y, n)) (hg : goodWord (Cond.selects y.cls y y) = true) : Cond.selects y.cls y y ∈ ps_tbl := List.mem_filter.mpr ⟨List.mem_append_left _ (List.mem_map.mpr ⟨(y, n), List.mem_of_getElem? h, rfl⟩), hg⟩
/-! SUPPORT: one uniform form of contract, and the rows that enter, call and leave in it. The world behind a method is a list of cells, as the one before it is. -/
theorem ps_pick {ws ws' : va_W} {is : List Nat} (hs : is.map (fun i => ws[i]?) = ws'.map some) (k : Nat) (q : Nat × va_E) (hk : ws'[k]? = some q) : ∃ i, is[k]? = some i ∧ ws[i]? = some q := by
  have h1 : (is.map (fun i => ws[i]?))[k]? = some (some q) := by rw [hs, List.getElem?_map, hk]; rfl
  rw [List.getElem?_map] at h1
  cases hi : is[k]? with
  | none => rw [hi] at h1; cases h1
  | some i => rw [hi] at h1; exact ⟨i, rfl, Option.some.inj h1⟩
theorem ps_subP {D : va_G} {cl : List vw_C} {ws ws' : va_W} {H : Heap} (hP : va_P D cl ws H) (is : List Nat) (hs : is.map (fun i => ws[i]?) = ws'.map some) : va_P D cl ws' H := fun k q hk => by
  obtain ⟨i, -, hi⟩ := ps_pick hs k q hk
  exact hP i q hi
/-- the same cells in another order, or fewer -/
theorem ps_perm {D : va_G} {cl : List vw_C} {A : Nat → Prop} {ws ws' : va_W} {H : Heap} (hP : va_P D cl ws H) (hD : va_D A ws) (is : List Nat) (hn : va_nd is = true) (hs : is.map (fun i => ws[i]?) = ws'.map some) : va_P D cl ws' H ∧ va_D A ws' :=
  ⟨ps_subP hP is hs, hD.sub is hn hs⟩
abbrev ps_B (cl : List vw_C) (D : va_G) (tys : List (ClassId × FieldType)) (A : Nat → Prop) (u : va_W) (t : State) : Prop := va_P D cl u t.heap ∧ va_K D cl tys t ∧ va_D A u
abbrev ps_I (cl : List vw_C) (D : va_G) (tys : List (ClassId × FieldType)) (win : va_W) (sz : Nat) (U : State) : Prop := U.heap.size = sz ∧ va_P D cl win U.heap ∧ va_K D cl tys U ∧ va_D (fun _ => True) win
/-- a method that answers an int (or a boolean) -/
def ps_mI (cl : List vw_C) (l : Launch) (y : MethodName) (ws : List Cond) (rm : Room) (D : va_G) (tys : List (ClassId × FieldType)) (As : List Value) (win : va_W) (post : Int32 → va_W → Prop) : Prop :=
  ∀ sz : Nat, Met l y ws rm (va_Pc As (ps_I cl D tys win sz)) (va_Qi post (ps_B cl D tys (va_A win sz)) (va_A win sz)) rm.cells rm.slots (va_A win sz)
/-- a method that answers nothing -/
def ps_mV (cl : List vw_C) (l : Launch) (y : MethodName) (ws : List Cond) (rm : Room) (D : va_G) (tys : List (ClassId × FieldType)) (As : List Value) (win : va_W) (post : va_W → Prop) : Prop :=
  ∀ sz : Nat, Met l y ws rm (va_Pc As (ps_I cl D tys win sz)) (va_Qv post (ps_B cl D tys (va_A win sz)) (va_A win sz)) rm.cells rm.slots (va_A win sz)
/-- a method that answers a cell -/
def ps_mR (cl : List vw_C) (l : Launch) (y : MethodName) (ws : List Cond) (rm : Room) (D : va_G) (tys : List (ClassId × FieldType)) (As : List Value) (win : va_W) (post : Nat → va_W → Prop) : Prop :=
  ∀ sz : Nat, Met l y ws rm (va_Pc As (ps_I cl D tys win sz)) (va_Qr (fun _ : va_W => True) (fun u a t => post a u ∧ ps_B cl D tys (va_A win sz) u t) (va_A win sz)) rm.cells rm.slots (va_A win sz)
theorem ps_blind {cl : List vw_C} {D : va_G} {tys : List (ClassId × FieldType)} {As : List Value} {win : va_W} {sz : Nat} : FrameBlind (va_Pc As (ps_I cl D tys win sz)) := fun a U g mk q => by
  obtain ⟨q0, q1, qP, qK, qD⟩ := q
  exact ⟨q0, q1, qP, va_K.moved (u := U) (U := U.calling g mk a) (Vm.Alike.refl U.vm) qK, qD⟩
/-- what holds at a method's entry of the machine -/
def ps_At (p : Program) (s : State) (m : MethodId) (args : Array Value) (meth : Method) (c : Code) (y : MethodName) (ws : List Cond) (cc : ByteArray) (maxL : Nat) (ret : Option FieldType) : Prop :=
  p.tables.exec = Jvm.exec ∧ c.code = cc ∧ meth.sig.returnType = ret ∧ c.maxLocals = maxL ∧ (∀ w ∈ ws, w.before args s = true) ∧ s.vm.findClass y.cls = some m.cls ∧ meth.locks = false ∧ meth.name = y.name
section PSE
variable {cl : List vw_C} {l : Launch} {y : MethodName} {ws ws' : List Cond} {rm : Room} {D : va_G} {tys : List (ClassId × FieldType)} {As : List Value} {win : va_W} {cc : ByteArray} {maxL : Nat} {ret : Option FieldType}
theorem ps_mI_of {post : Int32 → va_W → Prop} (hy : plainName y.cls = true) (hw : ws = Cond.code y cc maxL ret :: ws') (hlen : (lg_sl As).length ≤ maxL)
    (body : ∀ (p : Program) (e : Env) (s : State) (m : MethodId) (below : List Frame) (meth : Method) (c : Code) (A : Nat → Prop) (ls : Array Slot), ps_At p s m As.toArray meth c y ws' cc maxL ret → (∀ q : Nat, s.heap.size ≤ q → A q) → va_K D cl tys s → va_P D cl win s.heap → va_D A win → va_S A s.heap s.heap [] → lv_has ls maxL (lv_args 0 As) →
      W p l e rm s m As.toArray below meth c s.heap [] 0 0 (MQ below (va_Qi post (ps_B cl D tys A) A) As.toArray s rm.cells rm.slots A) (F0 m 0 ls [])) : ps_mI cl l y ws rm D tys As win post := by
  intro sz
  refine Met.ofW hy hw ?_
  intro p e s m args below meth c s₁ B hml hv
  obtain ⟨rfl, hsz, hP, hK, hD0⟩ := hv
  subst hsz
  have hl := lv_entry As (n := maxL) hlen
  rw [lg_entry_eq]
  exact body p e s m below meth c _ _ ⟨B.exec, B.bytes, B.returns, hml, fun w hw' => atoms_spec (ws := ws) B.pre w (by rw [hw]; exact List.mem_cons_of_mem _ hw'), findClass_of_methodNamed B.named, B.notSynchronized, (name_of_methodNamed B.named B.method).1⟩ (fun q h => Or.inr h) hK hP hD0.self va_S.rf hl
theorem ps_mV_of {post : va_W → Prop} (hy : plainName y.cls = true) (hw : ws = Cond.code y cc maxL ret :: ws') (hlen : (lg_sl As).length ≤ maxL)
    (body : ∀ (p : Program) (e : Env) (s : State) (m : MethodId) (below : List Frame) (meth : Method) (c : Code) (A : Nat → Prop) (ls : Array Slot), ps_At p s m As.toArray meth c y ws' cc maxL ret → (∀ q : Nat, s.heap.size ≤ q → A q) → va_K D cl tys s → va_P D cl win s.heap → va_D A win → va_S A s.heap s.heap [] → lv_has ls maxL (lv_args 0 As) →
      W p l e rm s m As.toArray below meth c s.heap [] 0 0 (MQ below (va_Qv post (ps_B cl D tys A) A) As.toArray s rm.cells rm.slots A) (F0 m 0 ls [])) : ps_mV cl l y ws rm D tys As win post := by
  intro sz
  refine Met.ofW hy hw ?_
  intro p e s m args below meth c s₁ B hml hv
  obtain ⟨rfl, hsz, hP, hK, hD0⟩ := hv
  subst hsz
  have hl := lv_entry As (n := maxL) hlen
  rw [lg_entry_eq]
  exact body p e s m below meth c _ _ ⟨B.exec, B.bytes, B.returns, hml, fun w hw' => atoms_spec (ws := ws) B.pre w (by rw [hw]; exact List.mem_cons_of_mem _ hw'), findClass_of_methodNamed B.named, B.notSynchronized, (name_of_methodNamed B.named B.method).1⟩ (fun q h => Or.inr h) hK hP hD0.self va_S.rf hl
theorem ps_mR_of {post : Nat → va_W → Prop} (hy : plainName y.cls = true) (hw : ws = Cond.code y cc maxL ret :: ws') (hlen : (lg_sl As).length ≤ maxL)
    (body : ∀ (p : Program) (e : Env) (s : State) (m : MethodId) (below : List Frame) (meth : Method) (c : Code) (A : Nat → Prop) (ls : Array Slot), ps_At p s m As.toArray meth c y ws' cc maxL ret → (∀ q : Nat, s.heap.size ≤ q → A q) → va_K D cl tys s → va_P D cl win s.heap → va_D A win → va_S A s.heap s.heap [] → lv_has ls maxL (lv_args 0 As) →
      W p l e rm s m As.toArray below meth c s.heap [] 0 0 (MQ below (va_Qr (fun _ : va_W => True) (fun u a t => post a u ∧ ps_B cl D tys A u t) A) As.toArray s rm.cells rm.slots A) (F0 m 0 ls [])) : ps_mR cl l y ws rm D tys As win post := by
  intro sz
  refine Met.ofW hy hw ?_
  intro p e s m args below meth c s₁ B hml hv
  obtain ⟨rfl, hsz, hP, hK, hD0⟩ := hv
  subst hsz
  have hl := lv_entry As (n := maxL) hlen
  rw [lg_entry_eq]
  exact body p e s m below meth c _ _ ⟨B.exec, B.bytes, B.returns, hml, fun w hw' => atoms_spec (ws := ws) B.pre w (by rw [hw]; exact List.mem_cons_of_mem _ hw'), findClass_of_methodNamed B.named, B.notSynchronized, (name_of_methodNamed B.named B.method).1⟩ (fun q h => Or.inr h) hK hP hD0.self va_S.rf hl
end PSE
section PSR
variable {p : Program} {l : Launch} {e : Env} {R : Room} {s : State} {m : MethodId} {args : Array Value} {below : List Frame} {meth : Method} {c : Code} {H : Heap} {locs : List Loc} {cells slots mc ms : Nat}
variable {cc : ByteArray} {pc : Nat} {ls : Array Slot} {D : va_G} {cl : List vw_C} {A : Nat → Prop} {tys : List (ClassId × FieldType)} {u : va_W}
theorem ps_iret {post : Int32 → va_W → Prop} (hx : p.tables.exec = Jvm.exec) (hb : c.code = cc) (hr : meth.sig.returnType = some .int) (hlocks : meth.locks = false) (hK : va_K D cl tys s) (hP : va_P D cl u H) (hD : va_D A u) (hS : va_S A s.heap H locs) {v : Int32} (hc : cells ≤ mc) (hs : slots ≤ ms) (hdg : decode cc pc = .ok (.ireturn, 1)) (hp : post v u) :
    W p l e R s m args below meth c H locs cells slots (MQ below (va_Qi post (ps_B cl D tys A) A) args s mc ms A) (F0 m pc ls [.int v]) :=
  W.widen hc hs (W.iret hx hb hr (fun t ht hW => ⟨⟨v, u, rfl, hp, by rw [ht]; exact hP, va_K.moved hW.alike hK, hD⟩, hS.F ht⟩) hS.2.2 hdg hlocks)
theorem ps_zret {post : Int32 → va_W → Prop} (hx : p.tables.exec = Jvm.exec) (hb : c.code = cc) (hr : meth.sig.returnType = some .boolean) (hlocks : meth.locks = false) (hK : va_K D cl tys s) (hP : va_P D cl u H) (hD : va_D A u) (hS : va_S A s.heap H locs) {v : Int32} (hn : narrow .boolean (.int v) = .int v) (hc : cells ≤ mc) (hs : slots ≤ ms) (hdg : decode cc pc = .ok (.ireturn, 1)) (hp : post v u) :
    W p l e R s m args below meth c H locs cells slots (MQ below (va_Qi post (ps_B cl D tys A) A) args s mc ms A) (F0 m pc ls [.int v]) :=
  W.widen hc hs (W.zret hx hb hr hn (fun t ht hW => ⟨⟨v, u, rfl, hp, by rw [ht]; exact hP, va_K.moved hW.alike hK, hD⟩, hS.F ht⟩) hS.2.2 hdg hlocks)
theorem ps_vret {post : va_W → Prop} (hx : p.tables.exec = Jvm.exec) (hb : c.code = cc) (hr : meth.sig.returnType = none) (hlocks : meth.locks = false) (hK : va_K D cl tys s) (hP : va_P D cl u H) (hD : va_D A u) (hS : va_S A s.heap H locs) (hc : cells ≤ mc) (hs : slots ≤ ms) (hdg : decode cc pc = .ok (.return_, 1)) (hp : post u) :
    W p l e R s m args below meth c H locs cells slots (MQ below (va_Qv post (ps_B cl D tys A) A) args s mc ms A) (F0 m pc ls []) :=
  W.widen hc hs (W.vret hx hb hr (fun t ht hW => ⟨⟨u, rfl, hp, by rw [ht]; exact hP, va_K.moved hW.alike hK, hD⟩, hS.F ht⟩) hS.2.2 hdg hlocks)
theorem ps_aret {post : Nat → va_W → Prop} {rt : FieldType} (hx : p.tables.exec = Jvm.exec) (hb : c.code = cc) (hr : meth.sig.returnType = some rt) (hrt : (∃ n, rt = .object n) ∨ ∃ t, rt = .array t) (hlocks : meth.locks = false) (hK : va_K D cl tys s) (hP : va_P D cl u H) (hD : va_D A u) (hS : va_S A s.heap H locs) {v : Nat} (hc : cells ≤ mc) (hs : slots ≤ ms) (hdg : decode cc pc = .ok (.areturn, 1)) (hp : post v u) :
    W p l e R s m args below meth c H locs cells slots (MQ below (va_Qr (fun _ : va_W => True) (fun u a t => post a u ∧ ps_B cl D tys A u t) A) args s mc ms A) (F0 m pc ls [.ref v]) :=
  W.widen hc hs (W.aret hx hb hr hrt (Or.inr ⟨v, rfl⟩) (fun t ht hW => ⟨⟨u, v, rfl, trivial, hp, by rw [ht]; exact hP, va_K.moved hW.alike hK, hD⟩, hS.F ht⟩) hS.2.2 hdg hlocks)
end PSR
section PST
variable {p : Program} {l : Launch} {e : Env} {R : Room} {s : State} {m : MethodId} {args : Array Value} {below : List Frame} {meth : Method} {c : Code} {H : Heap} {locs : List Loc} {cells slots : Nat} {Q : State → Prop} {pc : Nat} {ls : Array Slot} {rest : List Value}
/-- the number on top, in other words -/
theorem ps_top {x z : Int32} (h : x = z) (k : W p l e R s m args below meth c H locs cells slots Q (F0 m pc ls (.int z :: rest))) : W p l e R s m args below meth c H locs cells slots Q (F0 m pc ls (.int x :: rest)) := by rw [h]; exact k
/-- the number under the top, in other words -/
theorem ps_top2 {x z : Int32} {v : Value} (h : x = z) (k : W p l e R s m args below meth c H locs cells slots Q (F0 m pc ls (v :: .int z :: rest))) : W p l e R s m args below meth c H locs cells slots Q (F0 m pc ls (v :: .int x :: rest)) := by rw [h]; exact k
end PST
section PSC
variable {p : Program} {l : Launch} {e : Env} {R : Room} {s : State} {m : MethodId} {args : Array Value} {below : List Frame} {meth : Method} {c : Code} {H : Heap} {locs : List Loc} {cells slots mc ms : Nat} {Q : State → Prop}
variable {pc : Nat} {ls : Array Slot} {st rest : List Value} {a : Array Value} {D : va_G} {cl : List vw_C} {A : Nat → Prop} {tys : List (ClassId × FieldType)} {ws wc wr : va_W} {H0 : Heap}
/-- behind a call: the cells of ws that the callee had (at the places isC) have become u, the rest is as it was -/
theorem ps_afterI {post : Int32 → va_W → Prop} (hP : va_P D cl ws H) (hD : va_D A ws) (hS : va_S A H0 H locs) (hA : ∀ q : Nat, H0.size ≤ q → A q) (isC isR : List Nat) (hC : isC.map (fun i => ws[i]?) = wc.map some) (hR : isR.map (fun i => ws[i]?) = wr.map some) (hn : va_nd isR = true) (hdis : ∀ i ∈ isR, i ∉ isC)
    (hr : va_Run p l e R s m args below meth c H locs cells slots mc ms (F0 m pc ls st) rest (va_Qi post (ps_B cl D tys (va_A wc H.size)) (va_A wc H.size) a) (va_A wc H.size))
    (kk : ∀ (r : Int32) (u : va_W) (H1 : Heap) (locs1 : List Loc), post r u → va_P D cl (wr ++ u) H1 → va_D A (wr ++ u) → va_S A H0 H1 locs1 → W p l e R s m args below meth c H1 locs1 (cells + mc) (slots + ms) Q (F0 m (pc + 3) ls (.int r :: rest))) : W p l e R s m args below meth c H locs cells slots Q (F0 m pc ls st) := by
  have hF := va_free (wc := wc) hD hS hA isC hC
  refine va_calli hr hS (fun q _ h => hF q h) hF (fun r u t H1 locs1 ht hvm hp hB hz hk hS1 => ?_)
  obtain ⟨hP1, -, hD1⟩ := hB
  rw [ht] at hP1
  obtain ⟨hP2, hD2⟩ := va_join hP hD isC isR hC hR hn hdis hk hF hP1 hD1
  exact kk r u H1 locs1 hp hP2 hD2 hS1
theorem ps_afterV {post : va_W → Prop} (hP : va_P D cl ws H) (hD : va_D A ws) (hS : va_S A H0 H locs) (hA : ∀ q : Nat, H0.size ≤ q → A q) (isC isR : List Nat) (hC : isC.map (fun i => ws[i]?) = wc.map some) (hR : isR.map (fun i => ws[i]?) = wr.map some) (hn : va_nd isR = true) (hdis : ∀ i ∈ isR, i ∉ isC)
    (hr : va_Run p l e R s m args below meth c H locs cells slots mc ms (F0 m pc ls st) rest (va_Qv post (ps_B cl D tys (va_A wc H.size)) (va_A wc H.size) a) (va_A wc H.size))
    (kk : ∀ (u : va_W) (H1 : Heap) (locs1 : List Loc), post u → va_P D cl (wr ++ u) H1 → va_D A (wr ++ u) → va_S A H0 H1 locs1 → W p l e R s m args below meth c H1 locs1 (cells + mc) (slots + ms) Q (F0 m (pc + 3) ls rest)) : W p l e R s m args below meth c H locs cells slots Q (F0 m pc ls st) := by
  have hF := va_free (wc := wc) hD hS hA isC hC
  refine va_callv hr hS (fun q _ h => hF q h) hF (fun u t H1 locs1 ht hvm hp hB hz hk hS1 => ?_)
  obtain ⟨hP1, -, hD1⟩ := hB
  rw [ht] at hP1
  obtain ⟨hP2, hD2⟩ := va_join hP hD isC isR hC hR hn hdis hk hF hP1 hD1
  exact kk u H1 locs1 hp hP2 hD2 hS1
theorem ps_afterR {post : Nat → va_W → Prop} (hP : va_P D cl ws H) (hD : va_D A ws) (hS : va_S A H0 H locs) (hA : ∀ q : Nat, H0.size ≤ q → A q) (isC isR : List Nat) (hC : isC.map (fun i => ws[i]?) = wc.map some) (hR : isR.map (fun i => ws[i]?) = wr.map some) (hn : va_nd isR = true) (hdis : ∀ i ∈ isR, i ∉ isC)
    (hr : va_Run p l e R s m args below meth c H locs cells slots mc ms (F0 m pc ls st) rest (va_Qr (fun _ : va_W => True) (fun u a t => post a u ∧ ps_B cl D tys (va_A wc H.size) u t) (va_A wc H.size) a) (va_A wc H.size))
    (kk : ∀ (r : Nat) (u : va_W) (H1 : Heap) (locs1 : List Loc), post r u → va_P D cl (wr ++ u) H1 → va_D A (wr ++ u) → va_S A H0 H1 locs1 → W p l e R s m args below meth c H1 locs1 (cells + mc) (slots + ms) Q (F0 m (pc + 3) ls (.ref r :: rest))) : W p l e R s m args below meth c H locs cells slots Q (F0 m pc ls st) := by
  have hF := va_free (wc := wc) hD hS hA isC hC
  refine va_callr hr hS (fun q _ h => hF q h) hF (fun u r t H1 locs1 ht hvm _ hB hz hk hS1 => ?_)
  obtain ⟨hp, hP1, -, hD1⟩ := hB
  rw [ht] at hP1
  obtain ⟨hP2, hD2⟩ := va_join hP hD isC isR hC hR hn hdis hk hF hP1 hD1
  exact kk r u H1 locs1 hp hP2 hD2 hS1
/-- what a call that leaves its cells as they were leaves of the caller's -/
theorem ps_same {H1 : Heap} (hP : va_P D cl ws H) (hD : va_D A ws) (isC : List Nat) (hC : isC.map (fun i => ws[i]?) = wc.map some) (hk : ∀ q : Nat, q < H.size → ¬ va_A wc H.size q → H1[q]? = H[q]?) (hP1 : va_P D cl wc H1) : va_P D cl ws H1 := by
  intro k q hq
  have hlt := (hP k q hq).lt
  by_cases hin : va_A wc H.size q.1
  · rcases hin with ⟨j, e, hj⟩ | h
    · obtain ⟨i, -, hi⟩ := ps_pick hC j _ hj
      have hik : k = i := hD.1 k i q (q.1, e) hq hi rfl
      subst hik
      have hqe : q = (q.1, e) := Option.some.inj (hq.symm.trans hi)
      rw [hqe]
      exact hP1 j _ hj
    · exact absurd hlt (Nat.not_lt.mpr h)
  · exact (hP k q hq).kept (hk q.1 hlt hin)
/-- the same where the callee changes nothing: the caller's cells stay as they are -/
theorem ps_readI {post : Int32 → va_W → Prop} (hP : va_P D cl ws H) (hD : va_D A ws) (hS : va_S A H0 H locs) (hA : ∀ q : Nat, H0.size ≤ q → A q) (isC : List Nat) (hC : isC.map (fun i => ws[i]?) = wc.map some) (hpure : ∀ r u, post r u → u = wc)
    (hr : va_Run p l e R s m args below meth c H locs cells slots mc ms (F0 m pc ls st) rest (va_Qi post (ps_B cl D tys (va_A wc H.size)) (va_A wc H.size) a) (va_A wc H.size))
    (kk : ∀ (r : Int32) (H1 : Heap) (locs1 : List Loc), post r wc → va_P D cl ws H1 → va_S A H0 H1 locs1 → W p l e R s m args below meth c H1 locs1 (cells + mc) (slots + ms) Q (F0 m (pc + 3) ls (.int r :: rest))) : W p l e R s m args below meth c H locs cells slots Q (F0 m pc ls st) := by
  have hF := va_free (wc := wc) hD hS hA isC hC
  refine va_calli hr hS (fun q _ h => hF q h) hF (fun r u t H1 locs1 ht hvm hp hB hz hk hS1 => ?_)
  obtain ⟨hP1, -, hD1⟩ := hB
  have hu := hpure r u hp
  subst hu
  rw [ht] at hP1
  exact kk r H1 locs1 hp (ps_same hP hD isC hC hk hP1) hS1
end PSC
section PSV
variable {p : Program} {l : Launch} {e : Env} {R : Room} {s : State} {m : MethodId} {args : Array Value} {below : List Frame} {meth : Method} {c : Code} {H : Heap} {locs : List Loc} {cells slots : Nat}
variable {cc bytes : ByteArray} {pc maxL nL n index : Nat} {ret : Option FieldType} {ls : Array Slot} {st rest As : List Value} {D : va_G} {cl : List vw_C} {A : Nat → Prop} {tys : List (ClassId × FieldType)} {ws wc : va_W}
variable {y : MethodName} {wm Ts : List Cond} {rm : Room} {own C : String} {b : Nat}
theorem ps_pre (hK : va_K D cl tys s) (hP : va_P D cl ws H) (hD : va_D A ws) (isC : List Nat) (hn : va_nd isC = true) (hC : isC.map (fun i => ws[i]?) = wc.map some) (U : State) (hU : U.heap = H) (hW : s.WarmedH U.vm) : va_Pc As (ps_I cl D tys wc H.size) As.toArray U :=
  ⟨rfl, by rw [hU], by rw [hU]; exact ps_subP hP isC hC, va_K.moved hW.alike hK, (hD.sub isC hn hC).weaken (fun _ _ _ _ => trivial)⟩
/-- a call of an instance method: the receiver is the callee's cell q0 -/
theorem ps_runVI {post : Int32 → va_W → Prop} (S : CallFix p m c cc nL s args Ts own) (hM : ps_mI cl l y wm rm D tys (.ref b :: As) wc post) (cw : CallW R s args own C index y bytes maxL ret wm rm rm.cells rm.slots n) (hK : va_K D cl tys s) (hP : va_P D cl ws H) (hD : va_D A ws) (isC : List Nat) (hn : va_nd isC = true) (hC : isC.map (fun i => ws[i]?) = wc.map some)
    (q0 ci : Nat) {T : u_T} {N : Nat} {fs : List Value} (hc : cl[ci]? = some (C, T, N)) (he : wc[q0]? = some (b, .inr (ci, fs))) (hna : As.length = n) (hsize : ls.size = nL) (hst : st = As.reverse ++ .ref b :: rest) (hW : (rest.map fun v => v.category).sum ≤ 8) (hdg : decode cc pc = .ok (.invokevirtual index, 3)) (hf : cells + rm.cells ≤ R.cells ∧ slots + rm.slots ≤ R.slots) :
    va_Run p l e R s m args below meth c H locs cells slots rm.cells rm.slots (F0 m pc ls st) rest (va_Qi post (ps_B cl D tys (va_A wc H.size)) (va_A wc H.size) (Value.ref b :: As).toArray) (va_A wc H.size) :=
  va_runV S (hM H.size) cw ⟨ps_blind, va_recv hK (ps_subP hP isC hC) hc he, ps_pre hK hP hD isC hn hC⟩ rfl hna hsize hst (lv_room hW) hdg hf
theorem ps_runVV {post : va_W → Prop} (S : CallFix p m c cc nL s args Ts own) (hM : ps_mV cl l y wm rm D tys (.ref b :: As) wc post) (cw : CallW R s args own C index y bytes maxL ret wm rm rm.cells rm.slots n) (hK : va_K D cl tys s) (hP : va_P D cl ws H) (hD : va_D A ws) (isC : List Nat) (hn : va_nd isC = true) (hC : isC.map (fun i => ws[i]?) = wc.map some)
    (q0 ci : Nat) {T : u_T} {N : Nat} {fs : List Value} (hc : cl[ci]? = some (C, T, N)) (he : wc[q0]? = some (b, .inr (ci, fs))) (hna : As.length = n) (hsize : ls.size = nL) (hst : st = As.reverse ++ .ref b :: rest) (hW : (rest.map fun v => v.category).sum ≤ 8) (hdg : decode cc pc = .ok (.invokevirtual index, 3)) (hf : cells + rm.cells ≤ R.cells ∧ slots + rm.slots ≤ R.slots) :
    va_Run p l e R s m args below meth c H locs cells slots rm.cells rm.slots (F0 m pc ls st) rest (va_Qv post (ps_B cl D tys (va_A wc H.size)) (va_A wc H.size) (Value.ref b :: As).toArray) (va_A wc H.size) :=
  va_runV S (hM H.size) cw ⟨ps_blind, va_recv hK (ps_subP hP isC hC) hc he, ps_pre hK hP hD isC hn hC⟩ rfl hna hsize hst (lv_room hW) hdg hf
theorem ps_runVR {post : Nat → va_W → Prop} (S : CallFix p m c cc nL s args Ts own) (hM : ps_mR cl l y wm rm D tys (.ref b :: As) wc post) (cw : CallW R s args own C index y bytes maxL ret wm rm rm.cells rm.slots n) (hK : va_K D cl tys s) (hP : va_P D cl ws H) (hD : va_D A ws) (isC : List Nat) (hn : va_nd isC = true) (hC : isC.map (fun i => ws[i]?) = wc.map some)
    (q0 ci : Nat) {T : u_T} {N : Nat} {fs : List Value} (hc : cl[ci]? = some (C, T, N)) (he : wc[q0]? = some (b, .inr (ci, fs))) (hna : As.length = n) (hsize : ls.size = nL) (hst : st = As.reverse ++ .ref b :: rest) (hW : (rest.map fun v => v.category).sum ≤ 8) (hdg : decode cc pc = .ok (.invokevirtual index, 3)) (hf : cells + rm.cells ≤ R.cells ∧ slots + rm.slots ≤ R.slots) :
    va_Run p l e R s m args below meth c H locs cells slots rm.cells rm.slots (F0 m pc ls st) rest (va_Qr (fun _ : va_W => True) (fun u a t => post a u ∧ ps_B cl D tys (va_A wc H.size) u t) (va_A wc H.size) (Value.ref b :: As).toArray) (va_A wc H.size) :=
  va_runV S (hM H.size) cw ⟨ps_blind, va_recv hK (ps_subP hP isC hC) hc he, ps_pre hK hP hD isC hn hC⟩ rfl hna hsize hst (lv_room hW) hdg hf
theorem ps_runSI {post : Int32 → va_W → Prop} (S : CallFix p m c cc nL s args Ts own) (hM : ps_mI cl l y wm rm D tys As wc post) (cw : CallB R s args own index y bytes maxL ret wm rm rm.cells rm.slots n ∧ (Cond.static y).before args s = true) (hK : va_K D cl tys s) (hP : va_P D cl ws H) (hD : va_D A ws) (isC : List Nat) (hn : va_nd isC = true) (hC : isC.map (fun i => ws[i]?) = wc.map some)
    (hna : As.length = n) (hsize : ls.size = nL) (hst : st = As.reverse ++ rest) (hW : (rest.map fun v => v.category).sum ≤ 8) (hdg : decode cc pc = .ok (.invokestatic index, 3)) (hf : cells + rm.cells ≤ R.cells ∧ slots + rm.slots ≤ R.slots) :
    va_Run p l e R s m args below meth c H locs cells slots rm.cells rm.slots (F0 m pc ls st) rest (va_Qi post (ps_B cl D tys (va_A wc H.size)) (va_A wc H.size) As.toArray) (va_A wc H.size) :=
  va_runS S (hM H.size) cw ⟨ps_blind, ps_pre hK hP hD isC hn hC⟩ rfl hna hsize hst (lv_room hW) hdg hf
theorem ps_runSV {post : va_W → Prop} (S : CallFix p m c cc nL s args Ts own) (hM : ps_mV cl l y wm rm D tys As wc post) (cw : CallB R s args own index y bytes maxL ret wm rm rm.cells rm.slots n ∧ (Cond.static y).before args s = true) (hK : va_K D cl tys s) (hP : va_P D cl ws H) (hD : va_D A ws) (isC : List Nat) (hn : va_nd isC = true) (hC : isC.map (fun i => ws[i]?) = wc.map some)
    (hna : As.length = n) (hsize : ls.size = nL) (hst : st = As.reverse ++ rest) (hW : (rest.map fun v => v.category).sum ≤ 8) (hdg : decode cc pc = .ok (.invokestatic index, 3)) (hf : cells + rm.cells ≤ R.cells ∧ slots + rm.slots ≤ R.slots) :
    va_Run p l e R s m args below meth c H locs cells slots rm.cells rm.slots (F0 m pc ls st) rest (va_Qv post (ps_B cl D tys (va_A wc H.size)) (va_A wc H.size) As.toArray) (va_A wc H.size) :=
  va_runS S (hM H.size) cw ⟨ps_blind, ps_pre hK hP hD isC hn hC⟩ rfl hna hsize hst (lv_room hW) hdg hf
theorem ps_runSR {post : Nat → va_W → Prop} (S : CallFix p m c cc nL s args Ts own) (hM : ps_mR cl l y wm rm D tys As wc post) (cw : CallB R s args own index y bytes maxL ret wm rm rm.cells rm.slots n ∧ (Cond.static y).before args s = true) (hK : va_K D cl tys s) (hP : va_P D cl ws H) (hD : va_D A ws) (isC : List Nat) (hn : va_nd isC = true) (hC : isC.map (fun i => ws[i]?) = wc.map some)
    (hna : As.length = n) (hsize : ls.size = nL) (hst : st = As.reverse ++ rest) (hW : (rest.map fun v => v.category).sum ≤ 8) (hdg : decode cc pc = .ok (.invokestatic index, 3)) (hf : cells + rm.cells ≤ R.cells ∧ slots + rm.slots ≤ R.slots) :
    va_Run p l e R s m args below meth c H locs cells slots rm.cells rm.slots (F0 m pc ls st) rest (va_Qr (fun _ : va_W => True) (fun u a t => post a u ∧ ps_B cl D tys (va_A wc H.size) u t) (va_A wc H.size) As.toArray) (va_A wc H.size) :=
  va_runS S (hM H.size) cw ⟨ps_blind, ps_pre hK hP hD isC hn hC⟩ rfl hna hsize hst (lv_room hW) hdg hf
theorem ps_runIV {post : va_W → Prop} (S : CallFix p m c cc nL s args Ts own) (hM : ps_mV cl l y wm rm D tys (.ref b :: As) wc post) (cw : CallB R s args own index y bytes maxL none wm rm rm.cells rm.slots n ∧ y.name = "<init>" ∧ (Cond.instanceMethod y).before args s = true) (hK : va_K D cl tys s) (hP : va_P D cl ws H) (hD : va_D A ws) (isC : List Nat) (hn : va_nd isC = true) (hC : isC.map (fun i => ws[i]?) = wc.map some)
    (hna : As.length = n) (hsize : ls.size = nL) (hst : st = As.reverse ++ .ref b :: rest) (hW : (rest.map fun v => v.category).sum ≤ 8) (hdg : decode cc pc = .ok (.invokespecial index, 3)) (hf : cells + rm.cells ≤ R.cells ∧ slots + rm.slots ≤ R.slots) :
    va_Run p l e R s m args below meth c H locs cells slots rm.cells rm.slots (F0 m pc ls st) rest (va_Qv post (ps_B cl D tys (va_A wc H.size)) (va_A wc H.size) (Value.ref b :: As).toArray) (va_A wc H.size) :=
  va_runI S (hM H.size) cw ⟨ps_blind, ps_pre hK hP hD isC hn hC⟩ rfl hna hsize hst (lv_room hW) hdg hf
end PSV
/-- words that are good for a callee, all in one table -/
theorem ps_good {tbl : List Cond} (hg : ∀ w ∈ tbl, goodWord w = true) {ws : List Cond} (h : ∀ w ∈ ws, w ∈ tbl) : GoodIn tbl ws := fun w hw => ⟨h w hw, good_of_word (hg w (h w hw))⟩
/-- what the table has of a method that is called on an object of its class -/
def ps_cdV (tbl : List Cond) (y : MethodName) (bytes : ByteArray) (maxL : Nat) (ret : Option FieldType) : Prop := Cond.instanceMethod y ∈ tbl ∧ Cond.selects y.cls y y ∈ tbl ∧ Cond.initialized y.cls ∈ tbl ∧ Cond.code y bytes maxL ret ∈ tbl
def ps_cdS (tbl : List Cond) (y : MethodName) (bytes : ByteArray) (maxL : Nat) (ret : Option FieldType) : Prop := Cond.static y ∈ tbl ∧ Cond.initialized y.cls ∈ tbl ∧ Cond.code y bytes maxL ret ∈ tbl
def ps_cdI (tbl : List Cond) (y : MethodName) (bytes : ByteArray) (maxL : Nat) : Prop := Cond.instanceMethod y ∈ tbl ∧ Cond.initialized y.cls ∈ tbl ∧ Cond.code y bytes maxL none ∈ tbl
section PSW
variable {R : Room} {s : State} {args : Array Value} {tbl : List Cond} {own : String} {index maxL : Nat} {y : MethodName} {bytes : ByteArray} {ret : Option FieldType} {rm : Room}
theorem ps_cwV (hg : ∀ w ∈ tbl, goodWord w = true) (n : Nat) (ht : ∀ w ∈ tbl, w.before args s = true) (hl : Cond.methodLink own index y ∈ tbl) (hc : ps_cdV tbl y bytes maxL ret)
    (hd : y.cls ≠ "java/lang/invoke/MethodHandle" ∧ y.cls ≠ "java/lang/invoke/VarHandle" ∧ (parseMethodDescriptor y.desc).map (fun d => d.parameters.length) = some n) (hR : rm.frames + 1 ≤ R.frames ∧ 8 + (maxL + 11) + rm.locals ≤ R.locals) :
    CallW R s args own y.cls index y bytes maxL ret (Cond.code y bytes maxL ret :: tbl) rm rm.cells rm.slots n := by
  obtain ⟨h1, h2, h3, h4⟩ := hc
  refine cwV n ht (ps_good hg (fun w hw => ?_)) rfl rfl rfl ⟨rfl, hd⟩ hR
  unfold wsV at hw
  rcases List.mem_append.mp hw with hw | hw
  · simp only [List.mem_cons, List.not_mem_nil, or_false] at hw
    rcases hw with rfl | rfl | rfl | rfl
    · exact hl
    · exact h1
    · exact h2
    · exact h3
  · rcases List.mem_cons.mp hw with rfl | hw
    · exact h4
    · exact hw
theorem ps_cwS (hg : ∀ w ∈ tbl, goodWord w = true) (n : Nat) (ht : ∀ w ∈ tbl, w.before args s = true) (hl : Cond.methodLink own index y ∈ tbl) (hc : ps_cdS tbl y bytes maxL ret)
    (hd : y.cls ≠ "java/lang/invoke/MethodHandle" ∧ y.cls ≠ "java/lang/invoke/VarHandle" ∧ (parseMethodDescriptor y.desc).map (fun d => d.parameters.length) = some n) (hR : rm.frames + 1 ≤ R.frames ∧ 8 + (maxL + 11) + rm.locals ≤ R.locals) :
    CallB R s args own index y bytes maxL ret (Cond.code y bytes maxL ret :: tbl) rm rm.cells rm.slots n ∧ (Cond.static y).before args s = true := by
  obtain ⟨h1, h3, h4⟩ := hc
  exact ⟨callB_of n ht (ps_good hg (fun w hw => by
    rcases List.mem_cons.mp hw with rfl | hw
    · exact h4
    · exact hw)) rfl rfl rfl (ht _ h3) (ht _ hl) hd hR, ht _ h1⟩
theorem ps_cwI (hg : ∀ w ∈ tbl, goodWord w = true) (n : Nat) (ht : ∀ w ∈ tbl, w.before args s = true) (hl : Cond.methodLink own index y ∈ tbl) (hc : ps_cdI tbl y bytes maxL) (hy : y.name = "<init>")
    (hd : y.cls ≠ "java/lang/invoke/MethodHandle" ∧ y.cls ≠ "java/lang/invoke/VarHandle" ∧ (parseMethodDescriptor y.desc).map (fun d => d.parameters.length) = some n) (hR : rm.frames + 1 ≤ R.frames ∧ 8 + (maxL + 11) + rm.locals ≤ R.locals) :
    CallB R s args own index y bytes maxL none (Cond.code y bytes maxL none :: tbl) rm rm.cells rm.slots n ∧ y.name = "<init>" ∧ (Cond.instanceMethod y).before args s = true := by
  obtain ⟨h1, h3, h4⟩ := hc
  exact ⟨callB_of n ht (ps_good hg (fun w hw => by
    rcases List.mem_cons.mp hw with rfl | hw
    · exact h4
    · exact hw)) rfl rfl rfl (ht _ h3) (ht _ hl) hd hR, hy, ht _ h1⟩
end PSW
section PSN
variable {p : Program} {l : Launch} {e : Env} {R : Room} {s : State} {m : MethodId} {args : Array Value} {below : List Frame} {meth : Method} {c : Code} {H : Heap} {locs : List Loc} {cells slots : Nat} {Q : State → Prop}
variable {cc : ByteArray} {pc : Nat} {ls : Array Slot} {rest : List Value} {D : va_G} {cl : List vw_C} {A : Nat → Prop} {tys : List (ClassId × FieldType)} {ws : va_W} {H0 : Heap}
/-- all arrays of ints have one class -/
theorem ps_one {cI cA : ClassId} (t0 : Nat) (ht : tys[t0]? = some (cI, .int)) (h : va_K D cl (tys ++ [(cA, .int)]) s) : cA = cI := by
  have h1 := (h.2 t0 (cI, .int) (by rw [List.getElem?_append_left (List.getElem?_eq_some_iff.mp ht).1]; exact ht)).2
  have h2 := (h.2 tys.length (cA, .int) (by rw [List.getElem?_append_right (Nat.le_refl _), Nat.sub_self]; rfl)).2
  exact Option.some.inj ((show s.vm.findClass _ = some cA from h2).symm.trans (show s.vm.findClass _ = some cI from h1))
/-- a new array of N ints, all 0 -/
theorem ps_newi (hx : p.tables.exec = Jvm.exec) (hb : c.code = cc) (harr : (Cond.arrayClass .int).before args s = true) (hK : va_K D cl tys s) {cI : ClassId} (t0 : Nat) (ht : tys[t0]? = some (cI, .int)) (hP : va_P D cl ws H) (hD : va_D A ws) (hS : va_S A H0 H locs) (hA : ∀ q : Nat, H0.size ≤ q → A q)
    {N : Nat} (hN : N < 100000000) (hcells : cells + 1 ≤ R.cells) (hslots : slots + N ≤ R.slots) (hdg : decode cc pc = .ok (.newarray .int, 2))
    (kk : ∀ (q : Nat) (H1 : Heap), va_P D cl (ws ++ [(q, .inl (cI, N, .inl (fun _ => 0)))]) H1 → va_D A (ws ++ [(q, .inl (cI, N, .inl (fun _ => 0)))]) → va_S A H0 H1 locs →
      W p l e R s m args below meth c H1 locs (cells + 1) (slots + N) Q (F0 m (pc + 2) ls (.ref q :: rest))) : W p l e R s m args below meth c H locs cells slots Q (F0 m pc ls (.int (nI N) :: rest)) := by
  refine va_newa (a0 := (N, .inl (fun _ => 0))) hx hb (atype := .int) harr (ty := .int) rfl hK hP hD hS hA (fun cA => rfl) (nI_pos (by omega)) (nI_clamp (by omega)) (show N * 4 ≤ 536870912 by omega) hcells hslots hdg (fun q cA H1 hK1 hP1 hD1 hS1 => ?_)
  have e1 := ps_one t0 ht hK1
  subst e1
  exact kk q H1 hP1 hD1 hS1
end PSN
theorem ps_min {a b : Nat} (ha : a < 2 ^ 31) (hb : b < 2 ^ 31) : (if nI b < nI a then nI b else nI a) = nI (min a b) := by
  by_cases h : b < a
  · rw [if_pos ((nI_ltI hb ha).mpr h), Nat.min_eq_right (by omega)]
  · rw [if_neg (fun q => h ((nI_ltI hb ha).mp q)), Nat.min_eq_left (by omega)]
theorem ps_max {a b : Nat} (ha : a < 2 ^ 31) (hb : b < 2 ^ 31) : (if nI a < nI b then nI b else nI a) = nI (max a b) := by
  by_cases h : a < b
  · rw [if_pos ((nI_ltI ha hb).mpr h), Nat.max_eq_right (by omega)]
  · rw [if_neg (fun q => h ((nI_ltI ha hb).mp q)), Nat.max_eq_left (by omega)]
/-- a row that is 0 from n on -/
def ps_Z (n : Nat) (f : Nat → Int32) : Prop := ∀ j, n ≤ j → f j = 0
theorem ps_cpy {n : Nat} {f : Nat → Int32} (h : ps_Z n f) : va_cpy f (fun _ => 0) 0 0 n = f := by
  funext j
  unfold va_cpy
  by_cases hj : j < n
  · rw [if_pos ⟨Nat.zero_le _, by omega⟩]; congr 1; omega
  · rw [if_neg (by omega)]; exact (h j (by omega)).symm
/-- how long a row of n cells is, once its place i has been written (lim at most) -/
def ps_len (lim n i : Nat) : Nat := if i < n then n else if max (i + 1) (2 * n) ≤ lim / 2 then max (i + 1) (2 * n) else max (i + 1) lim
theorem ps_len_lo {lim n i : Nat} (h : n ≤ i) (c : max (i + 1) (2 * n) ≤ lim / 2) : ps_len lim n i = max (i + 1) (2 * n) := by unfold ps_len; rw [if_neg (by omega), if_pos c]
theorem ps_len_hi {lim n i : Nat} (h : n ≤ i) (hi : i < lim) (c : ¬ max (i + 1) (2 * n) ≤ lim / 2) : ps_len lim n i = lim := by unfold ps_len; rw [if_neg (by omega), if_neg c]; omega
theorem ps_len_ge (lim n i : Nat) : n ≤ ps_len lim n i := by
  unfold ps_len
  split
  · omega
  · split <;> omega
theorem ps_len_gt (lim n i : Nat) : i < ps_len lim n i := by
  unfold ps_len
  split
  · omega
  · split <;> omega
theorem ps_len_le {lim n i : Nat} (hn : n ≤ lim) (hi : i < lim) : ps_len lim n i ≤ lim := by
  unfold ps_len
  split
  · omega
  · split <;> omega
/-- what a row of n cells may have cost in all -/
def ps_psi (lim n : Nat) : Nat := if n < lim then 2 * n else 3 * lim
theorem ps_psi_le {lim n k : Nat} (h : n ≤ k) (hk : k ≤ lim) : ps_psi lim n ≤ ps_psi lim k := by unfold ps_psi; split <;> split <;> omega
theorem ps_psi_put {lim n i : Nat} (hn : n ≤ lim) (hi : i < lim) (h : n ≤ i) : ps_len lim n i + ps_psi lim n ≤ ps_psi lim (ps_len lim n i) := by
  by_cases c : max (i + 1) (2 * n) ≤ lim / 2
  · rw [ps_len_lo h c]
    unfold ps_psi
    rw [if_pos (by omega), if_pos (by omega)]
    omega
  · rw [ps_len_hi h hi c]
    unfold ps_psi
    rw [if_pos (by omega), if_neg (by omega)]
    omega
/-- cells and slots that a write at i pays for -/
def ps_dc (lim n i : Nat) : Nat := ps_len lim n i - n
def ps_ds (lim n i : Nat) : Nat := ps_psi lim (ps_len lim n i) - ps_psi lim n
theorem ps_pay {lim n i : Nat} (hn : n ≤ lim) (hi : i < lim) (h : n ≤ i) : 1 ≤ ps_dc lim n i ∧ ps_len lim n i ≤ ps_ds lim n i := by
  have h1 := ps_psi_put hn hi h
  have h2 := ps_len_gt lim n i
  unfold ps_dc ps_ds
  omega
theorem ps_Z_upd {n i lim : Nat} {f : Nat → Int32} {x : Int32} (h : ps_Z n f) : ps_Z (ps_len lim n i) (upd f i x) := fun j hj => by
  have h1 := ps_len_gt lim n i
  have h2 := ps_len_ge lim n i
  rw [pk_un (by omega)]
  exact h j (by omega)
/-- places a .. b-1 are x, the others as they were -/
def ps_fil (f : Nat → Int32) (a b : Nat) (x : Int32) : Nat → Int32 := fun j => if a ≤ j ∧ j < b then x else f j
theorem ps_fil_0 {f : Nat → Int32} {a : Nat} {x : Int32} : ps_fil f a a x = f := by
  funext j; unfold ps_fil; rw [if_neg (by omega)]
theorem ps_fil_s {f : Nat → Int32} {a b : Nat} {x : Int32} (h : a ≤ b) : upd (ps_fil f a b x) b x = ps_fil f a (b + 1) x := by
  funext j
  by_cases hj : j = b
  · subst hj; rw [pk_us]; unfold ps_fil; rw [if_pos (by omega)]
  · rw [pk_un hj]; unfold ps_fil
    by_cases h2 : a ≤ j ∧ j < b
    · rw [if_pos h2, if_pos (by omega)]
    · rw [if_neg h2, if_neg (by omega)]
theorem ps_Z_fil {n a b : Nat} {f : Nat → Int32} (h : ps_Z n f) : ps_Z n (ps_fil f a b 0) := fun j hj => by
  unfold ps_fil; split
  · rfl
  · exact h j hj
/-- cut at n: a row that is 0 from n on doesn't show it -/
theorem ps_fil_cut {n a b : Nat} {f : Nat → Int32} (h : ps_Z n f) : ps_fil f a (min b n) 0 = ps_fil f a b 0 := by
  funext j; unfold ps_fil
  by_cases h1 : a ≤ j ∧ j < min b n
  · rw [if_pos h1, if_pos (by omega)]
  · rw [if_neg h1]
    by_cases h2 : a ≤ j ∧ j < b
    · rw [if_pos h2]; exact h j (by omega)
    · rw [if_neg h2]
theorem ps_fil_none {n a b : Nat} {f : Nat → Int32} (h : ps_Z n f) (hab : min b n ≤ a) : ps_fil f a b 0 = f := by
  funext j; unfold ps_fil
  by_cases h2 : a ≤ j ∧ j < b
  · rw [if_pos h2]; exact (h j (by omega)).symm
  · rw [if_neg h2]
section PSL
variable {p : Program} {l : Launch} {e : Env} {R : Room} {s : State} {m : MethodId} {args : Array Value} {below : List Frame} {meth : Method} {c : Code} {Q : State → Prop} {pc : Nat}
/-- a loop: an invariant, and a measure that falls -/
theorem ps_loop {α : Type} (ck sk μ : α → Nat) (I : α → Heap → List Loc → Array Slot → Prop)
    (hs : ∀ (x : α) (H : Heap) (locs : List Loc) (ls : Array Slot), I x H locs ls → (∀ (y : α) (H' : Heap) (locs' : List Loc) (ls' : Array Slot), μ y < μ x → I y H' locs' ls' → W p l e R s m args below meth c H' locs' (ck y) (sk y) Q (F0 m pc ls' [])) → W p l e R s m args below meth c H locs (ck x) (sk x) Q (F0 m pc ls []))
    (x : α) (H : Heap) (locs : List Loc) (ls : Array Slot) (h : I x H locs ls) : W p l e R s m args below meth c H locs (ck x) (sk x) Q (F0 m pc ls []) := by
  have key : ∀ (n : Nat) (x : α) (H : Heap) (locs : List Loc) (ls : Array Slot), μ x < n → I x H locs ls → W p l e R s m args below meth c H locs (ck x) (sk x) Q (F0 m pc ls []) := by
    intro n
    induction n with
    | zero => intro x H locs ls h1; exact absurd h1 (Nat.not_lt_zero _)
    | succ n ih => exact fun x H locs ls h1 h2 => hs x H locs ls h2 (fun y H' locs' ls' h3 h4 => ih y H' locs' ls' (by omega) h4)
  exact key (μ x + 1) x H locs ls (Nat.lt_succ_self _) h
end PSL
/-- none of the places a .. b-1 has M -/
def ps_not (M : Nat → Prop) (a b : Nat) : Prop := ∀ i, a ≤ i → i < b → ¬ M i
theorem ps_not0 {M : Nat → Prop} {a : Nat} : ps_not M a a := fun i h1 h2 => absurd h1 (by omega)
theorem ps_nots {M : Nat → Prop} {a b : Nat} (h : ps_not M a b) (hb : ¬ M b) : ps_not M a (b + 1) := fun i h1 h2 => by
  by_cases hi : i = b
  · subst hi; exact hb
  · exact h i h1 (by omega)
/-- r is the first place of a .. E-1 that has M, or -1 -/
def ps_fst (M : Nat → Prop) (a E : Nat) (r : Int32) : Prop := (∃ j, a ≤ j ∧ j < E ∧ M j ∧ ps_not M a j ∧ r = nI j) ∨ (ps_not M a E ∧ r = -1)
theorem ps_fst_y {M : Nat → Prop} {a E i : Nat} (h1 : a ≤ i) (h2 : i < E) (h3 : M i) (h4 : ps_not M a i) : ps_fst M a E (nI i) := Or.inl ⟨i, h1, h2, h3, h4, rfl⟩
theorem ps_fst_n {M : Nat → Prop} {a E i : Nat} (h1 : E ≤ i) (h4 : ps_not M a i) : ps_fst M a E (-1) := Or.inr ⟨fun j h2 h3 => h4 j h2 (by omega), rfl⟩
theorem ps_fst_some {M : Nat → Prop} {a E : Nat} {r : Int32} (h : ps_fst M a E r) (hr : ¬ r = -1) : ∃ j, a ≤ j ∧ j < E ∧ M j ∧ ps_not M a j ∧ r = nI j := by
  rcases h with h | h
  · exact h
  · exact absurd h.2 hr
theorem ps_ite0 {P : Prop} [Decidable P] (h : (if P then (1 : Int32) else 0) = 0) : ¬ P := fun q => by rw [if_pos q] at h; exact absurd h (by decide)
theorem ps_ite1 {P : Prop} [Decidable P] (h : ¬ (if P then (1 : Int32) else 0) = 0) : P := Classical.byContradiction (fun q => h (if_neg q))
/-- how many of the places 0 .. n-1 have M -/
def ps_cnt (M : Nat → Bool) : Nat → Nat
  | 0 => 0
  | n + 1 => ps_cnt M n + (if M n = true then 1 else 0)
theorem ps_cnt_y {M : Nat → Bool} {n : Nat} (h : M n = true) : ps_cnt M (n + 1) = ps_cnt M n + 1 := by show ps_cnt M n + (if M n = true then 1 else 0) = _; rw [if_pos h]
theorem ps_cnt_n {M : Nat → Bool} {n : Nat} (h : M n = false) : ps_cnt M (n + 1) = ps_cnt M n := by show ps_cnt M n + (if M n = true then 1 else 0) = _; rw [if_neg (by rw [h]; decide)]; rfl
theorem ps_cnt_le (M : Nat → Bool) (n : Nat) : ps_cnt M n ≤ n := by
  induction n with
  | zero => exact Nat.le_refl _
  | succ n ih => show ps_cnt M n + (if M n = true then 1 else 0) ≤ n + 1; split <;> omega
