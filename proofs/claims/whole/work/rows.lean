section
-- ===== PART A: goes FIRST, ahead of the names: the tables' words, and 'selects' of the private methods out of them =====
/-- a private method of a class that the tables say can be made, by its rows of tables_1 -/
def lw_okq (q : MethodName × Nat) : Prop := (q.1.cls ≠ "java/lang/invoke/MethodHandle" ∧ q.1.cls ≠ "java/lang/invoke/VarHandle") ∧ Cond.instantiable q.1.cls q.2 ∈ tables_1 ∧ Cond.privateMethod q.1 ∈ tables_1 ∧ Cond.instanceMethod q.1 ∈ tables_1
theorem lw_p0 : lw_okq (⟨"PageStore", "noRowLeft", "()Z"⟩, 10) := ⟨⟨by decide +kernel, by decide +kernel⟩, List.mem_of_getElem? (i := 12) (by decide +kernel), List.mem_of_getElem? (i := 162) (by decide +kernel), List.mem_of_getElem? (i := 163) (by decide +kernel)⟩
theorem lw_p1 : lw_okq (⟨"PageStore", "addRow", "(III)I"⟩, 10) := ⟨⟨by decide +kernel, by decide +kernel⟩, List.mem_of_getElem? (i := 12) (by decide +kernel), List.mem_of_getElem? (i := 183) (by decide +kernel), List.mem_of_getElem? (i := 184) (by decide +kernel)⟩
theorem lw_p2 : lw_okq (⟨"PageStore", "isRow", "(I)Z"⟩, 10) := ⟨⟨by decide +kernel, by decide +kernel⟩, List.mem_of_getElem? (i := 12) (by decide +kernel), List.mem_of_getElem? (i := 221) (by decide +kernel), List.mem_of_getElem? (i := 222) (by decide +kernel)⟩
theorem lw_p3 : lw_okq (⟨"PageStore", "indexIn", "(III)I"⟩, 10) := ⟨⟨by decide +kernel, by decide +kernel⟩, List.mem_of_getElem? (i := 12) (by decide +kernel), List.mem_of_getElem? (i := 241) (by decide +kernel), List.mem_of_getElem? (i := 242) (by decide +kernel)⟩
theorem lw_p4 : lw_okq (⟨"PageStore", "remember", "(II)Z"⟩, 10) := ⟨⟨by decide +kernel, by decide +kernel⟩, List.mem_of_getElem? (i := 12) (by decide +kernel), List.mem_of_getElem? (i := 248) (by decide +kernel), List.mem_of_getElem? (i := 249) (by decide +kernel)⟩
theorem lw_p5 : lw_okq (⟨"PageStore", "mustRemember", "(II)Z"⟩, 10) := ⟨⟨by decide +kernel, by decide +kernel⟩, List.mem_of_getElem? (i := 12) (by decide +kernel), List.mem_of_getElem? (i := 252) (by decide +kernel), List.mem_of_getElem? (i := 253) (by decide +kernel)⟩
theorem lw_p6 : lw_okq (⟨"PageStore", "countAtSave", "(II)I"⟩, 10) := ⟨⟨by decide +kernel, by decide +kernel⟩, List.mem_of_getElem? (i := 12) (by decide +kernel), List.mem_of_getElem? (i := 256) (by decide +kernel), List.mem_of_getElem? (i := 257) (by decide +kernel)⟩
theorem lw_p7 : lw_okq (⟨"PageStore", "valuesOf", "(I)LPageStore$Values;"⟩, 10) := ⟨⟨by decide +kernel, by decide +kernel⟩, List.mem_of_getElem? (i := 12) (by decide +kernel), List.mem_of_getElem? (i := 266) (by decide +kernel), List.mem_of_getElem? (i := 267) (by decide +kernel)⟩
theorem lw_p8 : lw_okq (⟨"PageStore", "isKeyPossible", "(II)Z"⟩, 10) := ⟨⟨by decide +kernel, by decide +kernel⟩, List.mem_of_getElem? (i := 12) (by decide +kernel), List.mem_of_getElem? (i := 302) (by decide +kernel), List.mem_of_getElem? (i := 303) (by decide +kernel)⟩
theorem lw_p9 : lw_okq (⟨"PageStore", "isDictionary", "(I)Z"⟩, 10) := ⟨⟨by decide +kernel, by decide +kernel⟩, List.mem_of_getElem? (i := 12) (by decide +kernel), List.mem_of_getElem? (i := 306) (by decide +kernel), List.mem_of_getElem? (i := 307) (by decide +kernel)⟩
theorem lw_p10 : lw_okq (⟨"PageStore", "addKey", "(IIIII)I"⟩, 10) := ⟨⟨by decide +kernel, by decide +kernel⟩, List.mem_of_getElem? (i := 12) (by decide +kernel), List.mem_of_getElem? (i := 315) (by decide +kernel), List.mem_of_getElem? (i := 316) (by decide +kernel)⟩
theorem lw_p11 : lw_okq (⟨"PageStore$Keys", "isThere", "(II)Z"⟩, 4) := ⟨⟨by decide +kernel, by decide +kernel⟩, List.mem_of_getElem? (i := 77) (by decide +kernel), List.mem_of_getElem? (i := 333) (by decide +kernel), List.mem_of_getElem? (i := 334) (by decide +kernel)⟩
theorem lw_p12 : lw_okq (⟨"PageStore", "moveCursor", "(I)I"⟩, 10) := ⟨⟨by decide +kernel, by decide +kernel⟩, List.mem_of_getElem? (i := 12) (by decide +kernel), List.mem_of_getElem? (i := 361) (by decide +kernel), List.mem_of_getElem? (i := 362) (by decide +kernel)⟩
theorem lw_p13 : lw_okq (⟨"PageStore", "isSave", "(I)Z"⟩, 10) := ⟨⟨by decide +kernel, by decide +kernel⟩, List.mem_of_getElem? (i := 12) (by decide +kernel), List.mem_of_getElem? (i := 381) (by decide +kernel), List.mem_of_getElem? (i := 382) (by decide +kernel)⟩
theorem lw_p14 : lw_okq (⟨"PageStore", "putBack", "(I)V"⟩, 10) := ⟨⟨by decide +kernel, by decide +kernel⟩, List.mem_of_getElem? (i := 12) (by decide +kernel), List.mem_of_getElem? (i := 385) (by decide +kernel), List.mem_of_getElem? (i := 386) (by decide +kernel)⟩
theorem lw_p15 : lw_okq (⟨"PageStoreModel", "row", "(III)I"⟩, 27) := ⟨⟨by decide +kernel, by decide +kernel⟩, List.mem_of_getElem? (i := 393) (by decide +kernel), List.mem_of_getElem? (i := 491) (by decide +kernel), List.mem_of_getElem? (i := 492) (by decide +kernel)⟩
def lw_privs_1 : List (MethodName × Nat) := [(⟨"PageStore", "noRowLeft", "()Z"⟩, 10), (⟨"PageStore", "addRow", "(III)I"⟩, 10), (⟨"PageStore", "isRow", "(I)Z"⟩, 10), (⟨"PageStore", "indexIn", "(III)I"⟩, 10), (⟨"PageStore", "remember", "(II)Z"⟩, 10), (⟨"PageStore", "mustRemember", "(II)Z"⟩, 10), (⟨"PageStore", "countAtSave", "(II)I"⟩, 10), (⟨"PageStore", "valuesOf", "(I)LPageStore$Values;"⟩, 10), (⟨"PageStore", "isKeyPossible", "(II)Z"⟩, 10), (⟨"PageStore", "isDictionary", "(I)Z"⟩, 10), (⟨"PageStore", "addKey", "(IIIII)I"⟩, 10), (⟨"PageStore$Keys", "isThere", "(II)Z"⟩, 4), (⟨"PageStore", "moveCursor", "(I)I"⟩, 10), (⟨"PageStore", "isSave", "(I)Z"⟩, 10), (⟨"PageStore", "putBack", "(I)V"⟩, 10), (⟨"PageStoreModel", "row", "(III)I"⟩, 27)]
theorem lw_r1 : ∀ q ∈ lw_privs_1, lw_okq q := List.forall_mem_cons.mpr ⟨lw_p0, List.forall_mem_cons.mpr ⟨lw_p1, List.forall_mem_cons.mpr ⟨lw_p2, List.forall_mem_cons.mpr ⟨lw_p3, List.forall_mem_cons.mpr ⟨lw_p4, List.forall_mem_cons.mpr ⟨lw_p5, List.forall_mem_cons.mpr ⟨lw_p6, List.forall_mem_cons.mpr ⟨lw_p7, List.forall_mem_cons.mpr ⟨lw_p8, List.forall_mem_cons.mpr ⟨lw_p9, List.forall_mem_cons.mpr ⟨lw_p10, List.forall_mem_cons.mpr ⟨lw_p11, List.forall_mem_cons.mpr ⟨lw_p12, List.forall_mem_cons.mpr ⟨lw_p13, List.forall_mem_cons.mpr ⟨lw_p14, List.forall_mem_cons.mpr ⟨lw_p15, fun _ h => absurd h List.not_mem_nil⟩⟩⟩⟩⟩⟩⟩⟩⟩⟩⟩⟩⟩⟩⟩⟩
theorem lw_p16 : lw_okq (⟨"PageStoreModel", "isRow", "(I)Z"⟩, 27) := ⟨⟨by decide +kernel, by decide +kernel⟩, List.mem_of_getElem? (i := 393) (by decide +kernel), List.mem_of_getElem? (i := 503) (by decide +kernel), List.mem_of_getElem? (i := 504) (by decide +kernel)⟩
theorem lw_p17 : lw_okq (⟨"PageStoreModel", "at", "(II)I"⟩, 27) := ⟨⟨by decide +kernel, by decide +kernel⟩, List.mem_of_getElem? (i := 393) (by decide +kernel), List.mem_of_getElem? (i := 519) (by decide +kernel), List.mem_of_getElem? (i := 520) (by decide +kernel)⟩
theorem lw_p18 : lw_okq (⟨"PageStoreModel", "remember", "(I)Z"⟩, 27) := ⟨⟨by decide +kernel, by decide +kernel⟩, List.mem_of_getElem? (i := 393) (by decide +kernel), List.mem_of_getElem? (i := 523) (by decide +kernel), List.mem_of_getElem? (i := 524) (by decide +kernel)⟩
theorem lw_p19 : lw_okq (⟨"PageStoreModel", "isOpen", "(I)Z"⟩, 27) := ⟨⟨by decide +kernel, by decide +kernel⟩, List.mem_of_getElem? (i := 393) (by decide +kernel), List.mem_of_getElem? (i := 527) (by decide +kernel), List.mem_of_getElem? (i := 528) (by decide +kernel)⟩
theorem lw_p20 : lw_okq (⟨"PageStoreModel", "isDictionary", "(I)Z"⟩, 27) := ⟨⟨by decide +kernel, by decide +kernel⟩, List.mem_of_getElem? (i := 393) (by decide +kernel), List.mem_of_getElem? (i := 551) (by decide +kernel), List.mem_of_getElem? (i := 552) (by decide +kernel)⟩
theorem lw_p21 : lw_okq (⟨"PageStoreModel", "key", "(III)I"⟩, 27) := ⟨⟨by decide +kernel, by decide +kernel⟩, List.mem_of_getElem? (i := 393) (by decide +kernel), List.mem_of_getElem? (i := 558) (by decide +kernel), List.mem_of_getElem? (i := 559) (by decide +kernel)⟩
theorem lw_p22 : lw_okq (⟨"PageStoreModel", "there", "(III)I"⟩, 27) := ⟨⟨by decide +kernel, by decide +kernel⟩, List.mem_of_getElem? (i := 393) (by decide +kernel), List.mem_of_getElem? (i := 566) (by decide +kernel), List.mem_of_getElem? (i := 567) (by decide +kernel)⟩
theorem lw_p23 : lw_okq (⟨"PageStoreModel", "now", "(I)I"⟩, 27) := ⟨⟨by decide +kernel, by decide +kernel⟩, List.mem_of_getElem? (i := 393) (by decide +kernel), List.mem_of_getElem? (i := 598) (by decide +kernel), List.mem_of_getElem? (i := 599) (by decide +kernel)⟩
theorem lw_p24 : lw_okq (⟨"PageStoreModel", "back", "()V"⟩, 27) := ⟨⟨by decide +kernel, by decide +kernel⟩, List.mem_of_getElem? (i := 393) (by decide +kernel), List.mem_of_getElem? (i := 606) (by decide +kernel), List.mem_of_getElem? (i := 607) (by decide +kernel)⟩
def lw_privs_2 : List (MethodName × Nat) := [(⟨"PageStoreModel", "isRow", "(I)Z"⟩, 27), (⟨"PageStoreModel", "at", "(II)I"⟩, 27), (⟨"PageStoreModel", "remember", "(I)Z"⟩, 27), (⟨"PageStoreModel", "isOpen", "(I)Z"⟩, 27), (⟨"PageStoreModel", "isDictionary", "(I)Z"⟩, 27), (⟨"PageStoreModel", "key", "(III)I"⟩, 27), (⟨"PageStoreModel", "there", "(III)I"⟩, 27), (⟨"PageStoreModel", "now", "(I)I"⟩, 27), (⟨"PageStoreModel", "back", "()V"⟩, 27)]
theorem lw_r2 : ∀ q ∈ lw_privs_2, lw_okq q := List.forall_mem_cons.mpr ⟨lw_p16, List.forall_mem_cons.mpr ⟨lw_p17, List.forall_mem_cons.mpr ⟨lw_p18, List.forall_mem_cons.mpr ⟨lw_p19, List.forall_mem_cons.mpr ⟨lw_p20, List.forall_mem_cons.mpr ⟨lw_p21, List.forall_mem_cons.mpr ⟨lw_p22, List.forall_mem_cons.mpr ⟨lw_p23, List.forall_mem_cons.mpr ⟨lw_p24, fun _ h => absurd h List.not_mem_nil⟩⟩⟩⟩⟩⟩⟩⟩⟩
def lw_privs : List (MethodName × Nat) := lw_privs_1 ++ (lw_privs_2)
def lw_tbl : List Cond := k2_sels lw_privs ++ tables_1
theorem lw_privs_ok : ∀ q ∈ lw_privs, lw_okq q := by
  show ∀ q ∈ lw_privs_1 ++ (lw_privs_2), lw_okq q
  exact List.forall_mem_append.mpr ⟨lw_r1, lw_r2⟩
/-- the words of the tables that a callee may have, one table for every method -/
def ps_tbl : List Cond := lw_tbl.filter goodWord
theorem ps_gd : ∀ w ∈ ps_tbl, goodWord w = true := fun _ h => (List.mem_filter.mp h).2
theorem ps_t1 {w : Cond} (i : Nat) (h : tables_1_1[i]? = some w) (hg : goodWord w = true) : w ∈ ps_tbl := List.mem_filter.mpr ⟨List.mem_append_right _ (List.mem_append_left _ (List.mem_of_getElem? h)), hg⟩
theorem ps_t2 {w : Cond} (i : Nat) (h : tables_1_2[i]? = some w) (hg : goodWord w = true) : w ∈ ps_tbl := List.mem_filter.mpr ⟨List.mem_append_right _ (List.mem_append_right _ (List.mem_append_left _ (List.mem_of_getElem? h))), hg⟩
theorem ps_t3 {w : Cond} (i : Nat) (h : tables_1_3[i]? = some w) (hg : goodWord w = true) : w ∈ ps_tbl := List.mem_filter.mpr ⟨List.mem_append_right _ (List.mem_append_right _ (List.mem_append_right _ (List.mem_of_getElem? h))), hg⟩
theorem ps_ts {y : MethodName} {n : Nat} (i : Nat) (h : lw_privs[i]? = some (y, n)) (hg : goodWord (Cond.selects y.cls y y) = true) : Cond.selects y.cls y y ∈ ps_tbl := List.mem_filter.mpr ⟨List.mem_append_left _ (List.mem_map.mpr ⟨(y, n), List.mem_of_getElem? h, rfl⟩), hg⟩
/-! SUPPORT: one uniform form of contract, and the rows that enter, call and leave in it. The world behind a method is a list of cells, as the one before it is. -/
theorem ps_pick {ws ws' : va_W} {is : List Nat} (hs : is.map (fun i => ws[i]?) = ws'.map some) (k : Nat) (q : Nat × va_E) (hk : ws'[k]? = some q) : ∃ i, is[k]? = some i ∧ ws[i]? = some q := by
  have h1 : (is.map (fun i => ws[i]?))[k]? = some (some q) := by rw [hs, List.getElem?_map, hk]; rfl
  rw [List.getElem?_map] at h1
  cases hi : is[k]? with
  | none => rw [hi] at h1; cases h1
  | some i => rw [hi] at h1; exact ⟨i, rfl, Option.some.inj h1⟩
theorem ps_subP {D : va_G} {cl : List vw_C} {ws ws' : va_W} {H : Heap} (hP : va_P D cl ws H) (is : List Nat) (hs : is.map (fun i => ws[i]?) = ws'.map some) : va_P D cl ws' H := fun k q hk => by
  obtain ⟨i, -, hi⟩ := ps_pick hs k q hk
  exact hP i q hi
/-- the same cells in another order, or fewer -/
theorem ps_perm {D : va_G} {cl : List vw_C} {A : Nat → Prop} {ws ws' : va_W} {H : Heap} (hP : va_P D cl ws H) (hD : va_D A ws) (is : List Nat) (hn : va_nd is = true) (hs : is.map (fun i => ws[i]?) = ws'.map some) : va_P D cl ws' H ∧ va_D A ws' :=
  ⟨ps_subP hP is hs, hD.sub is hn hs⟩
abbrev ps_B (cl : List vw_C) (D : va_G) (tys : List (ClassId × FieldType)) (A : Nat → Prop) (u : va_W) (t : State) : Prop := va_P D cl u t.heap ∧ va_K D cl tys t ∧ va_D A u
abbrev ps_I (cl : List vw_C) (D : va_G) (tys : List (ClassId × FieldType)) (win : va_W) (sz : Nat) (U : State) : Prop := U.heap.size = sz ∧ va_P D cl win U.heap ∧ va_K D cl tys U ∧ va_D (fun _ => True) win
/-- a method that answers an int (or a boolean) -/
def ps_mI (cl : List vw_C) (l : Launch) (y : MethodName) (ws : List Cond) (rm : Room) (D : va_G) (tys : List (ClassId × FieldType)) (As : List Value) (win : va_W) (post : Int32 → va_W → Prop) : Prop :=
  ∀ sz : Nat, Met l y ws rm (va_Pc As (ps_I cl D tys win sz)) (va_Qi post (ps_B cl D tys (va_A win sz)) (va_A win sz)) rm.cells rm.slots (va_A win sz)
/-- a method that answers nothing -/
def ps_mV (cl : List vw_C) (l : Launch) (y : MethodName) (ws : List Cond) (rm : Room) (D : va_G) (tys : List (ClassId × FieldType)) (As : List Value) (win : va_W) (post : va_W → Prop) : Prop :=
  ∀ sz : Nat, Met l y ws rm (va_Pc As (ps_I cl D tys win sz)) (va_Qv post (ps_B cl D tys (va_A win sz)) (va_A win sz)) rm.cells rm.slots (va_A win sz)
/-- a method that answers a cell -/
def ps_mR (cl : List vw_C) (l : Launch) (y : MethodName) (ws : List Cond) (rm : Room) (D : va_G) (tys : List (ClassId × FieldType)) (As : List Value) (win : va_W) (post : Nat → va_W → Prop) : Prop :=
  ∀ sz : Nat, Met l y ws rm (va_Pc As (ps_I cl D tys win sz)) (va_Qr (fun _ : va_W => True) (fun u a t => post a u ∧ ps_B cl D tys (va_A win sz) u t) (va_A win sz)) rm.cells rm.slots (va_A win sz)
theorem ps_blind {cl : List vw_C} {D : va_G} {tys : List (ClassId × FieldType)} {As : List Value} {win : va_W} {sz : Nat} : FrameBlind (va_Pc As (ps_I cl D tys win sz)) := fun a U g mk q => by
  obtain ⟨q0, q1, qP, qK, qD⟩ := q
  exact ⟨q0, q1, qP, va_K.moved (u := U) (U := U.calling g mk a) (Vm.Alike.refl U.vm) qK, qD⟩
/-- what holds at a method's entry of the machine -/
def ps_At (p : Program) (s : State) (m : MethodId) (args : Array Value) (meth : Method) (c : Code) (y : MethodName) (ws : List Cond) (cc : ByteArray) (maxL : Nat) (ret : Option FieldType) : Prop :=
  p.tables.exec = Jvm.exec ∧ c.code = cc ∧ meth.sig.returnType = ret ∧ c.maxLocals = maxL ∧ (∀ w ∈ ws, w.before args s = true) ∧ s.vm.findClass y.cls = some m.cls ∧ meth.locks = false ∧ meth.name = y.name
section PSE
variable {cl : List vw_C} {l : Launch} {y : MethodName} {ws ws' : List Cond} {rm : Room} {D : va_G} {tys : List (ClassId × FieldType)} {As : List Value} {win : va_W} {cc : ByteArray} {maxL : Nat} {ret : Option FieldType}
theorem ps_mI_of {post : Int32 → va_W → Prop} (hy : plainName y.cls = true) (hw : ws = Cond.code y cc maxL ret :: ws') (hlen : (lg_sl As).length ≤ maxL)
    (body : ∀ (p : Program) (e : Env) (s : State) (m : MethodId) (below : List Frame) (meth : Method) (c : Code) (A : Nat → Prop) (ls : Array Slot), ps_At p s m As.toArray meth c y ws' cc maxL ret → (∀ q : Nat, s.heap.size ≤ q → A q) → va_K D cl tys s → va_P D cl win s.heap → va_D A win → va_S A s.heap s.heap [] → lv_has ls maxL (lv_args 0 As) →
      W p l e rm s m As.toArray below meth c s.heap [] 0 0 (MQ below (va_Qi post (ps_B cl D tys A) A) As.toArray s rm.cells rm.slots A) (F0 m 0 ls [])) : ps_mI cl l y ws rm D tys As win post := by
  intro sz
  refine Met.ofW hy hw ?_
  intro p e s m args below meth c s₁ B hml hv
  obtain ⟨rfl, hsz, hP, hK, hD0⟩ := hv
  subst hsz
  have hl := lv_entry As (n := maxL) hlen
  rw [lg_entry_eq]
  exact body p e s m below meth c _ _ ⟨B.exec, B.bytes, B.returns, hml, fun w hw' => atoms_spec (ws := ws) B.pre w (by rw [hw]; exact List.mem_cons_of_mem _ hw'), findClass_of_methodNamed B.named, B.notSynchronized, (name_of_methodNamed B.named B.method).1⟩ (fun q h => Or.inr h) hK hP hD0.self va_S.rf hl
theorem ps_mV_of {post : va_W → Prop} (hy : plainName y.cls = true) (hw : ws = Cond.code y cc maxL ret :: ws') (hlen : (lg_sl As).length ≤ maxL)
    (body : ∀ (p : Program) (e : Env) (s : State) (m : MethodId) (below : List Frame) (meth : Method) (c : Code) (A : Nat → Prop) (ls : Array Slot), ps_At p s m As.toArray meth c y ws' cc maxL ret → (∀ q : Nat, s.heap.size ≤ q → A q) → va_K D cl tys s → va_P D cl win s.heap → va_D A win → va_S A s.heap s.heap [] → lv_has ls maxL (lv_args 0 As) →
      W p l e rm s m As.toArray below meth c s.heap [] 0 0 (MQ below (va_Qv post (ps_B cl D tys A) A) As.toArray s rm.cells rm.slots A) (F0 m 0 ls [])) : ps_mV cl l y ws rm D tys As win post := by
  intro sz
  refine Met.ofW hy hw ?_
  intro p e s m args below meth c s₁ B hml hv
  obtain ⟨rfl, hsz, hP, hK, hD0⟩ := hv
  subst hsz
  have hl := lv_entry As (n := maxL) hlen
  rw [lg_entry_eq]
  exact body p e s m below meth c _ _ ⟨B.exec, B.bytes, B.returns, hml, fun w hw' => atoms_spec (ws := ws) B.pre w (by rw [hw]; exact List.mem_cons_of_mem _ hw'), findClass_of_methodNamed B.named, B.notSynchronized, (name_of_methodNamed B.named B.method).1⟩ (fun q h => Or.inr h) hK hP hD0.self va_S.rf hl
theorem ps_mR_of {post : Nat → va_W → Prop} (hy : plainName y.cls = true) (hw : ws = Cond.code y cc maxL ret :: ws') (hlen : (lg_sl As).length ≤ maxL)
    (body : ∀ (p : Program) (e : Env) (s : State) (m : MethodId) (below : List Frame) (meth : Method) (c : Code) (A : Nat → Prop) (ls : Array Slot), ps_At p s m As.toArray meth c y ws' cc maxL ret → (∀ q : Nat, s.heap.size ≤ q → A q) → va_K D cl tys s → va_P D cl win s.heap → va_D A win → va_S A s.heap s.heap [] → lv_has ls maxL (lv_args 0 As) →
      W p l e rm s m As.toArray below meth c s.heap [] 0 0 (MQ below (va_Qr (fun _ : va_W => True) (fun u a t => post a u ∧ ps_B cl D tys A u t) A) As.toArray s rm.cells rm.slots A) (F0 m 0 ls [])) : ps_mR cl l y ws rm D tys As win post := by
  intro sz
  refine Met.ofW hy hw ?_
  intro p e s m args below meth c s₁ B hml hv
  obtain ⟨rfl, hsz, hP, hK, hD0⟩ := hv
  subst hsz
  have hl := lv_entry As (n := maxL) hlen
  rw [lg_entry_eq]
  exact body p e s m below meth c _ _ ⟨B.exec, B.bytes, B.returns, hml, fun w hw' => atoms_spec (ws := ws) B.pre w (by rw [hw]; exact List.mem_cons_of_mem _ hw'), findClass_of_methodNamed B.named, B.notSynchronized, (name_of_methodNamed B.named B.method).1⟩ (fun q h => Or.inr h) hK hP hD0.self va_S.rf hl
end PSE
section PSR
variable {p : Program} {l : Launch} {e : Env} {R : Room} {s : State} {m : MethodId} {args : Array Value} {below : List Frame} {meth : Method} {c : Code} {H : Heap} {locs : List Loc} {cells slots mc ms : Nat}
variable {cc : ByteArray} {pc : Nat} {ls : Array Slot} {D : va_G} {cl : List vw_C} {A : Nat → Prop} {tys : List (ClassId × FieldType)} {u : va_W}
theorem ps_iret {post : Int32 → va_W → Prop} (hx : p.tables.exec = Jvm.exec) (hb : c.code = cc) (hr : meth.sig.returnType = some .int) (hlocks : meth.locks = false) (hK : va_K D cl tys s) (hP : va_P D cl u H) (hD : va_D A u) (hS : va_S A s.heap H locs) {v : Int32} (hc : cells ≤ mc) (hs : slots ≤ ms) (hdg : decode cc pc = .ok (.ireturn, 1)) (hp : post v u) :
    W p l e R s m args below meth c H locs cells slots (MQ below (va_Qi post (ps_B cl D tys A) A) args s mc ms A) (F0 m pc ls [.int v]) :=
  W.widen hc hs (W.iret hx hb hr (fun t ht hW => ⟨⟨v, u, rfl, hp, by rw [ht]; exact hP, va_K.moved hW.alike hK, hD⟩, hS.F ht⟩) hS.2.2 hdg hlocks)
theorem ps_zret {post : Int32 → va_W → Prop} (hx : p.tables.exec = Jvm.exec) (hb : c.code = cc) (hr : meth.sig.returnType = some .boolean) (hlocks : meth.locks = false) (hK : va_K D cl tys s) (hP : va_P D cl u H) (hD : va_D A u) (hS : va_S A s.heap H locs) {v : Int32} (hn : narrow .boolean (.int v) = .int v) (hc : cells ≤ mc) (hs : slots ≤ ms) (hdg : decode cc pc = .ok (.ireturn, 1)) (hp : post v u) :
    W p l e R s m args below meth c H locs cells slots (MQ below (va_Qi post (ps_B cl D tys A) A) args s mc ms A) (F0 m pc ls [.int v]) :=
  W.widen hc hs (W.zret hx hb hr hn (fun t ht hW => ⟨⟨v, u, rfl, hp, by rw [ht]; exact hP, va_K.moved hW.alike hK, hD⟩, hS.F ht⟩) hS.2.2 hdg hlocks)
theorem ps_vret {post : va_W → Prop} (hx : p.tables.exec = Jvm.exec) (hb : c.code = cc) (hr : meth.sig.returnType = none) (hlocks : meth.locks = false) (hK : va_K D cl tys s) (hP : va_P D cl u H) (hD : va_D A u) (hS : va_S A s.heap H locs) (hc : cells ≤ mc) (hs : slots ≤ ms) (hdg : decode cc pc = .ok (.return_, 1)) (hp : post u) :
    W p l e R s m args below meth c H locs cells slots (MQ below (va_Qv post (ps_B cl D tys A) A) args s mc ms A) (F0 m pc ls []) :=
  W.widen hc hs (W.vret hx hb hr (fun t ht hW => ⟨⟨u, rfl, hp, by rw [ht]; exact hP, va_K.moved hW.alike hK, hD⟩, hS.F ht⟩) hS.2.2 hdg hlocks)
theorem ps_aret {post : Nat → va_W → Prop} {rt : FieldType} (hx : p.tables.exec = Jvm.exec) (hb : c.code = cc) (hr : meth.sig.returnType = some rt) (hrt : (∃ n, rt = .object n) ∨ ∃ t, rt = .array t) (hlocks : meth.locks = false) (hK : va_K D cl tys s) (hP : va_P D cl u H) (hD : va_D A u) (hS : va_S A s.heap H locs) {v : Nat} (hc : cells ≤ mc) (hs : slots ≤ ms) (hdg : decode cc pc = .ok (.areturn, 1)) (hp : post v u) :
    W p l e R s m args below meth c H locs cells slots (MQ below (va_Qr (fun _ : va_W => True) (fun u a t => post a u ∧ ps_B cl D tys A u t) A) args s mc ms A) (F0 m pc ls [.ref v]) :=
  W.widen hc hs (W.aret hx hb hr hrt (Or.inr ⟨v, rfl⟩) (fun t ht hW => ⟨⟨u, v, rfl, trivial, hp, by rw [ht]; exact hP, va_K.moved hW.alike hK, hD⟩, hS.F ht⟩) hS.2.2 hdg hlocks)
end PSR
section PST
variable {p : Program} {l : Launch} {e : Env} {R : Room} {s : State} {m : MethodId} {args : Array Value} {below : List Frame} {meth : Method} {c : Code} {H : Heap} {locs : List Loc} {cells slots : Nat} {Q : State → Prop} {pc : Nat} {ls : Array Slot} {rest : List Value}
/-- the number on top, in other words -/
theorem ps_top {x z : Int32} (h : x = z) (k : W p l e R s m args below meth c H locs cells slots Q (F0 m pc ls (.int z :: rest))) : W p l e R s m args below meth c H locs cells slots Q (F0 m pc ls (.int x :: rest)) := by rw [h]; exact k
/-- the number under the top, in other words -/
theorem ps_top2 {x z : Int32} {v : Value} (h : x = z) (k : W p l e R s m args below meth c H locs cells slots Q (F0 m pc ls (v :: .int z :: rest))) : W p l e R s m args below meth c H locs cells slots Q (F0 m pc ls (v :: .int x :: rest)) := by rw [h]; exact k
end PST
section PSC
variable {p : Program} {l : Launch} {e : Env} {R : Room} {s : State} {m : MethodId} {args : Array Value} {below : List Frame} {meth : Method} {c : Code} {H : Heap} {locs : List Loc} {cells slots mc ms : Nat} {Q : State → Prop}
variable {pc : Nat} {ls : Array Slot} {st rest : List Value} {a : Array Value} {D : va_G} {cl : List vw_C} {A : Nat → Prop} {tys : List (ClassId × FieldType)} {ws wc wr : va_W} {H0 : Heap}
/-- behind a call: the cells of ws that the callee had (at the places isC) have become u, the rest is as it was -/
theorem ps_afterI {post : Int32 → va_W → Prop} (hP : va_P D cl ws H) (hD : va_D A ws) (hS : va_S A H0 H locs) (hA : ∀ q : Nat, H0.size ≤ q → A q) (isC isR : List Nat) (hC : isC.map (fun i => ws[i]?) = wc.map some) (hR : isR.map (fun i => ws[i]?) = wr.map some) (hn : va_nd isR = true) (hdis : ∀ i ∈ isR, i ∉ isC)
    (hr : va_Run p l e R s m args below meth c H locs cells slots mc ms (F0 m pc ls st) rest (va_Qi post (ps_B cl D tys (va_A wc H.size)) (va_A wc H.size) a) (va_A wc H.size))
    (kk : ∀ (r : Int32) (u : va_W) (H1 : Heap) (locs1 : List Loc), post r u → va_P D cl (wr ++ u) H1 → va_D A (wr ++ u) → va_S A H0 H1 locs1 → W p l e R s m args below meth c H1 locs1 (cells + mc) (slots + ms) Q (F0 m (pc + 3) ls (.int r :: rest))) : W p l e R s m args below meth c H locs cells slots Q (F0 m pc ls st) := by
  have hF := va_free (wc := wc) hD hS hA isC hC
  refine va_calli hr hS (fun q _ h => hF q h) hF (fun r u t H1 locs1 ht hvm hp hB hz hk hS1 => ?_)
  obtain ⟨hP1, -, hD1⟩ := hB
  rw [ht] at hP1
  obtain ⟨hP2, hD2⟩ := va_join hP hD isC isR hC hR hn hdis hk hF hP1 hD1
  exact kk r u H1 locs1 hp hP2 hD2 hS1
theorem ps_afterV {post : va_W → Prop} (hP : va_P D cl ws H) (hD : va_D A ws) (hS : va_S A H0 H locs) (hA : ∀ q : Nat, H0.size ≤ q → A q) (isC isR : List Nat) (hC : isC.map (fun i => ws[i]?) = wc.map some) (hR : isR.map (fun i => ws[i]?) = wr.map some) (hn : va_nd isR = true) (hdis : ∀ i ∈ isR, i ∉ isC)
    (hr : va_Run p l e R s m args below meth c H locs cells slots mc ms (F0 m pc ls st) rest (va_Qv post (ps_B cl D tys (va_A wc H.size)) (va_A wc H.size) a) (va_A wc H.size))
    (kk : ∀ (u : va_W) (H1 : Heap) (locs1 : List Loc), post u → va_P D cl (wr ++ u) H1 → va_D A (wr ++ u) → va_S A H0 H1 locs1 → W p l e R s m args below meth c H1 locs1 (cells + mc) (slots + ms) Q (F0 m (pc + 3) ls rest)) : W p l e R s m args below meth c H locs cells slots Q (F0 m pc ls st) := by
  have hF := va_free (wc := wc) hD hS hA isC hC
  refine va_callv hr hS (fun q _ h => hF q h) hF (fun u t H1 locs1 ht hvm hp hB hz hk hS1 => ?_)
  obtain ⟨hP1, -, hD1⟩ := hB
  rw [ht] at hP1
  obtain ⟨hP2, hD2⟩ := va_join hP hD isC isR hC hR hn hdis hk hF hP1 hD1
  exact kk u H1 locs1 hp hP2 hD2 hS1
theorem ps_afterR {post : Nat → va_W → Prop} (hP : va_P D cl ws H) (hD : va_D A ws) (hS : va_S A H0 H locs) (hA : ∀ q : Nat, H0.size ≤ q → A q) (isC isR : List Nat) (hC : isC.map (fun i => ws[i]?) = wc.map some) (hR : isR.map (fun i => ws[i]?) = wr.map some) (hn : va_nd isR = true) (hdis : ∀ i ∈ isR, i ∉ isC)
    (hr : va_Run p l e R s m args below meth c H locs cells slots mc ms (F0 m pc ls st) rest (va_Qr (fun _ : va_W => True) (fun u a t => post a u ∧ ps_B cl D tys (va_A wc H.size) u t) (va_A wc H.size) a) (va_A wc H.size))
    (kk : ∀ (r : Nat) (u : va_W) (H1 : Heap) (locs1 : List Loc), post r u → va_P D cl (wr ++ u) H1 → va_D A (wr ++ u) → va_S A H0 H1 locs1 → W p l e R s m args below meth c H1 locs1 (cells + mc) (slots + ms) Q (F0 m (pc + 3) ls (.ref r :: rest))) : W p l e R s m args below meth c H locs cells slots Q (F0 m pc ls st) := by
  have hF := va_free (wc := wc) hD hS hA isC hC
  refine va_callr hr hS (fun q _ h => hF q h) hF (fun u r t H1 locs1 ht hvm _ hB hz hk hS1 => ?_)
  obtain ⟨hp, hP1, -, hD1⟩ := hB
  rw [ht] at hP1
  obtain ⟨hP2, hD2⟩ := va_join hP hD isC isR hC hR hn hdis hk hF hP1 hD1
  exact kk r u H1 locs1 hp hP2 hD2 hS1
/-- what a call that leaves its cells as they were leaves of the caller's -/
theorem ps_same {H1 : Heap} (hP : va_P D cl ws H) (hD : va_D A ws) (isC : List Nat) (hC : isC.map (fun i => ws[i]?) = wc.map some) (hk : ∀ q : Nat, q < H.size → ¬ va_A wc H.size q → H1[q]? = H[q]?) (hP1 : va_P D cl wc H1) : va_P D cl ws H1 := by
  intro k q hq
  have hlt := (hP k q hq).lt
  by_cases hin : va_A wc H.size q.1
  · rcases hin with ⟨j, e, hj⟩ | h
    · obtain ⟨i, -, hi⟩ := ps_pick hC j _ hj
      have hik : k = i := hD.1 k i q (q.1, e) hq hi rfl
      subst hik
      have hqe : q = (q.1, e) := Option.some.inj (hq.symm.trans hi)
      rw [hqe]
      exact hP1 j _ hj
    · exact absurd hlt (Nat.not_lt.mpr h)
  · exact (hP k q hq).kept (hk q.1 hlt hin)
/-- the same where the callee changes nothing: the caller's cells stay as they are -/
theorem ps_readI {post : Int32 → va_W → Prop} (hP : va_P D cl ws H) (hD : va_D A ws) (hS : va_S A H0 H locs) (hA : ∀ q : Nat, H0.size ≤ q → A q) (isC : List Nat) (hC : isC.map (fun i => ws[i]?) = wc.map some) (hpure : ∀ r u, post r u → u = wc)
    (hr : va_Run p l e R s m args below meth c H locs cells slots mc ms (F0 m pc ls st) rest (va_Qi post (ps_B cl D tys (va_A wc H.size)) (va_A wc H.size) a) (va_A wc H.size))
    (kk : ∀ (r : Int32) (H1 : Heap) (locs1 : List Loc), post r wc → va_P D cl ws H1 → va_S A H0 H1 locs1 → W p l e R s m args below meth c H1 locs1 (cells + mc) (slots + ms) Q (F0 m (pc + 3) ls (.int r :: rest))) : W p l e R s m args below meth c H locs cells slots Q (F0 m pc ls st) := by
  have hF := va_free (wc := wc) hD hS hA isC hC
  refine va_calli hr hS (fun q _ h => hF q h) hF (fun r u t H1 locs1 ht hvm hp hB hz hk hS1 => ?_)
  obtain ⟨hP1, -, hD1⟩ := hB
  have hu := hpure r u hp
  subst hu
  rw [ht] at hP1
  exact kk r H1 locs1 hp (ps_same hP hD isC hC hk hP1) hS1
end PSC
section PSV
variable {p : Program} {l : Launch} {e : Env} {R : Room} {s : State} {m : MethodId} {args : Array Value} {below : List Frame} {meth : Method} {c : Code} {H : Heap} {locs : List Loc} {cells slots : Nat}
variable {cc bytes : ByteArray} {pc maxL nL n index : Nat} {ret : Option FieldType} {ls : Array Slot} {st rest As : List Value} {D : va_G} {cl : List vw_C} {A : Nat → Prop} {tys : List (ClassId × FieldType)} {ws wc : va_W}
variable {y : MethodName} {wm Ts : List Cond} {rm : Room} {own C : String} {b : Nat}
theorem ps_pre (hK : va_K D cl tys s) (hP : va_P D cl ws H) (hD : va_D A ws) (isC : List Nat) (hn : va_nd isC = true) (hC : isC.map (fun i => ws[i]?) = wc.map some) (U : State) (hU : U.heap = H) (hW : s.WarmedH U.vm) : va_Pc As (ps_I cl D tys wc H.size) As.toArray U :=
  ⟨rfl, by rw [hU], by rw [hU]; exact ps_subP hP isC hC, va_K.moved hW.alike hK, (hD.sub isC hn hC).weaken (fun _ _ _ _ => trivial)⟩
/-- a call of an instance method: the receiver is the callee's cell q0 -/
theorem ps_runVI {post : Int32 → va_W → Prop} (S : CallFix p m c cc nL s args Ts own) (hM : ps_mI cl l y wm rm D tys (.ref b :: As) wc post) (cw : CallW R s args own C index y bytes maxL ret wm rm rm.cells rm.slots n) (hK : va_K D cl tys s) (hP : va_P D cl ws H) (hD : va_D A ws) (isC : List Nat) (hn : va_nd isC = true) (hC : isC.map (fun i => ws[i]?) = wc.map some)
    (q0 ci : Nat) {T : u_T} {N : Nat} {fs : List Value} (hc : cl[ci]? = some (C, T, N)) (he : wc[q0]? = some (b, .inr (ci, fs))) (hna : As.length = n) (hsize : ls.size = nL) (hst : st = As.reverse ++ .ref b :: rest) (hW : (rest.map fun v => v.category).sum ≤ 8) (hdg : decode cc pc = .ok (.invokevirtual index, 3)) (hf : cells + rm.cells ≤ R.cells ∧ slots + rm.slots ≤ R.slots) :
    va_Run p l e R s m args below meth c H locs cells slots rm.cells rm.slots (F0 m pc ls st) rest (va_Qi post (ps_B cl D tys (va_A wc H.size)) (va_A wc H.size) (Value.ref b :: As).toArray) (va_A wc H.size) :=
  va_runV S (hM H.size) cw ⟨ps_blind, va_recv hK (ps_subP hP isC hC) hc he, ps_pre hK hP hD isC hn hC⟩ rfl hna hsize hst (lv_room hW) hdg hf
theorem ps_runVV {post : va_W → Prop} (S : CallFix p m c cc nL s args Ts own) (hM : ps_mV cl l y wm rm D tys (.ref b :: As) wc post) (cw : CallW R s args own C index y bytes maxL ret wm rm rm.cells rm.slots n) (hK : va_K D cl tys s) (hP : va_P D cl ws H) (hD : va_D A ws) (isC : List Nat) (hn : va_nd isC = true) (hC : isC.map (fun i => ws[i]?) = wc.map some)
    (q0 ci : Nat) {T : u_T} {N : Nat} {fs : List Value} (hc : cl[ci]? = some (C, T, N)) (he : wc[q0]? = some (b, .inr (ci, fs))) (hna : As.length = n) (hsize : ls.size = nL) (hst : st = As.reverse ++ .ref b :: rest) (hW : (rest.map fun v => v.category).sum ≤ 8) (hdg : decode cc pc = .ok (.invokevirtual index, 3)) (hf : cells + rm.cells ≤ R.cells ∧ slots + rm.slots ≤ R.slots) :
    va_Run p l e R s m args below meth c H locs cells slots rm.cells rm.slots (F0 m pc ls st) rest (va_Qv post (ps_B cl D tys (va_A wc H.size)) (va_A wc H.size) (Value.ref b :: As).toArray) (va_A wc H.size) :=
  va_runV S (hM H.size) cw ⟨ps_blind, va_recv hK (ps_subP hP isC hC) hc he, ps_pre hK hP hD isC hn hC⟩ rfl hna hsize hst (lv_room hW) hdg hf
theorem ps_runVR {post : Nat → va_W → Prop} (S : CallFix p m c cc nL s args Ts own) (hM : ps_mR cl l y wm rm D tys (.ref b :: As) wc post) (cw : CallW R s args own C index y bytes maxL ret wm rm rm.cells rm.slots n) (hK : va_K D cl tys s) (hP : va_P D cl ws H) (hD : va_D A ws) (isC : List Nat) (hn : va_nd isC = true) (hC : isC.map (fun i => ws[i]?) = wc.map some)
    (q0 ci : Nat) {T : u_T} {N : Nat} {fs : List Value} (hc : cl[ci]? = some (C, T, N)) (he : wc[q0]? = some (b, .inr (ci, fs))) (hna : As.length = n) (hsize : ls.size = nL) (hst : st = As.reverse ++ .ref b :: rest) (hW : (rest.map fun v => v.category).sum ≤ 8) (hdg : decode cc pc = .ok (.invokevirtual index, 3)) (hf : cells + rm.cells ≤ R.cells ∧ slots + rm.slots ≤ R.slots) :
    va_Run p l e R s m args below meth c H locs cells slots rm.cells rm.slots (F0 m pc ls st) rest (va_Qr (fun _ : va_W => True) (fun u a t => post a u ∧ ps_B cl D tys (va_A wc H.size) u t) (va_A wc H.size) (Value.ref b :: As).toArray) (va_A wc H.size) :=
  va_runV S (hM H.size) cw ⟨ps_blind, va_recv hK (ps_subP hP isC hC) hc he, ps_pre hK hP hD isC hn hC⟩ rfl hna hsize hst (lv_room hW) hdg hf
theorem ps_runSI {post : Int32 → va_W → Prop} (S : CallFix p m c cc nL s args Ts own) (hM : ps_mI cl l y wm rm D tys As wc post) (cw : CallB R s args own index y bytes maxL ret wm rm rm.cells rm.slots n ∧ (Cond.static y).before args s = true) (hK : va_K D cl tys s) (hP : va_P D cl ws H) (hD : va_D A ws) (isC : List Nat) (hn : va_nd isC = true) (hC : isC.map (fun i => ws[i]?) = wc.map some)
    (hna : As.length = n) (hsize : ls.size = nL) (hst : st = As.reverse ++ rest) (hW : (rest.map fun v => v.category).sum ≤ 8) (hdg : decode cc pc = .ok (.invokestatic index, 3)) (hf : cells + rm.cells ≤ R.cells ∧ slots + rm.slots ≤ R.slots) :
    va_Run p l e R s m args below meth c H locs cells slots rm.cells rm.slots (F0 m pc ls st) rest (va_Qi post (ps_B cl D tys (va_A wc H.size)) (va_A wc H.size) As.toArray) (va_A wc H.size) :=
  va_runS S (hM H.size) cw ⟨ps_blind, ps_pre hK hP hD isC hn hC⟩ rfl hna hsize hst (lv_room hW) hdg hf
theorem ps_runSV {post : va_W → Prop} (S : CallFix p m c cc nL s args Ts own) (hM : ps_mV cl l y wm rm D tys As wc post) (cw : CallB R s args own index y bytes maxL ret wm rm rm.cells rm.slots n ∧ (Cond.static y).before args s = true) (hK : va_K D cl tys s) (hP : va_P D cl ws H) (hD : va_D A ws) (isC : List Nat) (hn : va_nd isC = true) (hC : isC.map (fun i => ws[i]?) = wc.map some)
    (hna : As.length = n) (hsize : ls.size = nL) (hst : st = As.reverse ++ rest) (hW : (rest.map fun v => v.category).sum ≤ 8) (hdg : decode cc pc = .ok (.invokestatic index, 3)) (hf : cells + rm.cells ≤ R.cells ∧ slots + rm.slots ≤ R.slots) :
    va_Run p l e R s m args below meth c H locs cells slots rm.cells rm.slots (F0 m pc ls st) rest (va_Qv post (ps_B cl D tys (va_A wc H.size)) (va_A wc H.size) As.toArray) (va_A wc H.size) :=
  va_runS S (hM H.size) cw ⟨ps_blind, ps_pre hK hP hD isC hn hC⟩ rfl hna hsize hst (lv_room hW) hdg hf
theorem ps_runSR {post : Nat → va_W → Prop} (S : CallFix p m c cc nL s args Ts own) (hM : ps_mR cl l y wm rm D tys As wc post) (cw : CallB R s args own index y bytes maxL ret wm rm rm.cells rm.slots n ∧ (Cond.static y).before args s = true) (hK : va_K D cl tys s) (hP : va_P D cl ws H) (hD : va_D A ws) (isC : List Nat) (hn : va_nd isC = true) (hC : isC.map (fun i => ws[i]?) = wc.map some)
    (hna : As.length = n) (hsize : ls.size = nL) (hst : st = As.reverse ++ rest) (hW : (rest.map fun v => v.category).sum ≤ 8) (hdg : decode cc pc = .ok (.invokestatic index, 3)) (hf : cells + rm.cells ≤ R.cells ∧ slots + rm.slots ≤ R.slots) :
    va_Run p l e R s m args below meth c H locs cells slots rm.cells rm.slots (F0 m pc ls st) rest (va_Qr (fun _ : va_W => True) (fun u a t => post a u ∧ ps_B cl D tys (va_A wc H.size) u t) (va_A wc H.size) As.toArray) (va_A wc H.size) :=
  va_runS S (hM H.size) cw ⟨ps_blind, ps_pre hK hP hD isC hn hC⟩ rfl hna hsize hst (lv_room hW) hdg hf
theorem ps_runIV {post : va_W → Prop} (S : CallFix p m c cc nL s args Ts own) (hM : ps_mV cl l y wm rm D tys (.ref b :: As) wc post) (cw : CallB R s args own index y bytes maxL none wm rm rm.cells rm.slots n ∧ y.name = "<init>" ∧ (Cond.instanceMethod y).before args s = true) (hK : va_K D cl tys s) (hP : va_P D cl ws H) (hD : va_D A ws) (isC : List Nat) (hn : va_nd isC = true) (hC : isC.map (fun i => ws[i]?) = wc.map some)
    (hna : As.length = n) (hsize : ls.size = nL) (hst : st = As.reverse ++ .ref b :: rest) (hW : (rest.map fun v => v.category).sum ≤ 8) (hdg : decode cc pc = .ok (.invokespecial index, 3)) (hf : cells + rm.cells ≤ R.cells ∧ slots + rm.slots ≤ R.slots) :
    va_Run p l e R s m args below meth c H locs cells slots rm.cells rm.slots (F0 m pc ls st) rest (va_Qv post (ps_B cl D tys (va_A wc H.size)) (va_A wc H.size) (Value.ref b :: As).toArray) (va_A wc H.size) :=
  va_runI S (hM H.size) cw ⟨ps_blind, ps_pre hK hP hD isC hn hC⟩ rfl hna hsize hst (lv_room hW) hdg hf
end PSV
/-- words that are good for a callee, all in one table -/
theorem ps_good {tbl : List Cond} (hg : ∀ w ∈ tbl, goodWord w = true) {ws : List Cond} (h : ∀ w ∈ ws, w ∈ tbl) : GoodIn tbl ws := fun w hw => ⟨h w hw, good_of_word (hg w (h w hw))⟩
/-- what the table has of a method that is called on an object of its class -/
def ps_cdV (tbl : List Cond) (y : MethodName) (bytes : ByteArray) (maxL : Nat) (ret : Option FieldType) : Prop := Cond.instanceMethod y ∈ tbl ∧ Cond.selects y.cls y y ∈ tbl ∧ Cond.initialized y.cls ∈ tbl ∧ Cond.code y bytes maxL ret ∈ tbl
def ps_cdS (tbl : List Cond) (y : MethodName) (bytes : ByteArray) (maxL : Nat) (ret : Option FieldType) : Prop := Cond.static y ∈ tbl ∧ Cond.initialized y.cls ∈ tbl ∧ Cond.code y bytes maxL ret ∈ tbl
def ps_cdI (tbl : List Cond) (y : MethodName) (bytes : ByteArray) (maxL : Nat) : Prop := Cond.instanceMethod y ∈ tbl ∧ Cond.initialized y.cls ∈ tbl ∧ Cond.code y bytes maxL none ∈ tbl
section PSW
variable {R : Room} {s : State} {args : Array Value} {tbl : List Cond} {own : String} {index maxL : Nat} {y : MethodName} {bytes : ByteArray} {ret : Option FieldType} {rm : Room}
theorem ps_cwV (hg : ∀ w ∈ tbl, goodWord w = true) (n : Nat) (ht : ∀ w ∈ tbl, w.before args s = true) (hl : Cond.methodLink own index y ∈ tbl) (hc : ps_cdV tbl y bytes maxL ret)
    (hd : y.cls ≠ "java/lang/invoke/MethodHandle" ∧ y.cls ≠ "java/lang/invoke/VarHandle" ∧ (parseMethodDescriptor y.desc).map (fun d => d.parameters.length) = some n) (hR : rm.frames + 1 ≤ R.frames ∧ 8 + (maxL + 11) + rm.locals ≤ R.locals) :
    CallW R s args own y.cls index y bytes maxL ret (Cond.code y bytes maxL ret :: tbl) rm rm.cells rm.slots n := by
  obtain ⟨h1, h2, h3, h4⟩ := hc
  refine cwV n ht (ps_good hg (fun w hw => ?_)) rfl rfl rfl ⟨rfl, hd⟩ hR
  unfold wsV at hw
  rcases List.mem_append.mp hw with hw | hw
  · simp only [List.mem_cons, List.not_mem_nil, or_false] at hw
    rcases hw with rfl | rfl | rfl | rfl
    · exact hl
    · exact h1
    · exact h2
    · exact h3
  · rcases List.mem_cons.mp hw with rfl | hw
    · exact h4
    · exact hw
theorem ps_cwS (hg : ∀ w ∈ tbl, goodWord w = true) (n : Nat) (ht : ∀ w ∈ tbl, w.before args s = true) (hl : Cond.methodLink own index y ∈ tbl) (hc : ps_cdS tbl y bytes maxL ret)
    (hd : y.cls ≠ "java/lang/invoke/MethodHandle" ∧ y.cls ≠ "java/lang/invoke/VarHandle" ∧ (parseMethodDescriptor y.desc).map (fun d => d.parameters.length) = some n) (hR : rm.frames + 1 ≤ R.frames ∧ 8 + (maxL + 11) + rm.locals ≤ R.locals) :
    CallB R s args own index y bytes maxL ret (Cond.code y bytes maxL ret :: tbl) rm rm.cells rm.slots n ∧ (Cond.static y).before args s = true := by
  obtain ⟨h1, h3, h4⟩ := hc
  exact ⟨callB_of n ht (ps_good hg (fun w hw => by
    rcases List.mem_cons.mp hw with rfl | hw
    · exact h4
    · exact hw)) rfl rfl rfl (ht _ h3) (ht _ hl) hd hR, ht _ h1⟩
theorem ps_cwI (hg : ∀ w ∈ tbl, goodWord w = true) (n : Nat) (ht : ∀ w ∈ tbl, w.before args s = true) (hl : Cond.methodLink own index y ∈ tbl) (hc : ps_cdI tbl y bytes maxL) (hy : y.name = "<init>")
    (hd : y.cls ≠ "java/lang/invoke/MethodHandle" ∧ y.cls ≠ "java/lang/invoke/VarHandle" ∧ (parseMethodDescriptor y.desc).map (fun d => d.parameters.length) = some n) (hR : rm.frames + 1 ≤ R.frames ∧ 8 + (maxL + 11) + rm.locals ≤ R.locals) :
    CallB R s args own index y bytes maxL none (Cond.code y bytes maxL none :: tbl) rm rm.cells rm.slots n ∧ y.name = "<init>" ∧ (Cond.instanceMethod y).before args s = true := by
  obtain ⟨h1, h3, h4⟩ := hc
  exact ⟨callB_of n ht (ps_good hg (fun w hw => by
    rcases List.mem_cons.mp hw with rfl | hw
    · exact h4
    · exact hw)) rfl rfl rfl (ht _ h3) (ht _ hl) hd hR, hy, ht _ h1⟩
end PSW
section PSN
variable {p : Program} {l : Launch} {e : Env} {R : Room} {s : State} {m : MethodId} {args : Array Value} {below : List Frame} {meth : Method} {c : Code} {H : Heap} {locs : List Loc} {cells slots : Nat} {Q : State → Prop}
variable {cc : ByteArray} {pc : Nat} {ls : Array Slot} {rest : List Value} {D : va_G} {cl : List vw_C} {A : Nat → Prop} {tys : List (ClassId × FieldType)} {ws : va_W} {H0 : Heap}
/-- all arrays of ints have one class -/
theorem ps_one {cI cA : ClassId} (t0 : Nat) (ht : tys[t0]? = some (cI, .int)) (h : va_K D cl (tys ++ [(cA, .int)]) s) : cA = cI := by
  have h1 := (h.2 t0 (cI, .int) (by rw [List.getElem?_append_left (List.getElem?_eq_some_iff.mp ht).1]; exact ht)).2
  have h2 := (h.2 tys.length (cA, .int) (by rw [List.getElem?_append_right (Nat.le_refl _), Nat.sub_self]; rfl)).2
  exact Option.some.inj ((show s.vm.findClass _ = some cA from h2).symm.trans (show s.vm.findClass _ = some cI from h1))
/-- a new array of N ints, all 0 -/
theorem ps_newi (hx : p.tables.exec = Jvm.exec) (hb : c.code = cc) (harr : (Cond.arrayClass .int).before args s = true) (hK : va_K D cl tys s) {cI : ClassId} (t0 : Nat) (ht : tys[t0]? = some (cI, .int)) (hP : va_P D cl ws H) (hD : va_D A ws) (hS : va_S A H0 H locs) (hA : ∀ q : Nat, H0.size ≤ q → A q)
    {N : Nat} (hN : N < 100000000) (hcells : cells + 1 ≤ R.cells) (hslots : slots + N ≤ R.slots) (hdg : decode cc pc = .ok (.newarray .int, 2))
    (kk : ∀ (q : Nat) (H1 : Heap), va_P D cl (ws ++ [(q, .inl (cI, N, .inl (fun _ => 0)))]) H1 → va_D A (ws ++ [(q, .inl (cI, N, .inl (fun _ => 0)))]) → va_S A H0 H1 locs →
      W p l e R s m args below meth c H1 locs (cells + 1) (slots + N) Q (F0 m (pc + 2) ls (.ref q :: rest))) : W p l e R s m args below meth c H locs cells slots Q (F0 m pc ls (.int (nI N) :: rest)) := by
  refine va_newa (a0 := (N, .inl (fun _ => 0))) hx hb (atype := .int) harr (ty := .int) rfl hK hP hD hS hA (fun cA => rfl) (nI_pos (by omega)) (nI_clamp (by omega)) (show N * 4 ≤ 536870912 by omega) hcells hslots hdg (fun q cA H1 hK1 hP1 hD1 hS1 => ?_)
  have e1 := ps_one t0 ht hK1
  subst e1
  exact kk q H1 hP1 hD1 hS1
end PSN
theorem ps_min {a b : Nat} (ha : a < 2 ^ 31) (hb : b < 2 ^ 31) : (if nI b < nI a then nI b else nI a) = nI (min a b) := by
  by_cases h : b < a
  · rw [if_pos ((nI_ltI hb ha).mpr h), Nat.min_eq_right (by omega)]
  · rw [if_neg (fun q => h ((nI_ltI hb ha).mp q)), Nat.min_eq_left (by omega)]
theorem ps_max {a b : Nat} (ha : a < 2 ^ 31) (hb : b < 2 ^ 31) : (if nI a < nI b then nI b else nI a) = nI (max a b) := by
  by_cases h : a < b
  · rw [if_pos ((nI_ltI ha hb).mpr h), Nat.max_eq_right (by omega)]
  · rw [if_neg (fun q => h ((nI_ltI ha hb).mp q)), Nat.max_eq_left (by omega)]
/-- a row that is 0 from n on -/
def ps_Z (n : Nat) (f : Nat → Int32) : Prop := ∀ j, n ≤ j → f j = 0
theorem ps_cpy {n : Nat} {f : Nat → Int32} (h : ps_Z n f) : va_cpy f (fun _ => 0) 0 0 n = f := by
  funext j
  unfold va_cpy
  by_cases hj : j < n
  · rw [if_pos ⟨Nat.zero_le _, by omega⟩]; congr 1; omega
  · rw [if_neg (by omega)]; exact (h j (by omega)).symm
/-- how long a row of n cells is, once its place i has been written (lim at most) -/
def ps_len (lim n i : Nat) : Nat := if i < n then n else max (i + 1) (min lim (2 * n))
theorem ps_len_ge (lim n i : Nat) : n ≤ ps_len lim n i := by unfold ps_len; split <;> omega
theorem ps_len_gt (lim n i : Nat) : i < ps_len lim n i := by unfold ps_len; split <;> omega
theorem ps_len_le {lim n i : Nat} (hn : n ≤ lim) (hi : i < lim) : ps_len lim n i ≤ lim := by unfold ps_len; split <;> omega
/-- what a row of n cells may have cost in all -/
def ps_psi (lim n : Nat) : Nat := if n < lim then 2 * n else 3 * lim
theorem ps_psi_le {lim n k : Nat} (h : n ≤ k) (hk : k ≤ lim) : ps_psi lim n ≤ ps_psi lim k := by unfold ps_psi; split <;> split <;> omega
theorem ps_psi_put {lim n i : Nat} (hn : n ≤ lim) (hi : i < lim) (h : n ≤ i) : ps_len lim n i + ps_psi lim n ≤ ps_psi lim (ps_len lim n i) := by
  have h3 : ps_len lim n i = max (i + 1) (min lim (2 * n)) := by unfold ps_len; rw [if_neg (by omega)]
  rw [h3]
  unfold ps_psi
  by_cases h1 : n < lim
  · rw [if_pos h1]
    by_cases h2 : max (i + 1) (min lim (2 * n)) < lim
    · rw [if_pos h2]; omega
    · rw [if_neg h2]; omega
  · omega
/-- cells and slots that a write at i pays for -/
def ps_dc (lim n i : Nat) : Nat := ps_len lim n i - n
def ps_ds (lim n i : Nat) : Nat := ps_psi lim (ps_len lim n i) - ps_psi lim n
theorem ps_pay {lim n i : Nat} (hn : n ≤ lim) (hi : i < lim) (h : n ≤ i) : 1 ≤ ps_dc lim n i ∧ max (i + 1) (min lim (2 * n)) ≤ ps_ds lim n i := by
  have h1 := ps_psi_put hn hi h
  have h2 := ps_len_gt lim n i
  have h3 : ps_len lim n i = max (i + 1) (min lim (2 * n)) := by unfold ps_len; rw [if_neg (by omega)]
  unfold ps_dc ps_ds
  rw [← h3]
  omega
theorem ps_Z_upd {n i lim : Nat} {f : Nat → Int32} {x : Int32} (h : ps_Z n f) : ps_Z (ps_len lim n i) (upd f i x) := fun j hj => by
  have h1 := ps_len_gt lim n i
  have h2 := ps_len_ge lim n i
  rw [pk_un (by omega)]
  exact h j (by omega)
/-- places a .. b-1 are x, the others as they were -/
def ps_fil (f : Nat → Int32) (a b : Nat) (x : Int32) : Nat → Int32 := fun j => if a ≤ j ∧ j < b then x else f j
theorem ps_fil_0 {f : Nat → Int32} {a : Nat} {x : Int32} : ps_fil f a a x = f := by
  funext j; unfold ps_fil; rw [if_neg (by omega)]
theorem ps_fil_s {f : Nat → Int32} {a b : Nat} {x : Int32} (h : a ≤ b) : upd (ps_fil f a b x) b x = ps_fil f a (b + 1) x := by
  funext j
  by_cases hj : j = b
  · subst hj; rw [pk_us]; unfold ps_fil; rw [if_pos (by omega)]
  · rw [pk_un hj]; unfold ps_fil
    by_cases h2 : a ≤ j ∧ j < b
    · rw [if_pos h2, if_pos (by omega)]
    · rw [if_neg h2, if_neg (by omega)]
theorem ps_Z_fil {n a b : Nat} {f : Nat → Int32} (h : ps_Z n f) : ps_Z n (ps_fil f a b 0) := fun j hj => by
  unfold ps_fil; split
  · rfl
  · exact h j hj
/-- cut at n: a row that is 0 from n on doesn't show it -/
theorem ps_fil_cut {n a b : Nat} {f : Nat → Int32} (h : ps_Z n f) : ps_fil f a (min b n) 0 = ps_fil f a b 0 := by
  funext j; unfold ps_fil
  by_cases h1 : a ≤ j ∧ j < min b n
  · rw [if_pos h1, if_pos (by omega)]
  · rw [if_neg h1]
    by_cases h2 : a ≤ j ∧ j < b
    · rw [if_pos h2]; exact h j (by omega)
    · rw [if_neg h2]
theorem ps_fil_none {n a b : Nat} {f : Nat → Int32} (h : ps_Z n f) (hab : min b n ≤ a) : ps_fil f a b 0 = f := by
  funext j; unfold ps_fil
  by_cases h2 : a ≤ j ∧ j < b
  · rw [if_pos h2]; exact (h j (by omega)).symm
  · rw [if_neg h2]
section PSL
variable {p : Program} {l : Launch} {e : Env} {R : Room} {s : State} {m : MethodId} {args : Array Value} {below : List Frame} {meth : Method} {c : Code} {Q : State → Prop} {pc : Nat}
/-- a loop: an invariant, and a measure that falls -/
theorem ps_loop {α : Type} (ck sk μ : α → Nat) (I : α → Heap → List Loc → Array Slot → Prop)
    (hs : ∀ (x : α) (H : Heap) (locs : List Loc) (ls : Array Slot), I x H locs ls → (∀ (y : α) (H' : Heap) (locs' : List Loc) (ls' : Array Slot), μ y < μ x → I y H' locs' ls' → W p l e R s m args below meth c H' locs' (ck y) (sk y) Q (F0 m pc ls' [])) → W p l e R s m args below meth c H locs (ck x) (sk x) Q (F0 m pc ls []))
    (x : α) (H : Heap) (locs : List Loc) (ls : Array Slot) (h : I x H locs ls) : W p l e R s m args below meth c H locs (ck x) (sk x) Q (F0 m pc ls []) := by
  have key : ∀ (n : Nat) (x : α) (H : Heap) (locs : List Loc) (ls : Array Slot), μ x < n → I x H locs ls → W p l e R s m args below meth c H locs (ck x) (sk x) Q (F0 m pc ls []) := by
    intro n
    induction n with
    | zero => intro x H locs ls h1; exact absurd h1 (Nat.not_lt_zero _)
    | succ n ih => exact fun x H locs ls h1 h2 => hs x H locs ls h2 (fun y H' locs' ls' h3 h4 => ih y H' locs' ls' (by omega) h4)
  exact key (μ x + 1) x H locs ls (Nat.lt_succ_self _) h
end PSL
/-- none of the places a .. b-1 has M -/
def ps_not (M : Nat → Prop) (a b : Nat) : Prop := ∀ i, a ≤ i → i < b → ¬ M i
theorem ps_not0 {M : Nat → Prop} {a : Nat} : ps_not M a a := fun i h1 h2 => absurd h1 (by omega)
theorem ps_nots {M : Nat → Prop} {a b : Nat} (h : ps_not M a b) (hb : ¬ M b) : ps_not M a (b + 1) := fun i h1 h2 => by
  by_cases hi : i = b
  · subst hi; exact hb
  · exact h i h1 (by omega)
/-- r is the first place of a .. E-1 that has M, or -1 -/
def ps_fst (M : Nat → Prop) (a E : Nat) (r : Int32) : Prop := (∃ j, a ≤ j ∧ j < E ∧ M j ∧ ps_not M a j ∧ r = nI j) ∨ (ps_not M a E ∧ r = -1)
theorem ps_fst_y {M : Nat → Prop} {a E i : Nat} (h1 : a ≤ i) (h2 : i < E) (h3 : M i) (h4 : ps_not M a i) : ps_fst M a E (nI i) := Or.inl ⟨i, h1, h2, h3, h4, rfl⟩
theorem ps_fst_n {M : Nat → Prop} {a E i : Nat} (h1 : E ≤ i) (h4 : ps_not M a i) : ps_fst M a E (-1) := Or.inr ⟨fun j h2 h3 => h4 j h2 (by omega), rfl⟩
theorem ps_fst_some {M : Nat → Prop} {a E : Nat} {r : Int32} (h : ps_fst M a E r) (hr : ¬ r = -1) : ∃ j, a ≤ j ∧ j < E ∧ M j ∧ ps_not M a j ∧ r = nI j := by
  rcases h with h | h
  · exact h
  · exact absurd h.2 hr
theorem ps_ite0 {P : Prop} [Decidable P] (h : (if P then (1 : Int32) else 0) = 0) : ¬ P := fun q => by rw [if_pos q] at h; exact absurd h (by decide)
theorem ps_ite1 {P : Prop} [Decidable P] (h : ¬ (if P then (1 : Int32) else 0) = 0) : P := Classical.byContradiction (fun q => h (if_neg q))
/-- how many of the places 0 .. n-1 have M -/
def ps_cnt (M : Nat → Bool) : Nat → Nat
  | 0 => 0
  | n + 1 => ps_cnt M n + (if M n = true then 1 else 0)
theorem ps_cnt_y {M : Nat → Bool} {n : Nat} (h : M n = true) : ps_cnt M (n + 1) = ps_cnt M n + 1 := by show ps_cnt M n + (if M n = true then 1 else 0) = _; rw [if_pos h]
theorem ps_cnt_n {M : Nat → Bool} {n : Nat} (h : M n = false) : ps_cnt M (n + 1) = ps_cnt M n := by show ps_cnt M n + (if M n = true then 1 else 0) = _; rw [if_neg (by rw [h]; decide)]; rfl
theorem ps_cnt_le (M : Nat → Bool) (n : Nat) : ps_cnt M n ≤ n := by
  induction n with
  | zero => exact Nat.le_refl _
  | succ n ih => show ps_cnt M n + (if M n = true then 1 else 0) ≤ n + 1; split <;> omega
end
section
def R_Col : String := "PageStore$Column"
def F_Col : u_T := fun k => match k with
  | 0 => ("PageStore$Column", "limit", "I", true)
  | _ => ("PageStore$Column", "cells", "[I", false)
def t_Col : Nat → FieldType := fun k => match k with
  | 0 => .int
  | _ => .array .int
theorem n_Col : ∀ a, a < 2 → ∀ b, b < 2 → a ≠ b → (F_Col a).2.1 ≠ (F_Col b).2.1 := by decide +kernel
theorem t_Col_ok : ∀ k, k < 2 → parseFieldDescriptor (F_Col k).2.2.1 = some (t_Col k) := by decide +kernel
abbrev cCol : Nat := 0
theorem z_Col : ∀ j, j < 2 → defaultValue (t_Col j) = vp_V [.int 0, .null] j := by intro j hj; match j, hj with | 0, _ => rfl | 1, _ => rfl | n + 2, h => exact absurd h (by omega)
theorem i_Col : ∀ w ∈ u_ws R_Col F_Col 2, w ∈ ps_tbl := by decide +kernel
def R_Val : String := "PageStore$Values"
def F_Val : u_T := fun k => match k with
  | 0 => ("PageStore$Values", "kinds", "LPageStore$Column;", true)
  | _ => ("PageStore$Values", "numbers", "LPageStore$Column;", true)
def t_Val : Nat → FieldType := fun k => match k with
  | 0 => .object "PageStore$Column"
  | _ => .object "PageStore$Column"
theorem n_Val : ∀ a, a < 2 → ∀ b, b < 2 → a ≠ b → (F_Val a).2.1 ≠ (F_Val b).2.1 := by decide +kernel
theorem t_Val_ok : ∀ k, k < 2 → parseFieldDescriptor (F_Val k).2.2.1 = some (t_Val k) := by decide +kernel
abbrev cVal : Nat := 1
theorem z_Val : ∀ j, j < 2 → defaultValue (t_Val j) = vp_V [.null, .null] j := by intro j hj; match j, hj with | 0, _ => rfl | 1, _ => rfl | n + 2, h => exact absurd h (by omega)
theorem i_Val : ∀ w ∈ u_ws R_Val F_Val 2, w ∈ ps_tbl := by decide +kernel
def R_Row : String := "PageStore$Rows"
def F_Row : u_T := fun k => match k with
  | 0 => ("PageStore$Rows", "sorts", "LPageStore$Column;", true)
  | 1 => ("PageStore$Rows", "starts", "LPageStore$Column;", true)
  | _ => ("PageStore$Rows", "lengths", "LPageStore$Column;", true)
def t_Row : Nat → FieldType := fun k => match k with
  | 0 => .object "PageStore$Column"
  | 1 => .object "PageStore$Column"
  | _ => .object "PageStore$Column"
theorem n_Row : ∀ a, a < 3 → ∀ b, b < 3 → a ≠ b → (F_Row a).2.1 ≠ (F_Row b).2.1 := by decide +kernel
theorem t_Row_ok : ∀ k, k < 3 → parseFieldDescriptor (F_Row k).2.2.1 = some (t_Row k) := by decide +kernel
abbrev cRow : Nat := 2
theorem z_Row : ∀ j, j < 3 → defaultValue (t_Row j) = vp_V [.null, .null, .null] j := by intro j hj; match j, hj with | 0, _ => rfl | 1, _ => rfl | 2, _ => rfl | n + 3, h => exact absurd h (by omega)
theorem i_Row : ∀ w ∈ u_ws R_Row F_Row 3, w ∈ ps_tbl := by decide +kernel
def R_Key : String := "PageStore$Keys"
def F_Key : u_T := fun k => match k with
  | 0 => ("PageStore$Keys", "dictionaries", "LPageStore$Column;", true)
  | 1 => ("PageStore$Keys", "kinds", "LPageStore$Column;", true)
  | 2 => ("PageStore$Keys", "numbers", "LPageStore$Column;", true)
  | _ => ("PageStore$Keys", "values", "LPageStore$Values;", true)
def t_Key : Nat → FieldType := fun k => match k with
  | 0 => .object "PageStore$Column"
  | 1 => .object "PageStore$Column"
  | 2 => .object "PageStore$Column"
  | _ => .object "PageStore$Values"
theorem n_Key : ∀ a, a < 4 → ∀ b, b < 4 → a ≠ b → (F_Key a).2.1 ≠ (F_Key b).2.1 := by decide +kernel
theorem t_Key_ok : ∀ k, k < 4 → parseFieldDescriptor (F_Key k).2.2.1 = some (t_Key k) := by decide +kernel
abbrev cKey : Nat := 3
theorem z_Key : ∀ j, j < 4 → defaultValue (t_Key j) = vp_V [.null, .null, .null, .null] j := by intro j hj; match j, hj with | 0, _ => rfl | 1, _ => rfl | 2, _ => rfl | 3, _ => rfl | n + 4, h => exact absurd h (by omega)
theorem i_Key : ∀ w ∈ u_ws R_Key F_Key 4, w ∈ ps_tbl := by decide +kernel
def R_Mem : String := "PageStore$Memories"
def F_Mem : u_T := fun k => match k with
  | 0 => ("PageStore$Memories", "whose", "LPageStore$Column;", true)
  | 1 => ("PageStore$Memories", "indexes", "LPageStore$Column;", true)
  | _ => ("PageStore$Memories", "old", "LPageStore$Values;", true)
def t_Mem : Nat → FieldType := fun k => match k with
  | 0 => .object "PageStore$Column"
  | 1 => .object "PageStore$Column"
  | _ => .object "PageStore$Values"
theorem n_Mem : ∀ a, a < 3 → ∀ b, b < 3 → a ≠ b → (F_Mem a).2.1 ≠ (F_Mem b).2.1 := by decide +kernel
theorem t_Mem_ok : ∀ k, k < 3 → parseFieldDescriptor (F_Mem k).2.2.1 = some (t_Mem k) := by decide +kernel
abbrev cMem : Nat := 4
theorem z_Mem : ∀ j, j < 3 → defaultValue (t_Mem j) = vp_V [.null, .null, .null] j := by intro j hj; match j, hj with | 0, _ => rfl | 1, _ => rfl | 2, _ => rfl | n + 3, h => exact absurd h (by omega)
theorem i_Mem : ∀ w ∈ u_ws R_Mem F_Mem 3, w ∈ ps_tbl := by decide +kernel
def R_PS : String := "PageStore"
def F_PS : u_T := fun k => match k with
  | 0 => ("PageStore", "counts", "[I", true)
  | 1 => ("PageStore", "notes", "LPageStore$Column;", true)
  | 2 => ("PageStore", "saves", "I", false)
  | 3 => ("PageStore", "rows", "LPageStore$Rows;", true)
  | 4 => ("PageStore", "places", "LPageStore$Values;", true)
  | 5 => ("PageStore", "octets", "LPageStore$Column;", true)
  | 6 => ("PageStore", "keys", "LPageStore$Keys;", true)
  | 7 => ("PageStore", "memories", "LPageStore$Memories;", true)
  | 8 => ("PageStore", "cursorKeyKind", "I", false)
  | _ => ("PageStore", "cursorKeyNumber", "I", false)
def t_PS : Nat → FieldType := fun k => match k with
  | 0 => .array .int
  | 1 => .object "PageStore$Column"
  | 2 => .int
  | 3 => .object "PageStore$Rows"
  | 4 => .object "PageStore$Values"
  | 5 => .object "PageStore$Column"
  | 6 => .object "PageStore$Keys"
  | 7 => .object "PageStore$Memories"
  | 8 => .int
  | _ => .int
theorem n_PS : ∀ a, a < 10 → ∀ b, b < 10 → a ≠ b → (F_PS a).2.1 ≠ (F_PS b).2.1 := by decide +kernel
theorem t_PS_ok : ∀ k, k < 10 → parseFieldDescriptor (F_PS k).2.2.1 = some (t_PS k) := by decide +kernel
abbrev cPS : Nat := 5
theorem z_PS : ∀ j, j < 10 → defaultValue (t_PS j) = vp_V [.null, .null, .int 0, .null, .null, .null, .null, .null, .int 0, .int 0] j := by intro j hj; match j, hj with | 0, _ => rfl | 1, _ => rfl | 2, _ => rfl | 3, _ => rfl | 4, _ => rfl | 5, _ => rfl | 6, _ => rfl | 7, _ => rfl | 8, _ => rfl | 9, _ => rfl | n + 10, h => exact absurd h (by omega)
theorem i_PS : ∀ w ∈ u_ws R_PS F_PS 10, w ∈ ps_tbl := by decide +kernel
def R_Mod : String := "PageStoreModel"
def F_Mod : u_T := fun k => match k with
  | 0 => ("PageStoreModel", "sorts", "[B", true)
  | 1 => ("PageStoreModel", "firsts", "[I", true)
  | 2 => ("PageStoreModel", "lengths", "[I", true)
  | 3 => ("PageStoreModel", "rows", "I", false)
  | 4 => ("PageStoreModel", "kinds", "[B", true)
  | 5 => ("PageStoreModel", "numbers", "[I", true)
  | 6 => ("PageStoreModel", "places", "I", false)
  | 7 => ("PageStoreModel", "bytes", "[B", true)
  | 8 => ("PageStoreModel", "used", "I", false)
  | 9 => ("PageStoreModel", "dictionaries", "I", false)
  | 10 => ("PageStoreModel", "owners", "[S", true)
  | 11 => ("PageStoreModel", "keyKinds", "[B", true)
  | 12 => ("PageStoreModel", "keyNumbers", "[I", true)
  | 13 => ("PageStoreModel", "valueKinds", "[B", true)
  | 14 => ("PageStoreModel", "valueNumbers", "[I", true)
  | 15 => ("PageStoreModel", "gone", "[Z", true)
  | 16 => ("PageStoreModel", "keys", "I", false)
  | 17 => ("PageStoreModel", "counts", "[I", true)
  | 18 => ("PageStoreModel", "begins", "[I", true)
  | 19 => ("PageStoreModel", "saves", "I", false)
  | 20 => ("PageStoreModel", "whats", "[I", true)
  | 21 => ("PageStoreModel", "oldKinds", "[B", true)
  | 22 => ("PageStoreModel", "oldNumbers", "[I", true)
  | 23 => ("PageStoreModel", "oldGone", "[Z", true)
  | 24 => ("PageStoreModel", "size", "I", false)
  | 25 => ("PageStoreModel", "cursorKind", "I", false)
  | _ => ("PageStoreModel", "cursorNumber", "I", false)
def t_Mod : Nat → FieldType := fun k => match k with
  | 0 => .array .byte
  | 1 => .array .int
  | 2 => .array .int
  | 3 => .int
  | 4 => .array .byte
  | 5 => .array .int
  | 6 => .int
  | 7 => .array .byte
  | 8 => .int
  | 9 => .int
  | 10 => .array .short
  | 11 => .array .byte
  | 12 => .array .int
  | 13 => .array .byte
  | 14 => .array .int
  | 15 => .array .boolean
  | 16 => .int
  | 17 => .array .int
  | 18 => .array .int
  | 19 => .int
  | 20 => .array .int
  | 21 => .array .byte
  | 22 => .array .int
  | 23 => .array .boolean
  | 24 => .int
  | 25 => .int
  | _ => .int
theorem n_Mod : ∀ a, a < 27 → ∀ b, b < 27 → a ≠ b → (F_Mod a).2.1 ≠ (F_Mod b).2.1 := by decide +kernel
theorem t_Mod_ok : ∀ k, k < 27 → parseFieldDescriptor (F_Mod k).2.2.1 = some (t_Mod k) := by decide +kernel
abbrev cMod : Nat := 6
theorem z_Mod : ∀ j, j < 27 → defaultValue (t_Mod j) = vp_V [.null, .null, .null, .int 0, .null, .null, .int 0, .null, .int 0, .int 0, .null, .null, .null, .null, .null, .null, .int 0, .null, .null, .int 0, .null, .null, .null, .null, .int 0, .int 0, .int 0] j := by intro j hj; match j, hj with | 0, _ => rfl | 1, _ => rfl | 2, _ => rfl | 3, _ => rfl | 4, _ => rfl | 5, _ => rfl | 6, _ => rfl | 7, _ => rfl | 8, _ => rfl | 9, _ => rfl | 10, _ => rfl | 11, _ => rfl | 12, _ => rfl | 13, _ => rfl | 14, _ => rfl | 15, _ => rfl | 16, _ => rfl | 17, _ => rfl | 18, _ => rfl | 19, _ => rfl | 20, _ => rfl | 21, _ => rfl | 22, _ => rfl | 23, _ => rfl | 24, _ => rfl | 25, _ => rfl | 26, _ => rfl | n + 27, h => exact absurd h (by omega)
theorem i_Mod : ∀ w ∈ u_ws R_Mod F_Mod 27, w ∈ ps_tbl := by decide +kernel
abbrev classes : List vw_C := [(R_Col, F_Col, 2), (R_Val, F_Val, 2), (R_Row, F_Row, 3), (R_Key, F_Key, 4), (R_Mem, F_Mem, 3), (R_PS, F_PS, 10), (R_Mod, F_Mod, 27)]
def y_PS_init : MethodName := ⟨"PageStore", "<init>", "()V"⟩
def w_PS_init : List Cond := .code y_PS_init prog_1_method_1_code 1 none :: ps_tbl
theorem e_PS_init : y_PS_init.cls ≠ "java/lang/invoke/MethodHandle" ∧ y_PS_init.cls ≠ "java/lang/invoke/VarHandle" ∧ (parseMethodDescriptor y_PS_init.desc).map (fun d => d.parameters.length) = some 0 := by decide +kernel
def y_Col_init : MethodName := ⟨"PageStore$Column", "<init>", "(I)V"⟩
def w_Col_init : List Cond := .code y_Col_init prog_2_method_1_code 2 none :: ps_tbl
theorem e_Col_init : y_Col_init.cls ≠ "java/lang/invoke/MethodHandle" ∧ y_Col_init.cls ≠ "java/lang/invoke/VarHandle" ∧ (parseMethodDescriptor y_Col_init.desc).map (fun d => d.parameters.length) = some 1 := by decide +kernel
def y_Row_init : MethodName := ⟨"PageStore$Rows", "<init>", "()V"⟩
def w_Row_init : List Cond := .code y_Row_init prog_5_method_1_code 1 none :: ps_tbl
theorem e_Row_init : y_Row_init.cls ≠ "java/lang/invoke/MethodHandle" ∧ y_Row_init.cls ≠ "java/lang/invoke/VarHandle" ∧ (parseMethodDescriptor y_Row_init.desc).map (fun d => d.parameters.length) = some 0 := by decide +kernel
def y_Val_init : MethodName := ⟨"PageStore$Values", "<init>", "(I)V"⟩
def w_Val_init : List Cond := .code y_Val_init prog_6_method_1_code 2 none :: ps_tbl
theorem e_Val_init : y_Val_init.cls ≠ "java/lang/invoke/MethodHandle" ∧ y_Val_init.cls ≠ "java/lang/invoke/VarHandle" ∧ (parseMethodDescriptor y_Val_init.desc).map (fun d => d.parameters.length) = some 1 := by decide +kernel
def y_Key_init : MethodName := ⟨"PageStore$Keys", "<init>", "()V"⟩
def w_Key_init : List Cond := .code y_Key_init prog_3_method_1_code 1 none :: ps_tbl
theorem e_Key_init : y_Key_init.cls ≠ "java/lang/invoke/MethodHandle" ∧ y_Key_init.cls ≠ "java/lang/invoke/VarHandle" ∧ (parseMethodDescriptor y_Key_init.desc).map (fun d => d.parameters.length) = some 0 := by decide +kernel
def y_Mem_init : MethodName := ⟨"PageStore$Memories", "<init>", "()V"⟩
def w_Mem_init : List Cond := .code y_Mem_init prog_4_method_1_code 1 none :: ps_tbl
theorem e_Mem_init : y_Mem_init.cls ≠ "java/lang/invoke/MethodHandle" ∧ y_Mem_init.cls ≠ "java/lang/invoke/VarHandle" ∧ (parseMethodDescriptor y_Mem_init.desc).map (fun d => d.parameters.length) = some 0 := by decide +kernel
def y_PS_values : MethodName := ⟨"PageStore", "values", "(I)I"⟩
def w_PS_values : List Cond := .code y_PS_values prog_1_method_2_code 3 (some .int) :: ps_tbl
theorem e_PS_values : y_PS_values.cls ≠ "java/lang/invoke/MethodHandle" ∧ y_PS_values.cls ≠ "java/lang/invoke/VarHandle" ∧ (parseMethodDescriptor y_PS_values.desc).map (fun d => d.parameters.length) = some 1 := by decide +kernel
def y_PS_noRowLeft : MethodName := ⟨"PageStore", "noRowLeft", "()Z"⟩
def w_PS_noRowLeft : List Cond := .code y_PS_noRowLeft prog_1_method_28_code 1 (some .boolean) :: ps_tbl
theorem e_PS_noRowLeft : y_PS_noRowLeft.cls ≠ "java/lang/invoke/MethodHandle" ∧ y_PS_noRowLeft.cls ≠ "java/lang/invoke/VarHandle" ∧ (parseMethodDescriptor y_PS_noRowLeft.desc).map (fun d => d.parameters.length) = some 0 := by decide +kernel
def y_Val_wipe : MethodName := ⟨"PageStore$Values", "wipe", "(II)V"⟩
def w_Val_wipe : List Cond := .code y_Val_wipe prog_6_method_3_code 3 none :: ps_tbl
theorem e_Val_wipe : y_Val_wipe.cls ≠ "java/lang/invoke/MethodHandle" ∧ y_Val_wipe.cls ≠ "java/lang/invoke/VarHandle" ∧ (parseMethodDescriptor y_Val_wipe.desc).map (fun d => d.parameters.length) = some 2 := by decide +kernel
def y_Col_wipe : MethodName := ⟨"PageStore$Column", "wipe", "(II)V"⟩
def w_Col_wipe : List Cond := .code y_Col_wipe prog_2_method_4_code 4 none :: ps_tbl
theorem e_Col_wipe : y_Col_wipe.cls ≠ "java/lang/invoke/MethodHandle" ∧ y_Col_wipe.cls ≠ "java/lang/invoke/VarHandle" ∧ (parseMethodDescriptor y_Col_wipe.desc).map (fun d => d.parameters.length) = some 2 := by decide +kernel
def y_Arr_fill : MethodName := ⟨"java/util/Arrays", "fill", "([IIII)V"⟩
def w_Arr_fill : List Cond := .code y_Arr_fill prog_12_method_104_code 5 none :: ps_tbl
theorem e_Arr_fill : y_Arr_fill.cls ≠ "java/lang/invoke/MethodHandle" ∧ y_Arr_fill.cls ≠ "java/lang/invoke/VarHandle" ∧ (parseMethodDescriptor y_Arr_fill.desc).map (fun d => d.parameters.length) = some 4 := by decide +kernel
def y_Arr_rangeCheck : MethodName := ⟨"java/util/Arrays", "rangeCheck", "(III)V"⟩
def w_Arr_rangeCheck : List Cond := .code y_Arr_rangeCheck prog_12_method_30_code 3 none :: ps_tbl
theorem e_Arr_rangeCheck : y_Arr_rangeCheck.cls ≠ "java/lang/invoke/MethodHandle" ∧ y_Arr_rangeCheck.cls ≠ "java/lang/invoke/VarHandle" ∧ (parseMethodDescriptor y_Arr_rangeCheck.desc).map (fun d => d.parameters.length) = some 3 := by decide +kernel
def y_PS_addRow : MethodName := ⟨"PageStore", "addRow", "(III)I"⟩
def w_PS_addRow : List Cond := .code y_PS_addRow prog_1_method_29_code 4 (some .int) :: ps_tbl
theorem e_PS_addRow : y_PS_addRow.cls ≠ "java/lang/invoke/MethodHandle" ∧ y_PS_addRow.cls ≠ "java/lang/invoke/VarHandle" ∧ (parseMethodDescriptor y_PS_addRow.desc).map (fun d => d.parameters.length) = some 3 := by decide +kernel
def y_Row_write : MethodName := ⟨"PageStore$Rows", "write", "(IIII)V"⟩
def w_Row_write : List Cond := .code y_Row_write prog_5_method_2_code 5 none :: ps_tbl
theorem e_Row_write : y_Row_write.cls ≠ "java/lang/invoke/MethodHandle" ∧ y_Row_write.cls ≠ "java/lang/invoke/VarHandle" ∧ (parseMethodDescriptor y_Row_write.desc).map (fun d => d.parameters.length) = some 4 := by decide +kernel
def y_Col_put : MethodName := ⟨"PageStore$Column", "put", "(II)V"⟩
def w_Col_put : List Cond := .code y_Col_put prog_2_method_3_code 4 none :: ps_tbl
theorem e_Col_put : y_Col_put.cls ≠ "java/lang/invoke/MethodHandle" ∧ y_Col_put.cls ≠ "java/lang/invoke/VarHandle" ∧ (parseMethodDescriptor y_Col_put.desc).map (fun d => d.parameters.length) = some 2 := by decide +kernel
def y_Arr_copyOf : MethodName := ⟨"java/util/Arrays", "copyOf", "([II)[I"⟩
def w_Arr_copyOf : List Cond := .code y_Arr_copyOf prog_12_method_123_code 3 (some (.array .int)) :: ps_tbl
theorem e_Arr_copyOf : y_Arr_copyOf.cls ≠ "java/lang/invoke/MethodHandle" ∧ y_Arr_copyOf.cls ≠ "java/lang/invoke/VarHandle" ∧ (parseMethodDescriptor y_Arr_copyOf.desc).map (fun d => d.parameters.length) = some 2 := by decide +kernel
def y_PS_bytes : MethodName := ⟨"PageStore", "bytes", "(I)I"⟩
def w_PS_bytes : List Cond := .code y_PS_bytes prog_1_method_3_code 3 (some .int) :: ps_tbl
theorem e_PS_bytes : y_PS_bytes.cls ≠ "java/lang/invoke/MethodHandle" ∧ y_PS_bytes.cls ≠ "java/lang/invoke/VarHandle" ∧ (parseMethodDescriptor y_PS_bytes.desc).map (fun d => d.parameters.length) = some 1 := by decide +kernel
def y_PS_part : MethodName := ⟨"PageStore", "part", "(III)I"⟩
def w_PS_part : List Cond := .code y_PS_part prog_1_method_4_code 4 (some .int) :: ps_tbl
theorem e_PS_part : y_PS_part.cls ≠ "java/lang/invoke/MethodHandle" ∧ y_PS_part.cls ≠ "java/lang/invoke/VarHandle" ∧ (parseMethodDescriptor y_PS_part.desc).map (fun d => d.parameters.length) = some 3 := by decide +kernel
def y_PS_isRow : MethodName := ⟨"PageStore", "isRow", "(I)Z"⟩
def w_PS_isRow : List Cond := .code y_PS_isRow prog_1_method_24_code 2 (some .boolean) :: ps_tbl
theorem e_PS_isRow : y_PS_isRow.cls ≠ "java/lang/invoke/MethodHandle" ∧ y_PS_isRow.cls ≠ "java/lang/invoke/VarHandle" ∧ (parseMethodDescriptor y_PS_isRow.desc).map (fun d => d.parameters.length) = some 1 := by decide +kernel
def y_Col_at : MethodName := ⟨"PageStore$Column", "at", "(I)I"⟩
def w_Col_at : List Cond := .code y_Col_at prog_2_method_2_code 2 (some .int) :: ps_tbl
theorem e_Col_at : y_Col_at.cls ≠ "java/lang/invoke/MethodHandle" ∧ y_Col_at.cls ≠ "java/lang/invoke/VarHandle" ∧ (parseMethodDescriptor y_Col_at.desc).map (fun d => d.parameters.length) = some 1 := by decide +kernel
def y_PS_sort : MethodName := ⟨"PageStore", "sort", "(I)I"⟩
def w_PS_sort : List Cond := .code y_PS_sort prog_1_method_5_code 2 (some .int) :: ps_tbl
theorem e_PS_sort : y_PS_sort.cls ≠ "java/lang/invoke/MethodHandle" ∧ y_PS_sort.cls ≠ "java/lang/invoke/VarHandle" ∧ (parseMethodDescriptor y_PS_sort.desc).map (fun d => d.parameters.length) = some 1 := by decide +kernel
def y_PS_length : MethodName := ⟨"PageStore", "length", "(I)I"⟩
def w_PS_length : List Cond := .code y_PS_length prog_1_method_6_code 2 (some .int) :: ps_tbl
theorem e_PS_length : y_PS_length.cls ≠ "java/lang/invoke/MethodHandle" ∧ y_PS_length.cls ≠ "java/lang/invoke/VarHandle" ∧ (parseMethodDescriptor y_PS_length.desc).map (fun d => d.parameters.length) = some 1 := by decide +kernel
def y_PS_set : MethodName := ⟨"PageStore", "set", "(IIII)I"⟩
def w_PS_set : List Cond := .code y_PS_set prog_1_method_7_code 6 (some .int) :: ps_tbl
theorem e_PS_set : y_PS_set.cls ≠ "java/lang/invoke/MethodHandle" ∧ y_PS_set.cls ≠ "java/lang/invoke/VarHandle" ∧ (parseMethodDescriptor y_PS_set.desc).map (fun d => d.parameters.length) = some 4 := by decide +kernel
def y_PS_indexIn : MethodName := ⟨"PageStore", "indexIn", "(III)I"⟩
def w_PS_indexIn : List Cond := .code y_PS_indexIn prog_1_method_30_code 4 (some .int) :: ps_tbl
theorem e_PS_indexIn : y_PS_indexIn.cls ≠ "java/lang/invoke/MethodHandle" ∧ y_PS_indexIn.cls ≠ "java/lang/invoke/VarHandle" ∧ (parseMethodDescriptor y_PS_indexIn.desc).map (fun d => d.parameters.length) = some 3 := by decide +kernel
def y_PS_isKind : MethodName := ⟨"PageStore", "isKind", "(II)Z"⟩
def w_PS_isKind : List Cond := .code y_PS_isKind prog_1_method_23_code 2 (some .boolean) :: ps_tbl
theorem e_PS_isKind : y_PS_isKind.cls ≠ "java/lang/invoke/MethodHandle" ∧ y_PS_isKind.cls ≠ "java/lang/invoke/VarHandle" ∧ (parseMethodDescriptor y_PS_isKind.desc).map (fun d => d.parameters.length) = some 2 := by decide +kernel
def y_PS_remember : MethodName := ⟨"PageStore", "remember", "(II)Z"⟩
def w_PS_remember : List Cond := .code y_PS_remember prog_1_method_34_code 4 (some .boolean) :: ps_tbl
theorem e_PS_remember : y_PS_remember.cls ≠ "java/lang/invoke/MethodHandle" ∧ y_PS_remember.cls ≠ "java/lang/invoke/VarHandle" ∧ (parseMethodDescriptor y_PS_remember.desc).map (fun d => d.parameters.length) = some 2 := by decide +kernel
def y_PS_mustRemember : MethodName := ⟨"PageStore", "mustRemember", "(II)Z"⟩
def w_PS_mustRemember : List Cond := .code y_PS_mustRemember prog_1_method_35_code 4 (some .boolean) :: ps_tbl
theorem e_PS_mustRemember : y_PS_mustRemember.cls ≠ "java/lang/invoke/MethodHandle" ∧ y_PS_mustRemember.cls ≠ "java/lang/invoke/VarHandle" ∧ (parseMethodDescriptor y_PS_mustRemember.desc).map (fun d => d.parameters.length) = some 2 := by decide +kernel
def y_PS_countAtSave : MethodName := ⟨"PageStore", "countAtSave", "(II)I"⟩
def w_PS_countAtSave : List Cond := .code y_PS_countAtSave prog_1_method_33_code 3 (some .int) :: ps_tbl
theorem e_PS_countAtSave : y_PS_countAtSave.cls ≠ "java/lang/invoke/MethodHandle" ∧ y_PS_countAtSave.cls ≠ "java/lang/invoke/VarHandle" ∧ (parseMethodDescriptor y_PS_countAtSave.desc).map (fun d => d.parameters.length) = some 2 := by decide +kernel
def y_Mem_hold : MethodName := ⟨"PageStore$Memories", "hold", "(IIII)Z"⟩
def w_Mem_hold : List Cond := .code y_Mem_hold prog_4_method_3_code 6 (some .boolean) :: ps_tbl
theorem e_Mem_hold : y_Mem_hold.cls ≠ "java/lang/invoke/MethodHandle" ∧ y_Mem_hold.cls ≠ "java/lang/invoke/VarHandle" ∧ (parseMethodDescriptor y_Mem_hold.desc).map (fun d => d.parameters.length) = some 4 := by decide +kernel
def y_PS_valuesOf : MethodName := ⟨"PageStore", "valuesOf", "(I)LPageStore$Values;"⟩
def w_PS_valuesOf : List Cond := .code y_PS_valuesOf prog_1_method_37_code 2 (some (.object "PageStore$Values")) :: ps_tbl
theorem e_PS_valuesOf : y_PS_valuesOf.cls ≠ "java/lang/invoke/MethodHandle" ∧ y_PS_valuesOf.cls ≠ "java/lang/invoke/VarHandle" ∧ (parseMethodDescriptor y_PS_valuesOf.desc).map (fun d => d.parameters.length) = some 1 := by decide +kernel
def y_Mem_write : MethodName := ⟨"PageStore$Memories", "write", "(IIILPageStore$Values;)V"⟩
def w_Mem_write : List Cond := .code y_Mem_write prog_4_method_2_code 5 none :: ps_tbl
theorem e_Mem_write : y_Mem_write.cls ≠ "java/lang/invoke/MethodHandle" ∧ y_Mem_write.cls ≠ "java/lang/invoke/VarHandle" ∧ (parseMethodDescriptor y_Mem_write.desc).map (fun d => d.parameters.length) = some 4 := by decide +kernel
def y_Val_write : MethodName := ⟨"PageStore$Values", "write", "(III)V"⟩
def w_Val_write : List Cond := .code y_Val_write prog_6_method_2_code 4 none :: ps_tbl
theorem e_Val_write : y_Val_write.cls ≠ "java/lang/invoke/MethodHandle" ∧ y_Val_write.cls ≠ "java/lang/invoke/VarHandle" ∧ (parseMethodDescriptor y_Val_write.desc).map (fun d => d.parameters.length) = some 3 := by decide +kernel
def y_PS_get : MethodName := ⟨"PageStore", "get", "(II)I"⟩
def w_PS_get : List Cond := .code y_PS_get prog_1_method_8_code 4 (some .int) :: ps_tbl
theorem e_PS_get : y_PS_get.cls ≠ "java/lang/invoke/MethodHandle" ∧ y_PS_get.cls ≠ "java/lang/invoke/VarHandle" ∧ (parseMethodDescriptor y_PS_get.desc).map (fun d => d.parameters.length) = some 2 := by decide +kernel
def y_PS_number : MethodName := ⟨"PageStore", "number", "(II)I"⟩
def w_PS_number : List Cond := .code y_PS_number prog_1_method_9_code 4 (some .int) :: ps_tbl
theorem e_PS_number : y_PS_number.cls ≠ "java/lang/invoke/MethodHandle" ∧ y_PS_number.cls ≠ "java/lang/invoke/VarHandle" ∧ (parseMethodDescriptor y_PS_number.desc).map (fun d => d.parameters.length) = some 2 := by decide +kernel
def y_PS_setByte : MethodName := ⟨"PageStore", "setByte", "(III)I"⟩
def w_PS_setByte : List Cond := .code y_PS_setByte prog_1_method_10_code 5 (some .int) :: ps_tbl
theorem e_PS_setByte : y_PS_setByte.cls ≠ "java/lang/invoke/MethodHandle" ∧ y_PS_setByte.cls ≠ "java/lang/invoke/VarHandle" ∧ (parseMethodDescriptor y_PS_setByte.desc).map (fun d => d.parameters.length) = some 3 := by decide +kernel
def y_PS_dictionary : MethodName := ⟨"PageStore", "dictionary", "()I"⟩
def w_PS_dictionary : List Cond := .code y_PS_dictionary prog_1_method_11_code 1 (some .int) :: ps_tbl
theorem e_PS_dictionary : y_PS_dictionary.cls ≠ "java/lang/invoke/MethodHandle" ∧ y_PS_dictionary.cls ≠ "java/lang/invoke/VarHandle" ∧ (parseMethodDescriptor y_PS_dictionary.desc).map (fun d => d.parameters.length) = some 0 := by decide +kernel
def y_PS_define : MethodName := ⟨"PageStore", "define", "(IIIII)I"⟩
def w_PS_define : List Cond := .code y_PS_define prog_1_method_12_code 7 (some .int) :: ps_tbl
theorem e_PS_define : y_PS_define.cls ≠ "java/lang/invoke/MethodHandle" ∧ y_PS_define.cls ≠ "java/lang/invoke/VarHandle" ∧ (parseMethodDescriptor y_PS_define.desc).map (fun d => d.parameters.length) = some 5 := by decide +kernel
def y_PS_isKeyPossible : MethodName := ⟨"PageStore", "isKeyPossible", "(II)Z"⟩
def w_PS_isKeyPossible : List Cond := .code y_PS_isKeyPossible prog_1_method_26_code 3 (some .boolean) :: ps_tbl
theorem e_PS_isKeyPossible : y_PS_isKeyPossible.cls ≠ "java/lang/invoke/MethodHandle" ∧ y_PS_isKeyPossible.cls ≠ "java/lang/invoke/VarHandle" ∧ (parseMethodDescriptor y_PS_isKeyPossible.desc).map (fun d => d.parameters.length) = some 2 := by decide +kernel
def y_PS_isDictionary : MethodName := ⟨"PageStore", "isDictionary", "(I)Z"⟩
def w_PS_isDictionary : List Cond := .code y_PS_isDictionary prog_1_method_25_code 2 (some .boolean) :: ps_tbl
theorem e_PS_isDictionary : y_PS_isDictionary.cls ≠ "java/lang/invoke/MethodHandle" ∧ y_PS_isDictionary.cls ≠ "java/lang/invoke/VarHandle" ∧ (parseMethodDescriptor y_PS_isDictionary.desc).map (fun d => d.parameters.length) = some 1 := by decide +kernel
def y_Key_indexOf : MethodName := ⟨"PageStore$Keys", "indexOf", "(IIII)I"⟩
def w_Key_indexOf : List Cond := .code y_Key_indexOf prog_3_method_3_code 6 (some .int) :: ps_tbl
theorem e_Key_indexOf : y_Key_indexOf.cls ≠ "java/lang/invoke/MethodHandle" ∧ y_Key_indexOf.cls ≠ "java/lang/invoke/VarHandle" ∧ (parseMethodDescriptor y_Key_indexOf.desc).map (fun d => d.parameters.length) = some 4 := by decide +kernel
def y_PS_addKey : MethodName := ⟨"PageStore", "addKey", "(IIIII)I"⟩
def w_PS_addKey : List Cond := .code y_PS_addKey prog_1_method_31_code 7 (some .int) :: ps_tbl
theorem e_PS_addKey : y_PS_addKey.cls ≠ "java/lang/invoke/MethodHandle" ∧ y_PS_addKey.cls ≠ "java/lang/invoke/VarHandle" ∧ (parseMethodDescriptor y_PS_addKey.desc).map (fun d => d.parameters.length) = some 5 := by decide +kernel
def y_Key_write : MethodName := ⟨"PageStore$Keys", "write", "(IIII)V"⟩
def w_Key_write : List Cond := .code y_Key_write prog_3_method_2_code 5 none :: ps_tbl
theorem e_Key_write : y_Key_write.cls ≠ "java/lang/invoke/MethodHandle" ∧ y_Key_write.cls ≠ "java/lang/invoke/VarHandle" ∧ (parseMethodDescriptor y_Key_write.desc).map (fun d => d.parameters.length) = some 4 := by decide +kernel
def y_PS_find : MethodName := ⟨"PageStore", "find", "(III)I"⟩
def w_PS_find : List Cond := .code y_PS_find prog_1_method_13_code 5 (some .int) :: ps_tbl
theorem e_PS_find : y_PS_find.cls ≠ "java/lang/invoke/MethodHandle" ∧ y_PS_find.cls ≠ "java/lang/invoke/VarHandle" ∧ (parseMethodDescriptor y_PS_find.desc).map (fun d => d.parameters.length) = some 3 := by decide +kernel
def y_Key_indexIfThere : MethodName := ⟨"PageStore$Keys", "indexIfThere", "(IIII)I"⟩
def w_Key_indexIfThere : List Cond := .code y_Key_indexIfThere prog_3_method_4_code 6 (some .int) :: ps_tbl
theorem e_Key_indexIfThere : y_Key_indexIfThere.cls ≠ "java/lang/invoke/MethodHandle" ∧ y_Key_indexIfThere.cls ≠ "java/lang/invoke/VarHandle" ∧ (parseMethodDescriptor y_Key_indexIfThere.desc).map (fun d => d.parameters.length) = some 4 := by decide +kernel
def y_Key_isThere : MethodName := ⟨"PageStore$Keys", "isThere", "(II)Z"⟩
def w_Key_isThere : List Cond := .code y_Key_isThere prog_3_method_7_code 3 (some .boolean) :: ps_tbl
theorem e_Key_isThere : y_Key_isThere.cls ≠ "java/lang/invoke/MethodHandle" ∧ y_Key_isThere.cls ≠ "java/lang/invoke/VarHandle" ∧ (parseMethodDescriptor y_Key_isThere.desc).map (fun d => d.parameters.length) = some 2 := by decide +kernel
def y_PS_found : MethodName := ⟨"PageStore", "found", "(III)I"⟩
def w_PS_found : List Cond := .code y_PS_found prog_1_method_14_code 5 (some .int) :: ps_tbl
theorem e_PS_found : y_PS_found.cls ≠ "java/lang/invoke/MethodHandle" ∧ y_PS_found.cls ≠ "java/lang/invoke/VarHandle" ∧ (parseMethodDescriptor y_PS_found.desc).map (fun d => d.parameters.length) = some 3 := by decide +kernel
def y_PS_undefine : MethodName := ⟨"PageStore", "undefine", "(III)I"⟩
def w_PS_undefine : List Cond := .code y_PS_undefine prog_1_method_15_code 5 (some .int) :: ps_tbl
theorem e_PS_undefine : y_PS_undefine.cls ≠ "java/lang/invoke/MethodHandle" ∧ y_PS_undefine.cls ≠ "java/lang/invoke/VarHandle" ∧ (parseMethodDescriptor y_PS_undefine.desc).map (fun d => d.parameters.length) = some 3 := by decide +kernel
def y_PS_count : MethodName := ⟨"PageStore", "count", "(I)I"⟩
def w_PS_count : List Cond := .code y_PS_count prog_1_method_16_code 2 (some .int) :: ps_tbl
theorem e_PS_count : y_PS_count.cls ≠ "java/lang/invoke/MethodHandle" ∧ y_PS_count.cls ≠ "java/lang/invoke/VarHandle" ∧ (parseMethodDescriptor y_PS_count.desc).map (fun d => d.parameters.length) = some 1 := by decide +kernel
def y_Key_howManyThere : MethodName := ⟨"PageStore$Keys", "howManyThere", "(II)I"⟩
def w_Key_howManyThere : List Cond := .code y_Key_howManyThere prog_3_method_6_code 5 (some .int) :: ps_tbl
theorem e_Key_howManyThere : y_Key_howManyThere.cls ≠ "java/lang/invoke/MethodHandle" ∧ y_Key_howManyThere.cls ≠ "java/lang/invoke/VarHandle" ∧ (parseMethodDescriptor y_Key_howManyThere.desc).map (fun d => d.parameters.length) = some 2 := by decide +kernel
def y_PS_next : MethodName := ⟨"PageStore", "next", "(III)I"⟩
def w_PS_next : List Cond := .code y_PS_next prog_1_method_17_code 6 (some .int) :: ps_tbl
theorem e_PS_next : y_PS_next.cls ≠ "java/lang/invoke/MethodHandle" ∧ y_PS_next.cls ≠ "java/lang/invoke/VarHandle" ∧ (parseMethodDescriptor y_PS_next.desc).map (fun d => d.parameters.length) = some 3 := by decide +kernel
def y_Key_firstThere : MethodName := ⟨"PageStore$Keys", "firstThere", "(III)I"⟩
def w_Key_firstThere : List Cond := .code y_Key_firstThere prog_3_method_5_code 5 (some .int) :: ps_tbl
theorem e_Key_firstThere : y_Key_firstThere.cls ≠ "java/lang/invoke/MethodHandle" ∧ y_Key_firstThere.cls ≠ "java/lang/invoke/VarHandle" ∧ (parseMethodDescriptor y_Key_firstThere.desc).map (fun d => d.parameters.length) = some 3 := by decide +kernel
def y_PS_moveCursor : MethodName := ⟨"PageStore", "moveCursor", "(I)I"⟩
def w_PS_moveCursor : List Cond := .code y_PS_moveCursor prog_1_method_32_code 2 (some .int) :: ps_tbl
theorem e_PS_moveCursor : y_PS_moveCursor.cls ≠ "java/lang/invoke/MethodHandle" ∧ y_PS_moveCursor.cls ≠ "java/lang/invoke/VarHandle" ∧ (parseMethodDescriptor y_PS_moveCursor.desc).map (fun d => d.parameters.length) = some 1 := by decide +kernel
def y_PS_cursorKind : MethodName := ⟨"PageStore", "cursorKind", "()I"⟩
def w_PS_cursorKind : List Cond := .code y_PS_cursorKind prog_1_method_18_code 1 (some .int) :: ps_tbl
theorem e_PS_cursorKind : y_PS_cursorKind.cls ≠ "java/lang/invoke/MethodHandle" ∧ y_PS_cursorKind.cls ≠ "java/lang/invoke/VarHandle" ∧ (parseMethodDescriptor y_PS_cursorKind.desc).map (fun d => d.parameters.length) = some 0 := by decide +kernel
def y_PS_cursorNumber : MethodName := ⟨"PageStore", "cursorNumber", "()I"⟩
def w_PS_cursorNumber : List Cond := .code y_PS_cursorNumber prog_1_method_19_code 1 (some .int) :: ps_tbl
theorem e_PS_cursorNumber : y_PS_cursorNumber.cls ≠ "java/lang/invoke/MethodHandle" ∧ y_PS_cursorNumber.cls ≠ "java/lang/invoke/VarHandle" ∧ (parseMethodDescriptor y_PS_cursorNumber.desc).map (fun d => d.parameters.length) = some 0 := by decide +kernel
def y_PS_save : MethodName := ⟨"PageStore", "save", "()I"⟩
def w_PS_save : List Cond := .code y_PS_save prog_1_method_20_code 2 (some .int) :: ps_tbl
theorem e_PS_save : y_PS_save.cls ≠ "java/lang/invoke/MethodHandle" ∧ y_PS_save.cls ≠ "java/lang/invoke/VarHandle" ∧ (parseMethodDescriptor y_PS_save.desc).map (fun d => d.parameters.length) = some 0 := by decide +kernel
def y_PS_restore : MethodName := ⟨"PageStore", "restore", "(I)I"⟩
def w_PS_restore : List Cond := .code y_PS_restore prog_1_method_21_code 3 (some .int) :: ps_tbl
theorem e_PS_restore : y_PS_restore.cls ≠ "java/lang/invoke/MethodHandle" ∧ y_PS_restore.cls ≠ "java/lang/invoke/VarHandle" ∧ (parseMethodDescriptor y_PS_restore.desc).map (fun d => d.parameters.length) = some 1 := by decide +kernel
def y_PS_isSave : MethodName := ⟨"PageStore", "isSave", "(I)Z"⟩
def w_PS_isSave : List Cond := .code y_PS_isSave prog_1_method_27_code 2 (some .boolean) :: ps_tbl
theorem e_PS_isSave : y_PS_isSave.cls ≠ "java/lang/invoke/MethodHandle" ∧ y_PS_isSave.cls ≠ "java/lang/invoke/VarHandle" ∧ (parseMethodDescriptor y_PS_isSave.desc).map (fun d => d.parameters.length) = some 1 := by decide +kernel
def y_PS_putBack : MethodName := ⟨"PageStore", "putBack", "(I)V"⟩
def w_PS_putBack : List Cond := .code y_PS_putBack prog_1_method_36_code 4 none :: ps_tbl
theorem e_PS_putBack : y_PS_putBack.cls ≠ "java/lang/invoke/MethodHandle" ∧ y_PS_putBack.cls ≠ "java/lang/invoke/VarHandle" ∧ (parseMethodDescriptor y_PS_putBack.desc).map (fun d => d.parameters.length) = some 1 := by decide +kernel
def y_PS_noted : MethodName := ⟨"PageStore", "noted", "(II)I"⟩
def w_PS_noted : List Cond := .code y_PS_noted prog_1_method_22_code 3 (some .int) :: ps_tbl
theorem e_PS_noted : y_PS_noted.cls ≠ "java/lang/invoke/MethodHandle" ∧ y_PS_noted.cls ≠ "java/lang/invoke/VarHandle" ∧ (parseMethodDescriptor y_PS_noted.desc).map (fun d => d.parameters.length) = some 2 := by decide +kernel
def y_Mod_init : MethodName := ⟨"PageStoreModel", "<init>", "()V"⟩
def w_Mod_init : List Cond := .code y_Mod_init prog_8_method_1_code 1 none :: ps_tbl
theorem e_Mod_init : y_Mod_init.cls ≠ "java/lang/invoke/MethodHandle" ∧ y_Mod_init.cls ≠ "java/lang/invoke/VarHandle" ∧ (parseMethodDescriptor y_Mod_init.desc).map (fun d => d.parameters.length) = some 0 := by decide +kernel
def y_Mod_values : MethodName := ⟨"PageStoreModel", "values", "(I)I"⟩
def w_Mod_values : List Cond := .code y_Mod_values prog_8_method_3_code 3 (some .int) :: ps_tbl
theorem e_Mod_values : y_Mod_values.cls ≠ "java/lang/invoke/MethodHandle" ∧ y_Mod_values.cls ≠ "java/lang/invoke/VarHandle" ∧ (parseMethodDescriptor y_Mod_values.desc).map (fun d => d.parameters.length) = some 1 := by decide +kernel
def y_Mod_row : MethodName := ⟨"PageStoreModel", "row", "(III)I"⟩
def w_Mod_row : List Cond := .code y_Mod_row prog_8_method_2_code 4 (some .int) :: ps_tbl
theorem e_Mod_row : y_Mod_row.cls ≠ "java/lang/invoke/MethodHandle" ∧ y_Mod_row.cls ≠ "java/lang/invoke/VarHandle" ∧ (parseMethodDescriptor y_Mod_row.desc).map (fun d => d.parameters.length) = some 3 := by decide +kernel
def y_Mod_bytes : MethodName := ⟨"PageStoreModel", "bytes", "(I)I"⟩
def w_Mod_bytes : List Cond := .code y_Mod_bytes prog_8_method_4_code 3 (some .int) :: ps_tbl
theorem e_Mod_bytes : y_Mod_bytes.cls ≠ "java/lang/invoke/MethodHandle" ∧ y_Mod_bytes.cls ≠ "java/lang/invoke/VarHandle" ∧ (parseMethodDescriptor y_Mod_bytes.desc).map (fun d => d.parameters.length) = some 1 := by decide +kernel
def y_Mod_part : MethodName := ⟨"PageStoreModel", "part", "(III)I"⟩
def w_Mod_part : List Cond := .code y_Mod_part prog_8_method_6_code 4 (some .int) :: ps_tbl
theorem e_Mod_part : y_Mod_part.cls ≠ "java/lang/invoke/MethodHandle" ∧ y_Mod_part.cls ≠ "java/lang/invoke/VarHandle" ∧ (parseMethodDescriptor y_Mod_part.desc).map (fun d => d.parameters.length) = some 3 := by decide +kernel
def y_Mod_isRow : MethodName := ⟨"PageStoreModel", "isRow", "(I)Z"⟩
def w_Mod_isRow : List Cond := .code y_Mod_isRow prog_8_method_5_code 2 (some .boolean) :: ps_tbl
theorem e_Mod_isRow : y_Mod_isRow.cls ≠ "java/lang/invoke/MethodHandle" ∧ y_Mod_isRow.cls ≠ "java/lang/invoke/VarHandle" ∧ (parseMethodDescriptor y_Mod_isRow.desc).map (fun d => d.parameters.length) = some 1 := by decide +kernel
def y_Mod_sort : MethodName := ⟨"PageStoreModel", "sort", "(I)I"⟩
def w_Mod_sort : List Cond := .code y_Mod_sort prog_8_method_7_code 2 (some .int) :: ps_tbl
theorem e_Mod_sort : y_Mod_sort.cls ≠ "java/lang/invoke/MethodHandle" ∧ y_Mod_sort.cls ≠ "java/lang/invoke/VarHandle" ∧ (parseMethodDescriptor y_Mod_sort.desc).map (fun d => d.parameters.length) = some 1 := by decide +kernel
def y_Mod_length : MethodName := ⟨"PageStoreModel", "length", "(I)I"⟩
def w_Mod_length : List Cond := .code y_Mod_length prog_8_method_8_code 2 (some .int) :: ps_tbl
theorem e_Mod_length : y_Mod_length.cls ≠ "java/lang/invoke/MethodHandle" ∧ y_Mod_length.cls ≠ "java/lang/invoke/VarHandle" ∧ (parseMethodDescriptor y_Mod_length.desc).map (fun d => d.parameters.length) = some 1 := by decide +kernel
def y_Mod_set : MethodName := ⟨"PageStoreModel", "set", "(IIII)I"⟩
def w_Mod_set : List Cond := .code y_Mod_set prog_8_method_12_code 6 (some .int) :: ps_tbl
theorem e_Mod_set : y_Mod_set.cls ≠ "java/lang/invoke/MethodHandle" ∧ y_Mod_set.cls ≠ "java/lang/invoke/VarHandle" ∧ (parseMethodDescriptor y_Mod_set.desc).map (fun d => d.parameters.length) = some 4 := by decide +kernel
def y_Mod_at : MethodName := ⟨"PageStoreModel", "at", "(II)I"⟩
def w_Mod_at : List Cond := .code y_Mod_at prog_8_method_9_code 3 (some .int) :: ps_tbl
theorem e_Mod_at : y_Mod_at.cls ≠ "java/lang/invoke/MethodHandle" ∧ y_Mod_at.cls ≠ "java/lang/invoke/VarHandle" ∧ (parseMethodDescriptor y_Mod_at.desc).map (fun d => d.parameters.length) = some 2 := by decide +kernel
def y_Mod_remember : MethodName := ⟨"PageStoreModel", "remember", "(I)Z"⟩
def w_Mod_remember : List Cond := .code y_Mod_remember prog_8_method_11_code 2 (some .boolean) :: ps_tbl
theorem e_Mod_remember : y_Mod_remember.cls ≠ "java/lang/invoke/MethodHandle" ∧ y_Mod_remember.cls ≠ "java/lang/invoke/VarHandle" ∧ (parseMethodDescriptor y_Mod_remember.desc).map (fun d => d.parameters.length) = some 1 := by decide +kernel
def y_Mod_isOpen : MethodName := ⟨"PageStoreModel", "isOpen", "(I)Z"⟩
def w_Mod_isOpen : List Cond := .code y_Mod_isOpen prog_8_method_10_code 4 (some .boolean) :: ps_tbl
theorem e_Mod_isOpen : y_Mod_isOpen.cls ≠ "java/lang/invoke/MethodHandle" ∧ y_Mod_isOpen.cls ≠ "java/lang/invoke/VarHandle" ∧ (parseMethodDescriptor y_Mod_isOpen.desc).map (fun d => d.parameters.length) = some 1 := by decide +kernel
def y_Mod_get : MethodName := ⟨"PageStoreModel", "get", "(II)I"⟩
def w_Mod_get : List Cond := .code y_Mod_get prog_8_method_13_code 4 (some .int) :: ps_tbl
theorem e_Mod_get : y_Mod_get.cls ≠ "java/lang/invoke/MethodHandle" ∧ y_Mod_get.cls ≠ "java/lang/invoke/VarHandle" ∧ (parseMethodDescriptor y_Mod_get.desc).map (fun d => d.parameters.length) = some 2 := by decide +kernel
def y_Mod_number : MethodName := ⟨"PageStoreModel", "number", "(II)I"⟩
def w_Mod_number : List Cond := .code y_Mod_number prog_8_method_14_code 4 (some .int) :: ps_tbl
theorem e_Mod_number : y_Mod_number.cls ≠ "java/lang/invoke/MethodHandle" ∧ y_Mod_number.cls ≠ "java/lang/invoke/VarHandle" ∧ (parseMethodDescriptor y_Mod_number.desc).map (fun d => d.parameters.length) = some 2 := by decide +kernel
def y_Mod_setByte : MethodName := ⟨"PageStoreModel", "setByte", "(III)I"⟩
def w_Mod_setByte : List Cond := .code y_Mod_setByte prog_8_method_15_code 5 (some .int) :: ps_tbl
theorem e_Mod_setByte : y_Mod_setByte.cls ≠ "java/lang/invoke/MethodHandle" ∧ y_Mod_setByte.cls ≠ "java/lang/invoke/VarHandle" ∧ (parseMethodDescriptor y_Mod_setByte.desc).map (fun d => d.parameters.length) = some 3 := by decide +kernel
def y_Mod_dictionary : MethodName := ⟨"PageStoreModel", "dictionary", "()I"⟩
def w_Mod_dictionary : List Cond := .code y_Mod_dictionary prog_8_method_16_code 1 (some .int) :: ps_tbl
theorem e_Mod_dictionary : y_Mod_dictionary.cls ≠ "java/lang/invoke/MethodHandle" ∧ y_Mod_dictionary.cls ≠ "java/lang/invoke/VarHandle" ∧ (parseMethodDescriptor y_Mod_dictionary.desc).map (fun d => d.parameters.length) = some 0 := by decide +kernel
def y_Mod_define : MethodName := ⟨"PageStoreModel", "define", "(IIIII)I"⟩
def w_Mod_define : List Cond := .code y_Mod_define prog_8_method_20_code 8 (some .int) :: ps_tbl
theorem e_Mod_define : y_Mod_define.cls ≠ "java/lang/invoke/MethodHandle" ∧ y_Mod_define.cls ≠ "java/lang/invoke/VarHandle" ∧ (parseMethodDescriptor y_Mod_define.desc).map (fun d => d.parameters.length) = some 5 := by decide +kernel
def y_Mod_isDictionary : MethodName := ⟨"PageStoreModel", "isDictionary", "(I)Z"⟩
def w_Mod_isDictionary : List Cond := .code y_Mod_isDictionary prog_8_method_17_code 2 (some .boolean) :: ps_tbl
theorem e_Mod_isDictionary : y_Mod_isDictionary.cls ≠ "java/lang/invoke/MethodHandle" ∧ y_Mod_isDictionary.cls ≠ "java/lang/invoke/VarHandle" ∧ (parseMethodDescriptor y_Mod_isDictionary.desc).map (fun d => d.parameters.length) = some 1 := by decide +kernel
def y_Mod_isKey : MethodName := ⟨"PageStoreModel", "isKey", "(I)Z"⟩
def w_Mod_isKey : List Cond := .code y_Mod_isKey prog_8_method_18_code 1 (some .boolean) :: ps_tbl
theorem e_Mod_isKey : y_Mod_isKey.cls ≠ "java/lang/invoke/MethodHandle" ∧ y_Mod_isKey.cls ≠ "java/lang/invoke/VarHandle" ∧ (parseMethodDescriptor y_Mod_isKey.desc).map (fun d => d.parameters.length) = some 1 := by decide +kernel
def y_Mod_key : MethodName := ⟨"PageStoreModel", "key", "(III)I"⟩
def w_Mod_key : List Cond := .code y_Mod_key prog_8_method_19_code 5 (some .int) :: ps_tbl
theorem e_Mod_key : y_Mod_key.cls ≠ "java/lang/invoke/MethodHandle" ∧ y_Mod_key.cls ≠ "java/lang/invoke/VarHandle" ∧ (parseMethodDescriptor y_Mod_key.desc).map (fun d => d.parameters.length) = some 3 := by decide +kernel
def y_Mod_find : MethodName := ⟨"PageStoreModel", "find", "(III)I"⟩
def w_Mod_find : List Cond := .code y_Mod_find prog_8_method_22_code 5 (some .int) :: ps_tbl
theorem e_Mod_find : y_Mod_find.cls ≠ "java/lang/invoke/MethodHandle" ∧ y_Mod_find.cls ≠ "java/lang/invoke/VarHandle" ∧ (parseMethodDescriptor y_Mod_find.desc).map (fun d => d.parameters.length) = some 3 := by decide +kernel
def y_Mod_there : MethodName := ⟨"PageStoreModel", "there", "(III)I"⟩
def w_Mod_there : List Cond := .code y_Mod_there prog_8_method_21_code 5 (some .int) :: ps_tbl
theorem e_Mod_there : y_Mod_there.cls ≠ "java/lang/invoke/MethodHandle" ∧ y_Mod_there.cls ≠ "java/lang/invoke/VarHandle" ∧ (parseMethodDescriptor y_Mod_there.desc).map (fun d => d.parameters.length) = some 3 := by decide +kernel
def y_Mod_found : MethodName := ⟨"PageStoreModel", "found", "(III)I"⟩
def w_Mod_found : List Cond := .code y_Mod_found prog_8_method_23_code 5 (some .int) :: ps_tbl
theorem e_Mod_found : y_Mod_found.cls ≠ "java/lang/invoke/MethodHandle" ∧ y_Mod_found.cls ≠ "java/lang/invoke/VarHandle" ∧ (parseMethodDescriptor y_Mod_found.desc).map (fun d => d.parameters.length) = some 3 := by decide +kernel
def y_Mod_undefine : MethodName := ⟨"PageStoreModel", "undefine", "(III)I"⟩
def w_Mod_undefine : List Cond := .code y_Mod_undefine prog_8_method_24_code 5 (some .int) :: ps_tbl
theorem e_Mod_undefine : y_Mod_undefine.cls ≠ "java/lang/invoke/MethodHandle" ∧ y_Mod_undefine.cls ≠ "java/lang/invoke/VarHandle" ∧ (parseMethodDescriptor y_Mod_undefine.desc).map (fun d => d.parameters.length) = some 3 := by decide +kernel
def y_Mod_count : MethodName := ⟨"PageStoreModel", "count", "(I)I"⟩
def w_Mod_count : List Cond := .code y_Mod_count prog_8_method_25_code 4 (some .int) :: ps_tbl
theorem e_Mod_count : y_Mod_count.cls ≠ "java/lang/invoke/MethodHandle" ∧ y_Mod_count.cls ≠ "java/lang/invoke/VarHandle" ∧ (parseMethodDescriptor y_Mod_count.desc).map (fun d => d.parameters.length) = some 1 := by decide +kernel
def y_Mod_next : MethodName := ⟨"PageStoreModel", "next", "(III)I"⟩
def w_Mod_next : List Cond := .code y_Mod_next prog_8_method_26_code 5 (some .int) :: ps_tbl
theorem e_Mod_next : y_Mod_next.cls ≠ "java/lang/invoke/MethodHandle" ∧ y_Mod_next.cls ≠ "java/lang/invoke/VarHandle" ∧ (parseMethodDescriptor y_Mod_next.desc).map (fun d => d.parameters.length) = some 3 := by decide +kernel
def y_Mod_cursorKind : MethodName := ⟨"PageStoreModel", "cursorKind", "()I"⟩
def w_Mod_cursorKind : List Cond := .code y_Mod_cursorKind prog_8_method_27_code 1 (some .int) :: ps_tbl
theorem e_Mod_cursorKind : y_Mod_cursorKind.cls ≠ "java/lang/invoke/MethodHandle" ∧ y_Mod_cursorKind.cls ≠ "java/lang/invoke/VarHandle" ∧ (parseMethodDescriptor y_Mod_cursorKind.desc).map (fun d => d.parameters.length) = some 0 := by decide +kernel
def y_Mod_cursorNumber : MethodName := ⟨"PageStoreModel", "cursorNumber", "()I"⟩
def w_Mod_cursorNumber : List Cond := .code y_Mod_cursorNumber prog_8_method_28_code 1 (some .int) :: ps_tbl
theorem e_Mod_cursorNumber : y_Mod_cursorNumber.cls ≠ "java/lang/invoke/MethodHandle" ∧ y_Mod_cursorNumber.cls ≠ "java/lang/invoke/VarHandle" ∧ (parseMethodDescriptor y_Mod_cursorNumber.desc).map (fun d => d.parameters.length) = some 0 := by decide +kernel
def y_Mod_save : MethodName := ⟨"PageStoreModel", "save", "()I"⟩
def w_Mod_save : List Cond := .code y_Mod_save prog_8_method_30_code 2 (some .int) :: ps_tbl
theorem e_Mod_save : y_Mod_save.cls ≠ "java/lang/invoke/MethodHandle" ∧ y_Mod_save.cls ≠ "java/lang/invoke/VarHandle" ∧ (parseMethodDescriptor y_Mod_save.desc).map (fun d => d.parameters.length) = some 0 := by decide +kernel
def y_Mod_now : MethodName := ⟨"PageStoreModel", "now", "(I)I"⟩
def w_Mod_now : List Cond := .code y_Mod_now prog_8_method_29_code 2 (some .int) :: ps_tbl
theorem e_Mod_now : y_Mod_now.cls ≠ "java/lang/invoke/MethodHandle" ∧ y_Mod_now.cls ≠ "java/lang/invoke/VarHandle" ∧ (parseMethodDescriptor y_Mod_now.desc).map (fun d => d.parameters.length) = some 1 := by decide +kernel
def y_Mod_restore : MethodName := ⟨"PageStoreModel", "restore", "(I)I"⟩
def w_Mod_restore : List Cond := .code y_Mod_restore prog_8_method_32_code 2 (some .int) :: ps_tbl
theorem e_Mod_restore : y_Mod_restore.cls ≠ "java/lang/invoke/MethodHandle" ∧ y_Mod_restore.cls ≠ "java/lang/invoke/VarHandle" ∧ (parseMethodDescriptor y_Mod_restore.desc).map (fun d => d.parameters.length) = some 1 := by decide +kernel
def y_Mod_back : MethodName := ⟨"PageStoreModel", "back", "()V"⟩
def w_Mod_back : List Cond := .code y_Mod_back prog_8_method_31_code 2 none :: ps_tbl
theorem e_Mod_back : y_Mod_back.cls ≠ "java/lang/invoke/MethodHandle" ∧ y_Mod_back.cls ≠ "java/lang/invoke/VarHandle" ∧ (parseMethodDescriptor y_Mod_back.desc).map (fun d => d.parameters.length) = some 0 := by decide +kernel
def y_Mod_noted : MethodName := ⟨"PageStoreModel", "noted", "(II)I"⟩
def w_Mod_noted : List Cond := .code y_Mod_noted prog_8_method_33_code 3 (some .int) :: ps_tbl
theorem e_Mod_noted : y_Mod_noted.cls ≠ "java/lang/invoke/MethodHandle" ∧ y_Mod_noted.cls ≠ "java/lang/invoke/VarHandle" ∧ (parseMethodDescriptor y_Mod_noted.desc).map (fun d => d.parameters.length) = some 2 := by decide +kernel
end
section
theorem d_Col_init_0 : decode prog_2_method_1_code 0 = .ok (.aload_n 0, 1) := by decide +kernel
theorem d_Col_init_1 : decode prog_2_method_1_code 1 = .ok (.invokespecial 1, 3) := by decide +kernel
theorem d_Col_init_4 : decode prog_2_method_1_code 4 = .ok (.aload_n 0, 1) := by decide +kernel
theorem d_Col_init_5 : decode prog_2_method_1_code 5 = .ok (.bipush (16), 2) := by decide +kernel
theorem d_Col_init_7 : decode prog_2_method_1_code 7 = .ok (.newarray .int, 2) := by decide +kernel
theorem d_Col_init_9 : decode prog_2_method_1_code 9 = .ok (.putfield 9, 3) := by decide +kernel
theorem d_Col_init_12 : decode prog_2_method_1_code 12 = .ok (.aload_n 0, 1) := by decide +kernel
theorem d_Col_init_13 : decode prog_2_method_1_code 13 = .ok (.iload_n 1, 1) := by decide +kernel
theorem d_Col_init_14 : decode prog_2_method_1_code 14 = .ok (.putfield 13, 3) := by decide +kernel
theorem d_Col_init_17 : decode prog_2_method_1_code 17 = .ok (.return_, 1) := by decide +kernel
theorem d_Row_init_0 : decode prog_5_method_1_code 0 = .ok (.aload_n 0, 1) := by decide +kernel
theorem d_Row_init_1 : decode prog_5_method_1_code 1 = .ok (.invokespecial 3, 3) := by decide +kernel
theorem d_Row_init_4 : decode prog_5_method_1_code 4 = .ok (.aload_n 0, 1) := by decide +kernel
theorem d_Row_init_5 : decode prog_5_method_1_code 5 = .ok (.new 9, 3) := by decide +kernel
theorem d_Row_init_8 : decode prog_5_method_1_code 8 = .ok (.dup, 1) := by decide +kernel
theorem d_Row_init_9 : decode prog_5_method_1_code 9 = .ok (.sipush (16385), 3) := by decide +kernel
theorem d_Row_init_12 : decode prog_5_method_1_code 12 = .ok (.invokespecial 11, 3) := by decide +kernel
theorem d_Row_init_15 : decode prog_5_method_1_code 15 = .ok (.putfield 14, 3) := by decide +kernel
theorem d_Row_init_18 : decode prog_5_method_1_code 18 = .ok (.aload_n 0, 1) := by decide +kernel
theorem d_Row_init_19 : decode prog_5_method_1_code 19 = .ok (.new 9, 3) := by decide +kernel
theorem d_Row_init_22 : decode prog_5_method_1_code 22 = .ok (.dup, 1) := by decide +kernel
theorem d_Row_init_23 : decode prog_5_method_1_code 23 = .ok (.sipush (16385), 3) := by decide +kernel
theorem d_Row_init_26 : decode prog_5_method_1_code 26 = .ok (.invokespecial 11, 3) := by decide +kernel
theorem d_Row_init_29 : decode prog_5_method_1_code 29 = .ok (.putfield 20, 3) := by decide +kernel
theorem d_Row_init_32 : decode prog_5_method_1_code 32 = .ok (.aload_n 0, 1) := by decide +kernel
theorem d_Row_init_33 : decode prog_5_method_1_code 33 = .ok (.new 9, 3) := by decide +kernel
theorem d_Row_init_36 : decode prog_5_method_1_code 36 = .ok (.dup, 1) := by decide +kernel
theorem d_Row_init_37 : decode prog_5_method_1_code 37 = .ok (.sipush (16385), 3) := by decide +kernel
theorem d_Row_init_40 : decode prog_5_method_1_code 40 = .ok (.invokespecial 11, 3) := by decide +kernel
theorem d_Row_init_43 : decode prog_5_method_1_code 43 = .ok (.putfield 23, 3) := by decide +kernel
theorem d_Row_init_46 : decode prog_5_method_1_code 46 = .ok (.return_, 1) := by decide +kernel
theorem d_Val_init_0 : decode prog_6_method_1_code 0 = .ok (.aload_n 0, 1) := by decide +kernel
theorem d_Val_init_1 : decode prog_6_method_1_code 1 = .ok (.invokespecial 3, 3) := by decide +kernel
theorem d_Val_init_4 : decode prog_6_method_1_code 4 = .ok (.aload_n 0, 1) := by decide +kernel
theorem d_Val_init_5 : decode prog_6_method_1_code 5 = .ok (.new 9, 3) := by decide +kernel
theorem d_Val_init_8 : decode prog_6_method_1_code 8 = .ok (.dup, 1) := by decide +kernel
theorem d_Val_init_9 : decode prog_6_method_1_code 9 = .ok (.iload_n 1, 1) := by decide +kernel
theorem d_Val_init_10 : decode prog_6_method_1_code 10 = .ok (.invokespecial 11, 3) := by decide +kernel
theorem d_Val_init_13 : decode prog_6_method_1_code 13 = .ok (.putfield 14, 3) := by decide +kernel
theorem d_Val_init_16 : decode prog_6_method_1_code 16 = .ok (.aload_n 0, 1) := by decide +kernel
theorem d_Val_init_17 : decode prog_6_method_1_code 17 = .ok (.new 9, 3) := by decide +kernel
theorem d_Val_init_20 : decode prog_6_method_1_code 20 = .ok (.dup, 1) := by decide +kernel
theorem d_Val_init_21 : decode prog_6_method_1_code 21 = .ok (.iload_n 1, 1) := by decide +kernel
theorem d_Val_init_22 : decode prog_6_method_1_code 22 = .ok (.invokespecial 11, 3) := by decide +kernel
theorem d_Val_init_25 : decode prog_6_method_1_code 25 = .ok (.putfield 20, 3) := by decide +kernel
theorem d_Val_init_28 : decode prog_6_method_1_code 28 = .ok (.return_, 1) := by decide +kernel
theorem d_Key_init_0 : decode prog_3_method_1_code 0 = .ok (.aload_n 0, 1) := by decide +kernel
theorem d_Key_init_1 : decode prog_3_method_1_code 1 = .ok (.invokespecial 3, 3) := by decide +kernel
theorem d_Key_init_4 : decode prog_3_method_1_code 4 = .ok (.aload_n 0, 1) := by decide +kernel
theorem d_Key_init_5 : decode prog_3_method_1_code 5 = .ok (.new 9, 3) := by decide +kernel
theorem d_Key_init_8 : decode prog_3_method_1_code 8 = .ok (.dup, 1) := by decide +kernel
theorem d_Key_init_9 : decode prog_3_method_1_code 9 = .ok (.sipush (16384), 3) := by decide +kernel
theorem d_Key_init_12 : decode prog_3_method_1_code 12 = .ok (.invokespecial 11, 3) := by decide +kernel
theorem d_Key_init_15 : decode prog_3_method_1_code 15 = .ok (.putfield 14, 3) := by decide +kernel
theorem d_Key_init_18 : decode prog_3_method_1_code 18 = .ok (.aload_n 0, 1) := by decide +kernel
theorem d_Key_init_19 : decode prog_3_method_1_code 19 = .ok (.new 9, 3) := by decide +kernel
theorem d_Key_init_22 : decode prog_3_method_1_code 22 = .ok (.dup, 1) := by decide +kernel
theorem d_Key_init_23 : decode prog_3_method_1_code 23 = .ok (.sipush (16384), 3) := by decide +kernel
theorem d_Key_init_26 : decode prog_3_method_1_code 26 = .ok (.invokespecial 11, 3) := by decide +kernel
theorem d_Key_init_29 : decode prog_3_method_1_code 29 = .ok (.putfield 20, 3) := by decide +kernel
theorem d_Key_init_32 : decode prog_3_method_1_code 32 = .ok (.aload_n 0, 1) := by decide +kernel
theorem d_Key_init_33 : decode prog_3_method_1_code 33 = .ok (.new 9, 3) := by decide +kernel
theorem d_Key_init_36 : decode prog_3_method_1_code 36 = .ok (.dup, 1) := by decide +kernel
theorem d_Key_init_37 : decode prog_3_method_1_code 37 = .ok (.sipush (16384), 3) := by decide +kernel
theorem d_Key_init_40 : decode prog_3_method_1_code 40 = .ok (.invokespecial 11, 3) := by decide +kernel
theorem d_Key_init_43 : decode prog_3_method_1_code 43 = .ok (.putfield 23, 3) := by decide +kernel
theorem d_Key_init_46 : decode prog_3_method_1_code 46 = .ok (.aload_n 0, 1) := by decide +kernel
theorem d_Key_init_47 : decode prog_3_method_1_code 47 = .ok (.new 26, 3) := by decide +kernel
theorem d_Key_init_50 : decode prog_3_method_1_code 50 = .ok (.dup, 1) := by decide +kernel
theorem d_Key_init_51 : decode prog_3_method_1_code 51 = .ok (.sipush (16384), 3) := by decide +kernel
theorem d_Key_init_54 : decode prog_3_method_1_code 54 = .ok (.invokespecial 28, 3) := by decide +kernel
theorem d_Key_init_57 : decode prog_3_method_1_code 57 = .ok (.putfield 29, 3) := by decide +kernel
theorem d_Key_init_60 : decode prog_3_method_1_code 60 = .ok (.return_, 1) := by decide +kernel
theorem d_Mem_init_0 : decode prog_4_method_1_code 0 = .ok (.aload_n 0, 1) := by decide +kernel
theorem d_Mem_init_1 : decode prog_4_method_1_code 1 = .ok (.invokespecial 3, 3) := by decide +kernel
theorem d_Mem_init_4 : decode prog_4_method_1_code 4 = .ok (.aload_n 0, 1) := by decide +kernel
theorem d_Mem_init_5 : decode prog_4_method_1_code 5 = .ok (.new 9, 3) := by decide +kernel
theorem d_Mem_init_8 : decode prog_4_method_1_code 8 = .ok (.dup, 1) := by decide +kernel
theorem d_Mem_init_9 : decode prog_4_method_1_code 9 = .ok (.ldc 11, 2) := by decide +kernel
theorem d_Mem_init_11 : decode prog_4_method_1_code 11 = .ok (.invokespecial 12, 3) := by decide +kernel
theorem d_Mem_init_14 : decode prog_4_method_1_code 14 = .ok (.putfield 15, 3) := by decide +kernel
theorem d_Mem_init_17 : decode prog_4_method_1_code 17 = .ok (.aload_n 0, 1) := by decide +kernel
theorem d_Mem_init_18 : decode prog_4_method_1_code 18 = .ok (.new 9, 3) := by decide +kernel
theorem d_Mem_init_21 : decode prog_4_method_1_code 21 = .ok (.dup, 1) := by decide +kernel
theorem d_Mem_init_22 : decode prog_4_method_1_code 22 = .ok (.ldc 11, 2) := by decide +kernel
theorem d_Mem_init_24 : decode prog_4_method_1_code 24 = .ok (.invokespecial 12, 3) := by decide +kernel
theorem d_Mem_init_27 : decode prog_4_method_1_code 27 = .ok (.putfield 21, 3) := by decide +kernel
theorem d_Mem_init_30 : decode prog_4_method_1_code 30 = .ok (.aload_n 0, 1) := by decide +kernel
theorem d_Mem_init_31 : decode prog_4_method_1_code 31 = .ok (.new 24, 3) := by decide +kernel
theorem d_Mem_init_34 : decode prog_4_method_1_code 34 = .ok (.dup, 1) := by decide +kernel
theorem d_Mem_init_35 : decode prog_4_method_1_code 35 = .ok (.ldc 11, 2) := by decide +kernel
theorem d_Mem_init_37 : decode prog_4_method_1_code 37 = .ok (.invokespecial 26, 3) := by decide +kernel
theorem d_Mem_init_40 : decode prog_4_method_1_code 40 = .ok (.putfield 27, 3) := by decide +kernel
theorem d_Mem_init_43 : decode prog_4_method_1_code 43 = .ok (.return_, 1) := by decide +kernel
theorem d_Val_wipe_0 : decode prog_6_method_3_code 0 = .ok (.aload_n 0, 1) := by decide +kernel
theorem d_Val_wipe_1 : decode prog_6_method_3_code 1 = .ok (.getfield 14, 3) := by decide +kernel
theorem d_Val_wipe_4 : decode prog_6_method_3_code 4 = .ok (.iload_n 1, 1) := by decide +kernel
theorem d_Val_wipe_5 : decode prog_6_method_3_code 5 = .ok (.iload_n 2, 1) := by decide +kernel
theorem d_Val_wipe_6 : decode prog_6_method_3_code 6 = .ok (.invokevirtual 27, 3) := by decide +kernel
theorem d_Val_wipe_9 : decode prog_6_method_3_code 9 = .ok (.aload_n 0, 1) := by decide +kernel
theorem d_Val_wipe_10 : decode prog_6_method_3_code 10 = .ok (.getfield 20, 3) := by decide +kernel
theorem d_Val_wipe_13 : decode prog_6_method_3_code 13 = .ok (.iload_n 1, 1) := by decide +kernel
theorem d_Val_wipe_14 : decode prog_6_method_3_code 14 = .ok (.iload_n 2, 1) := by decide +kernel
theorem d_Val_wipe_15 : decode prog_6_method_3_code 15 = .ok (.invokevirtual 27, 3) := by decide +kernel
theorem d_Val_wipe_18 : decode prog_6_method_3_code 18 = .ok (.return_, 1) := by decide +kernel
theorem d_Col_wipe_0 : decode prog_2_method_4_code 0 = .ok (.iload_n 2, 1) := by decide +kernel
theorem d_Col_wipe_1 : decode prog_2_method_4_code 1 = .ok (.aload_n 0, 1) := by decide +kernel
theorem d_Col_wipe_2 : decode prog_2_method_4_code 2 = .ok (.getfield 9, 3) := by decide +kernel
theorem d_Col_wipe_5 : decode prog_2_method_4_code 5 = .ok (.arraylength, 1) := by decide +kernel
theorem d_Col_wipe_6 : decode prog_2_method_4_code 6 = .ok (.invokestatic 17, 3) := by decide +kernel
theorem d_Col_wipe_9 : decode prog_2_method_4_code 9 = .ok (.istore_n 3, 1) := by decide +kernel
theorem d_Col_wipe_10 : decode prog_2_method_4_code 10 = .ok (.iload_n 1, 1) := by decide +kernel
theorem d_Col_wipe_11 : decode prog_2_method_4_code 11 = .ok (.ifCond .lt (18), 3) := by decide +kernel
theorem d_Col_wipe_14 : decode prog_2_method_4_code 14 = .ok (.iload_n 1, 1) := by decide +kernel
theorem d_Col_wipe_15 : decode prog_2_method_4_code 15 = .ok (.iload_n 3, 1) := by decide +kernel
theorem d_Col_wipe_16 : decode prog_2_method_4_code 16 = .ok (.if_icmp .ge (13), 3) := by decide +kernel
theorem d_Col_wipe_19 : decode prog_2_method_4_code 19 = .ok (.aload_n 0, 1) := by decide +kernel
theorem d_Col_wipe_20 : decode prog_2_method_4_code 20 = .ok (.getfield 9, 3) := by decide +kernel
theorem d_Col_wipe_23 : decode prog_2_method_4_code 23 = .ok (.iload_n 1, 1) := by decide +kernel
theorem d_Col_wipe_24 : decode prog_2_method_4_code 24 = .ok (.iload_n 3, 1) := by decide +kernel
theorem d_Col_wipe_25 : decode prog_2_method_4_code 25 = .ok (.iconst (0), 1) := by decide +kernel
theorem d_Col_wipe_26 : decode prog_2_method_4_code 26 = .ok (.invokestatic 32, 3) := by decide +kernel
theorem d_Col_wipe_29 : decode prog_2_method_4_code 29 = .ok (.return_, 1) := by decide +kernel
theorem d_Arr_fill_0 : decode prog_12_method_104_code 0 = .ok (.aload_n 0, 1) := by decide +kernel
theorem d_Arr_fill_1 : decode prog_12_method_104_code 1 = .ok (.arraylength, 1) := by decide +kernel
theorem d_Arr_fill_2 : decode prog_12_method_104_code 2 = .ok (.iload_n 1, 1) := by decide +kernel
theorem d_Arr_fill_3 : decode prog_12_method_104_code 3 = .ok (.iload_n 2, 1) := by decide +kernel
theorem d_Arr_fill_4 : decode prog_12_method_104_code 4 = .ok (.invokestatic 13, 3) := by decide +kernel
theorem d_Arr_fill_7 : decode prog_12_method_104_code 7 = .ok (.iload_n 1, 1) := by decide +kernel
theorem d_Arr_fill_8 : decode prog_12_method_104_code 8 = .ok (.istore 4, 2) := by decide +kernel
theorem d_Arr_fill_10 : decode prog_12_method_104_code 10 = .ok (.iload 4, 2) := by decide +kernel
theorem d_Arr_fill_12 : decode prog_12_method_104_code 12 = .ok (.iload_n 2, 1) := by decide +kernel
theorem d_Arr_fill_13 : decode prog_12_method_104_code 13 = .ok (.if_icmp .ge (14), 3) := by decide +kernel
theorem d_Arr_fill_16 : decode prog_12_method_104_code 16 = .ok (.aload_n 0, 1) := by decide +kernel
theorem d_Arr_fill_17 : decode prog_12_method_104_code 17 = .ok (.iload 4, 2) := by decide +kernel
theorem d_Arr_fill_19 : decode prog_12_method_104_code 19 = .ok (.iload_n 3, 1) := by decide +kernel
theorem d_Arr_fill_20 : decode prog_12_method_104_code 20 = .ok (.iastore, 1) := by decide +kernel
theorem d_Arr_fill_21 : decode prog_12_method_104_code 21 = .ok (.iinc 4 (1), 3) := by decide +kernel
theorem d_Arr_fill_24 : decode prog_12_method_104_code 24 = .ok (.goto (-14), 3) := by decide +kernel
theorem d_Arr_fill_27 : decode prog_12_method_104_code 27 = .ok (.return_, 1) := by decide +kernel
theorem d_Arr_rangeCheck_0 : decode prog_12_method_30_code 0 = .ok (.iload_n 1, 1) := by decide +kernel
theorem d_Arr_rangeCheck_1 : decode prog_12_method_30_code 1 = .ok (.iload_n 2, 1) := by decide +kernel
theorem d_Arr_rangeCheck_2 : decode prog_12_method_30_code 2 = .ok (.if_icmp .le (44), 3) := by decide +kernel
theorem d_Arr_rangeCheck_8 : decode prog_12_method_30_code 8 = .ok (.dup, 1) := by decide +kernel
theorem d_Arr_rangeCheck_12 : decode prog_12_method_30_code 12 = .ok (.dup, 1) := by decide +kernel
theorem d_Arr_rangeCheck_21 : decode prog_12_method_30_code 21 = .ok (.iload_n 1, 1) := by decide +kernel
theorem d_Arr_rangeCheck_30 : decode prog_12_method_30_code 30 = .ok (.iload_n 2, 1) := by decide +kernel
theorem d_Arr_rangeCheck_46 : decode prog_12_method_30_code 46 = .ok (.iload_n 1, 1) := by decide +kernel
theorem d_Arr_rangeCheck_47 : decode prog_12_method_30_code 47 = .ok (.ifCond .ge (12), 3) := by decide +kernel
theorem d_Arr_rangeCheck_53 : decode prog_12_method_30_code 53 = .ok (.dup, 1) := by decide +kernel
theorem d_Arr_rangeCheck_54 : decode prog_12_method_30_code 54 = .ok (.iload_n 1, 1) := by decide +kernel
theorem d_Arr_rangeCheck_59 : decode prog_12_method_30_code 59 = .ok (.iload_n 2, 1) := by decide +kernel
theorem d_Arr_rangeCheck_60 : decode prog_12_method_30_code 60 = .ok (.iload_n 0, 1) := by decide +kernel
theorem d_Arr_rangeCheck_61 : decode prog_12_method_30_code 61 = .ok (.if_icmp .le (12), 3) := by decide +kernel
theorem d_Arr_rangeCheck_67 : decode prog_12_method_30_code 67 = .ok (.dup, 1) := by decide +kernel
theorem d_Arr_rangeCheck_68 : decode prog_12_method_30_code 68 = .ok (.iload_n 2, 1) := by decide +kernel
theorem d_Arr_rangeCheck_73 : decode prog_12_method_30_code 73 = .ok (.return_, 1) := by decide +kernel
theorem d_Row_write_0 : decode prog_5_method_2_code 0 = .ok (.aload_n 0, 1) := by decide +kernel
theorem d_Row_write_1 : decode prog_5_method_2_code 1 = .ok (.getfield 14, 3) := by decide +kernel
theorem d_Row_write_4 : decode prog_5_method_2_code 4 = .ok (.iload_n 1, 1) := by decide +kernel
theorem d_Row_write_5 : decode prog_5_method_2_code 5 = .ok (.iload_n 2, 1) := by decide +kernel
theorem d_Row_write_6 : decode prog_5_method_2_code 6 = .ok (.invokevirtual 26, 3) := by decide +kernel
theorem d_Row_write_9 : decode prog_5_method_2_code 9 = .ok (.aload_n 0, 1) := by decide +kernel
theorem d_Row_write_10 : decode prog_5_method_2_code 10 = .ok (.getfield 20, 3) := by decide +kernel
theorem d_Row_write_13 : decode prog_5_method_2_code 13 = .ok (.iload_n 1, 1) := by decide +kernel
theorem d_Row_write_14 : decode prog_5_method_2_code 14 = .ok (.iload_n 3, 1) := by decide +kernel
theorem d_Row_write_15 : decode prog_5_method_2_code 15 = .ok (.invokevirtual 26, 3) := by decide +kernel
theorem d_Row_write_18 : decode prog_5_method_2_code 18 = .ok (.aload_n 0, 1) := by decide +kernel
theorem d_Row_write_19 : decode prog_5_method_2_code 19 = .ok (.getfield 23, 3) := by decide +kernel
theorem d_Row_write_22 : decode prog_5_method_2_code 22 = .ok (.iload_n 1, 1) := by decide +kernel
theorem d_Row_write_23 : decode prog_5_method_2_code 23 = .ok (.iload 4, 2) := by decide +kernel
theorem d_Row_write_25 : decode prog_5_method_2_code 25 = .ok (.invokevirtual 26, 3) := by decide +kernel
theorem d_Row_write_28 : decode prog_5_method_2_code 28 = .ok (.return_, 1) := by decide +kernel
theorem d_Col_put_0 : decode prog_2_method_3_code 0 = .ok (.iload_n 1, 1) := by decide +kernel
theorem d_Col_put_1 : decode prog_2_method_3_code 1 = .ok (.ifCond .lt (11), 3) := by decide +kernel
theorem d_Col_put_4 : decode prog_2_method_3_code 4 = .ok (.iload_n 1, 1) := by decide +kernel
theorem d_Col_put_5 : decode prog_2_method_3_code 5 = .ok (.aload_n 0, 1) := by decide +kernel
theorem d_Col_put_6 : decode prog_2_method_3_code 6 = .ok (.getfield 13, 3) := by decide +kernel
theorem d_Col_put_9 : decode prog_2_method_3_code 9 = .ok (.if_icmp .lt (4), 3) := by decide +kernel
theorem d_Col_put_12 : decode prog_2_method_3_code 12 = .ok (.return_, 1) := by decide +kernel
theorem d_Col_put_13 : decode prog_2_method_3_code 13 = .ok (.iload_n 1, 1) := by decide +kernel
theorem d_Col_put_14 : decode prog_2_method_3_code 14 = .ok (.aload_n 0, 1) := by decide +kernel
theorem d_Col_put_15 : decode prog_2_method_3_code 15 = .ok (.getfield 9, 3) := by decide +kernel
theorem d_Col_put_18 : decode prog_2_method_3_code 18 = .ok (.arraylength, 1) := by decide +kernel
theorem d_Col_put_19 : decode prog_2_method_3_code 19 = .ok (.if_icmp .lt (36), 3) := by decide +kernel
theorem d_Col_put_22 : decode prog_2_method_3_code 22 = .ok (.iload_n 1, 1) := by decide +kernel
theorem d_Col_put_23 : decode prog_2_method_3_code 23 = .ok (.iconst (1), 1) := by decide +kernel
theorem d_Col_put_24 : decode prog_2_method_3_code 24 = .ok (.iadd, 1) := by decide +kernel
theorem d_Col_put_25 : decode prog_2_method_3_code 25 = .ok (.aload_n 0, 1) := by decide +kernel
theorem d_Col_put_26 : decode prog_2_method_3_code 26 = .ok (.getfield 13, 3) := by decide +kernel
theorem d_Col_put_29 : decode prog_2_method_3_code 29 = .ok (.iconst (2), 1) := by decide +kernel
theorem d_Col_put_30 : decode prog_2_method_3_code 30 = .ok (.aload_n 0, 1) := by decide +kernel
theorem d_Col_put_31 : decode prog_2_method_3_code 31 = .ok (.getfield 9, 3) := by decide +kernel
theorem d_Col_put_34 : decode prog_2_method_3_code 34 = .ok (.arraylength, 1) := by decide +kernel
theorem d_Col_put_35 : decode prog_2_method_3_code 35 = .ok (.imul, 1) := by decide +kernel
theorem d_Col_put_36 : decode prog_2_method_3_code 36 = .ok (.invokestatic 17, 3) := by decide +kernel
theorem d_Col_put_39 : decode prog_2_method_3_code 39 = .ok (.invokestatic 23, 3) := by decide +kernel
theorem d_Col_put_42 : decode prog_2_method_3_code 42 = .ok (.istore_n 3, 1) := by decide +kernel
theorem d_Col_put_43 : decode prog_2_method_3_code 43 = .ok (.aload_n 0, 1) := by decide +kernel
theorem d_Col_put_44 : decode prog_2_method_3_code 44 = .ok (.aload_n 0, 1) := by decide +kernel
theorem d_Col_put_45 : decode prog_2_method_3_code 45 = .ok (.getfield 9, 3) := by decide +kernel
theorem d_Col_put_48 : decode prog_2_method_3_code 48 = .ok (.iload_n 3, 1) := by decide +kernel
theorem d_Col_put_49 : decode prog_2_method_3_code 49 = .ok (.invokestatic 26, 3) := by decide +kernel
theorem d_Col_put_52 : decode prog_2_method_3_code 52 = .ok (.putfield 9, 3) := by decide +kernel
theorem d_Col_put_55 : decode prog_2_method_3_code 55 = .ok (.aload_n 0, 1) := by decide +kernel
theorem d_Col_put_56 : decode prog_2_method_3_code 56 = .ok (.getfield 9, 3) := by decide +kernel
theorem d_Col_put_59 : decode prog_2_method_3_code 59 = .ok (.iload_n 1, 1) := by decide +kernel
theorem d_Col_put_60 : decode prog_2_method_3_code 60 = .ok (.iload_n 2, 1) := by decide +kernel
theorem d_Col_put_61 : decode prog_2_method_3_code 61 = .ok (.iastore, 1) := by decide +kernel
theorem d_Col_put_62 : decode prog_2_method_3_code 62 = .ok (.return_, 1) := by decide +kernel
theorem d_Arr_copyOf_0 : decode prog_12_method_123_code 0 = .ok (.iload_n 1, 1) := by decide +kernel
theorem d_Arr_copyOf_1 : decode prog_12_method_123_code 1 = .ok (.aload_n 0, 1) := by decide +kernel
theorem d_Arr_copyOf_2 : decode prog_12_method_123_code 2 = .ok (.arraylength, 1) := by decide +kernel
theorem d_Arr_copyOf_3 : decode prog_12_method_123_code 3 = .ok (.if_icmp .ne (11), 3) := by decide +kernel
theorem d_Arr_copyOf_6 : decode prog_12_method_123_code 6 = .ok (.aload_n 0, 1) := by decide +kernel
theorem d_Arr_copyOf_7 : decode prog_12_method_123_code 7 = .ok (.invokevirtual 316, 3) := by decide +kernel
theorem d_Arr_copyOf_10 : decode prog_12_method_123_code 10 = .ok (.checkcast 317, 3) := by decide +kernel
theorem d_Arr_copyOf_13 : decode prog_12_method_123_code 13 = .ok (.areturn, 1) := by decide +kernel
theorem d_Arr_copyOf_14 : decode prog_12_method_123_code 14 = .ok (.iload_n 1, 1) := by decide +kernel
theorem d_Arr_copyOf_15 : decode prog_12_method_123_code 15 = .ok (.newarray .int, 2) := by decide +kernel
theorem d_Arr_copyOf_17 : decode prog_12_method_123_code 17 = .ok (.astore_n 2, 1) := by decide +kernel
theorem d_Arr_copyOf_18 : decode prog_12_method_123_code 18 = .ok (.aload_n 0, 1) := by decide +kernel
theorem d_Arr_copyOf_19 : decode prog_12_method_123_code 19 = .ok (.iconst (0), 1) := by decide +kernel
theorem d_Arr_copyOf_20 : decode prog_12_method_123_code 20 = .ok (.aload_n 2, 1) := by decide +kernel
theorem d_Arr_copyOf_21 : decode prog_12_method_123_code 21 = .ok (.iconst (0), 1) := by decide +kernel
theorem d_Arr_copyOf_22 : decode prog_12_method_123_code 22 = .ok (.aload_n 0, 1) := by decide +kernel
theorem d_Arr_copyOf_23 : decode prog_12_method_123_code 23 = .ok (.arraylength, 1) := by decide +kernel
theorem d_Arr_copyOf_24 : decode prog_12_method_123_code 24 = .ok (.iload_n 1, 1) := by decide +kernel
theorem d_Arr_copyOf_25 : decode prog_12_method_123_code 25 = .ok (.invokestatic 304, 3) := by decide +kernel
theorem d_Arr_copyOf_28 : decode prog_12_method_123_code 28 = .ok (.invokestatic 150, 3) := by decide +kernel
theorem d_Arr_copyOf_31 : decode prog_12_method_123_code 31 = .ok (.aload_n 2, 1) := by decide +kernel
theorem d_Arr_copyOf_32 : decode prog_12_method_123_code 32 = .ok (.areturn, 1) := by decide +kernel
theorem d_Col_at_0 : decode prog_2_method_2_code 0 = .ok (.iload_n 1, 1) := by decide +kernel
theorem d_Col_at_1 : decode prog_2_method_2_code 1 = .ok (.ifCond .lt (21), 3) := by decide +kernel
theorem d_Col_at_4 : decode prog_2_method_2_code 4 = .ok (.iload_n 1, 1) := by decide +kernel
theorem d_Col_at_5 : decode prog_2_method_2_code 5 = .ok (.aload_n 0, 1) := by decide +kernel
theorem d_Col_at_6 : decode prog_2_method_2_code 6 = .ok (.getfield 9, 3) := by decide +kernel
theorem d_Col_at_9 : decode prog_2_method_2_code 9 = .ok (.arraylength, 1) := by decide +kernel
theorem d_Col_at_10 : decode prog_2_method_2_code 10 = .ok (.if_icmp .ge (12), 3) := by decide +kernel
theorem d_Col_at_13 : decode prog_2_method_2_code 13 = .ok (.aload_n 0, 1) := by decide +kernel
theorem d_Col_at_14 : decode prog_2_method_2_code 14 = .ok (.getfield 9, 3) := by decide +kernel
theorem d_Col_at_17 : decode prog_2_method_2_code 17 = .ok (.iload_n 1, 1) := by decide +kernel
theorem d_Col_at_18 : decode prog_2_method_2_code 18 = .ok (.iaload, 1) := by decide +kernel
theorem d_Col_at_19 : decode prog_2_method_2_code 19 = .ok (.goto (4), 3) := by decide +kernel
theorem d_Col_at_22 : decode prog_2_method_2_code 22 = .ok (.iconst (0), 1) := by decide +kernel
theorem d_Col_at_23 : decode prog_2_method_2_code 23 = .ok (.ireturn, 1) := by decide +kernel
theorem d_Mem_hold_0 : decode prog_4_method_3_code 0 = .ok (.iload_n 3, 1) := by decide +kernel
theorem d_Mem_hold_1 : decode prog_4_method_3_code 1 = .ok (.istore 5, 2) := by decide +kernel
theorem d_Mem_hold_3 : decode prog_4_method_3_code 3 = .ok (.iload 5, 2) := by decide +kernel
theorem d_Mem_hold_5 : decode prog_4_method_3_code 5 = .ok (.iload 4, 2) := by decide +kernel
theorem d_Mem_hold_7 : decode prog_4_method_3_code 7 = .ok (.if_icmp .ge (37), 3) := by decide +kernel
theorem d_Mem_hold_10 : decode prog_4_method_3_code 10 = .ok (.aload_n 0, 1) := by decide +kernel
theorem d_Mem_hold_11 : decode prog_4_method_3_code 11 = .ok (.getfield 21, 3) := by decide +kernel
theorem d_Mem_hold_14 : decode prog_4_method_3_code 14 = .ok (.iload 5, 2) := by decide +kernel
theorem d_Mem_hold_16 : decode prog_4_method_3_code 16 = .ok (.invokevirtual 38, 3) := by decide +kernel
theorem d_Mem_hold_19 : decode prog_4_method_3_code 19 = .ok (.iload_n 2, 1) := by decide +kernel
theorem d_Mem_hold_20 : decode prog_4_method_3_code 20 = .ok (.if_icmp .ne (18), 3) := by decide +kernel
theorem d_Mem_hold_23 : decode prog_4_method_3_code 23 = .ok (.aload_n 0, 1) := by decide +kernel
theorem d_Mem_hold_24 : decode prog_4_method_3_code 24 = .ok (.getfield 15, 3) := by decide +kernel
theorem d_Mem_hold_27 : decode prog_4_method_3_code 27 = .ok (.iload 5, 2) := by decide +kernel
theorem d_Mem_hold_29 : decode prog_4_method_3_code 29 = .ok (.invokevirtual 38, 3) := by decide +kernel
theorem d_Mem_hold_32 : decode prog_4_method_3_code 32 = .ok (.iload_n 1, 1) := by decide +kernel
theorem d_Mem_hold_33 : decode prog_4_method_3_code 33 = .ok (.if_icmp .ne (5), 3) := by decide +kernel
theorem d_Mem_hold_36 : decode prog_4_method_3_code 36 = .ok (.iconst (1), 1) := by decide +kernel
theorem d_Mem_hold_37 : decode prog_4_method_3_code 37 = .ok (.ireturn, 1) := by decide +kernel
theorem d_Mem_hold_38 : decode prog_4_method_3_code 38 = .ok (.iinc 5 (1), 3) := by decide +kernel
theorem d_Mem_hold_41 : decode prog_4_method_3_code 41 = .ok (.goto (-38), 3) := by decide +kernel
theorem d_Mem_hold_44 : decode prog_4_method_3_code 44 = .ok (.iconst (0), 1) := by decide +kernel
theorem d_Mem_hold_45 : decode prog_4_method_3_code 45 = .ok (.ireturn, 1) := by decide +kernel
theorem d_Mem_write_0 : decode prog_4_method_2_code 0 = .ok (.aload_n 0, 1) := by decide +kernel
theorem d_Mem_write_1 : decode prog_4_method_2_code 1 = .ok (.getfield 15, 3) := by decide +kernel
theorem d_Mem_write_4 : decode prog_4_method_2_code 4 = .ok (.iload_n 1, 1) := by decide +kernel
theorem d_Mem_write_5 : decode prog_4_method_2_code 5 = .ok (.iload_n 2, 1) := by decide +kernel
theorem d_Mem_write_6 : decode prog_4_method_2_code 6 = .ok (.invokevirtual 31, 3) := by decide +kernel
theorem d_Mem_write_9 : decode prog_4_method_2_code 9 = .ok (.aload_n 0, 1) := by decide +kernel
theorem d_Mem_write_10 : decode prog_4_method_2_code 10 = .ok (.getfield 21, 3) := by decide +kernel
theorem d_Mem_write_13 : decode prog_4_method_2_code 13 = .ok (.iload_n 1, 1) := by decide +kernel
theorem d_Mem_write_14 : decode prog_4_method_2_code 14 = .ok (.iload_n 3, 1) := by decide +kernel
theorem d_Mem_write_15 : decode prog_4_method_2_code 15 = .ok (.invokevirtual 31, 3) := by decide +kernel
theorem d_Mem_write_18 : decode prog_4_method_2_code 18 = .ok (.aload_n 0, 1) := by decide +kernel
theorem d_Mem_write_19 : decode prog_4_method_2_code 19 = .ok (.getfield 27, 3) := by decide +kernel
theorem d_Mem_write_22 : decode prog_4_method_2_code 22 = .ok (.iload_n 1, 1) := by decide +kernel
theorem d_Mem_write_23 : decode prog_4_method_2_code 23 = .ok (.aload 4, 2) := by decide +kernel
theorem d_Mem_write_25 : decode prog_4_method_2_code 25 = .ok (.getfield 35, 3) := by decide +kernel
theorem d_Mem_write_28 : decode prog_4_method_2_code 28 = .ok (.iload_n 3, 1) := by decide +kernel
theorem d_Mem_write_29 : decode prog_4_method_2_code 29 = .ok (.invokevirtual 38, 3) := by decide +kernel
theorem d_Mem_write_32 : decode prog_4_method_2_code 32 = .ok (.aload 4, 2) := by decide +kernel
theorem d_Mem_write_34 : decode prog_4_method_2_code 34 = .ok (.getfield 42, 3) := by decide +kernel
theorem d_Mem_write_37 : decode prog_4_method_2_code 37 = .ok (.iload_n 3, 1) := by decide +kernel
theorem d_Mem_write_38 : decode prog_4_method_2_code 38 = .ok (.invokevirtual 38, 3) := by decide +kernel
theorem d_Mem_write_41 : decode prog_4_method_2_code 41 = .ok (.invokevirtual 45, 3) := by decide +kernel
theorem d_Mem_write_44 : decode prog_4_method_2_code 44 = .ok (.return_, 1) := by decide +kernel
theorem d_Val_write_0 : decode prog_6_method_2_code 0 = .ok (.aload_n 0, 1) := by decide +kernel
theorem d_Val_write_1 : decode prog_6_method_2_code 1 = .ok (.getfield 14, 3) := by decide +kernel
theorem d_Val_write_4 : decode prog_6_method_2_code 4 = .ok (.iload_n 1, 1) := by decide +kernel
theorem d_Val_write_5 : decode prog_6_method_2_code 5 = .ok (.iload_n 2, 1) := by decide +kernel
theorem d_Val_write_6 : decode prog_6_method_2_code 6 = .ok (.invokevirtual 23, 3) := by decide +kernel
theorem d_Val_write_9 : decode prog_6_method_2_code 9 = .ok (.aload_n 0, 1) := by decide +kernel
theorem d_Val_write_10 : decode prog_6_method_2_code 10 = .ok (.getfield 20, 3) := by decide +kernel
theorem d_Val_write_13 : decode prog_6_method_2_code 13 = .ok (.iload_n 1, 1) := by decide +kernel
theorem d_Val_write_14 : decode prog_6_method_2_code 14 = .ok (.iload_n 2, 1) := by decide +kernel
theorem d_Val_write_15 : decode prog_6_method_2_code 15 = .ok (.ifCond .ne (7), 3) := by decide +kernel
theorem d_Val_write_18 : decode prog_6_method_2_code 18 = .ok (.iconst (0), 1) := by decide +kernel
theorem d_Val_write_19 : decode prog_6_method_2_code 19 = .ok (.goto (4), 3) := by decide +kernel
theorem d_Val_write_22 : decode prog_6_method_2_code 22 = .ok (.iload_n 3, 1) := by decide +kernel
theorem d_Val_write_23 : decode prog_6_method_2_code 23 = .ok (.invokevirtual 23, 3) := by decide +kernel
theorem d_Val_write_26 : decode prog_6_method_2_code 26 = .ok (.return_, 1) := by decide +kernel
theorem d_Key_indexOf_0 : decode prog_3_method_3_code 0 = .ok (.iconst (0), 1) := by decide +kernel
theorem d_Key_indexOf_1 : decode prog_3_method_3_code 1 = .ok (.istore 5, 2) := by decide +kernel
theorem d_Key_indexOf_3 : decode prog_3_method_3_code 3 = .ok (.iload 5, 2) := by decide +kernel
theorem d_Key_indexOf_5 : decode prog_3_method_3_code 5 = .ok (.iload 4, 2) := by decide +kernel
theorem d_Key_indexOf_7 : decode prog_3_method_3_code 7 = .ok (.if_icmp .ge (51), 3) := by decide +kernel
theorem d_Key_indexOf_10 : decode prog_3_method_3_code 10 = .ok (.aload_n 0, 1) := by decide +kernel
theorem d_Key_indexOf_11 : decode prog_3_method_3_code 11 = .ok (.getfield 23, 3) := by decide +kernel
theorem d_Key_indexOf_14 : decode prog_3_method_3_code 14 = .ok (.iload 5, 2) := by decide +kernel
theorem d_Key_indexOf_16 : decode prog_3_method_3_code 16 = .ok (.invokevirtual 37, 3) := by decide +kernel
theorem d_Key_indexOf_19 : decode prog_3_method_3_code 19 = .ok (.iload_n 3, 1) := by decide +kernel
theorem d_Key_indexOf_20 : decode prog_3_method_3_code 20 = .ok (.if_icmp .ne (32), 3) := by decide +kernel
theorem d_Key_indexOf_23 : decode prog_3_method_3_code 23 = .ok (.aload_n 0, 1) := by decide +kernel
theorem d_Key_indexOf_24 : decode prog_3_method_3_code 24 = .ok (.getfield 20, 3) := by decide +kernel
theorem d_Key_indexOf_27 : decode prog_3_method_3_code 27 = .ok (.iload 5, 2) := by decide +kernel
theorem d_Key_indexOf_29 : decode prog_3_method_3_code 29 = .ok (.invokevirtual 37, 3) := by decide +kernel
theorem d_Key_indexOf_32 : decode prog_3_method_3_code 32 = .ok (.iload_n 2, 1) := by decide +kernel
theorem d_Key_indexOf_33 : decode prog_3_method_3_code 33 = .ok (.if_icmp .ne (19), 3) := by decide +kernel
theorem d_Key_indexOf_36 : decode prog_3_method_3_code 36 = .ok (.aload_n 0, 1) := by decide +kernel
theorem d_Key_indexOf_37 : decode prog_3_method_3_code 37 = .ok (.getfield 14, 3) := by decide +kernel
theorem d_Key_indexOf_40 : decode prog_3_method_3_code 40 = .ok (.iload 5, 2) := by decide +kernel
theorem d_Key_indexOf_42 : decode prog_3_method_3_code 42 = .ok (.invokevirtual 37, 3) := by decide +kernel
theorem d_Key_indexOf_45 : decode prog_3_method_3_code 45 = .ok (.iload_n 1, 1) := by decide +kernel
theorem d_Key_indexOf_46 : decode prog_3_method_3_code 46 = .ok (.if_icmp .ne (6), 3) := by decide +kernel
theorem d_Key_indexOf_49 : decode prog_3_method_3_code 49 = .ok (.iload 5, 2) := by decide +kernel
theorem d_Key_indexOf_51 : decode prog_3_method_3_code 51 = .ok (.ireturn, 1) := by decide +kernel
theorem d_Key_indexOf_52 : decode prog_3_method_3_code 52 = .ok (.iinc 5 (1), 3) := by decide +kernel
theorem d_Key_indexOf_55 : decode prog_3_method_3_code 55 = .ok (.goto (-52), 3) := by decide +kernel
theorem d_Key_indexOf_58 : decode prog_3_method_3_code 58 = .ok (.iconst (-1), 1) := by decide +kernel
theorem d_Key_indexOf_59 : decode prog_3_method_3_code 59 = .ok (.ireturn, 1) := by decide +kernel
theorem d_Key_write_0 : decode prog_3_method_2_code 0 = .ok (.aload_n 0, 1) := by decide +kernel
theorem d_Key_write_1 : decode prog_3_method_2_code 1 = .ok (.getfield 14, 3) := by decide +kernel
theorem d_Key_write_4 : decode prog_3_method_2_code 4 = .ok (.iload_n 1, 1) := by decide +kernel
theorem d_Key_write_5 : decode prog_3_method_2_code 5 = .ok (.iload_n 2, 1) := by decide +kernel
theorem d_Key_write_6 : decode prog_3_method_2_code 6 = .ok (.invokevirtual 33, 3) := by decide +kernel
theorem d_Key_write_9 : decode prog_3_method_2_code 9 = .ok (.aload_n 0, 1) := by decide +kernel
theorem d_Key_write_10 : decode prog_3_method_2_code 10 = .ok (.getfield 20, 3) := by decide +kernel
theorem d_Key_write_13 : decode prog_3_method_2_code 13 = .ok (.iload_n 1, 1) := by decide +kernel
theorem d_Key_write_14 : decode prog_3_method_2_code 14 = .ok (.iload_n 3, 1) := by decide +kernel
theorem d_Key_write_15 : decode prog_3_method_2_code 15 = .ok (.invokevirtual 33, 3) := by decide +kernel
theorem d_Key_write_18 : decode prog_3_method_2_code 18 = .ok (.aload_n 0, 1) := by decide +kernel
theorem d_Key_write_19 : decode prog_3_method_2_code 19 = .ok (.getfield 23, 3) := by decide +kernel
theorem d_Key_write_22 : decode prog_3_method_2_code 22 = .ok (.iload_n 1, 1) := by decide +kernel
theorem d_Key_write_23 : decode prog_3_method_2_code 23 = .ok (.iload 4, 2) := by decide +kernel
theorem d_Key_write_25 : decode prog_3_method_2_code 25 = .ok (.invokevirtual 33, 3) := by decide +kernel
theorem d_Key_write_28 : decode prog_3_method_2_code 28 = .ok (.return_, 1) := by decide +kernel
theorem d_Key_indexIfThere_0 : decode prog_3_method_4_code 0 = .ok (.aload_n 0, 1) := by decide +kernel
theorem d_Key_indexIfThere_1 : decode prog_3_method_4_code 1 = .ok (.iload_n 1, 1) := by decide +kernel
theorem d_Key_indexIfThere_2 : decode prog_3_method_4_code 2 = .ok (.iload_n 2, 1) := by decide +kernel
theorem d_Key_indexIfThere_3 : decode prog_3_method_4_code 3 = .ok (.iload_n 3, 1) := by decide +kernel
theorem d_Key_indexIfThere_4 : decode prog_3_method_4_code 4 = .ok (.iload 4, 2) := by decide +kernel
theorem d_Key_indexIfThere_6 : decode prog_3_method_4_code 6 = .ok (.invokevirtual 41, 3) := by decide +kernel
theorem d_Key_indexIfThere_9 : decode prog_3_method_4_code 9 = .ok (.istore 5, 2) := by decide +kernel
theorem d_Key_indexIfThere_11 : decode prog_3_method_4_code 11 = .ok (.iload 5, 2) := by decide +kernel
theorem d_Key_indexIfThere_13 : decode prog_3_method_4_code 13 = .ok (.iconst (-1), 1) := by decide +kernel
theorem d_Key_indexIfThere_14 : decode prog_3_method_4_code 14 = .ok (.if_icmp .eq (18), 3) := by decide +kernel
theorem d_Key_indexIfThere_17 : decode prog_3_method_4_code 17 = .ok (.aload_n 0, 1) := by decide +kernel
theorem d_Key_indexIfThere_18 : decode prog_3_method_4_code 18 = .ok (.iload 5, 2) := by decide +kernel
theorem d_Key_indexIfThere_20 : decode prog_3_method_4_code 20 = .ok (.iload_n 1, 1) := by decide +kernel
theorem d_Key_indexIfThere_21 : decode prog_3_method_4_code 21 = .ok (.invokevirtual 45, 3) := by decide +kernel
theorem d_Key_indexIfThere_24 : decode prog_3_method_4_code 24 = .ok (.ifCond .eq (8), 3) := by decide +kernel
theorem d_Key_indexIfThere_27 : decode prog_3_method_4_code 27 = .ok (.iload 5, 2) := by decide +kernel
theorem d_Key_indexIfThere_29 : decode prog_3_method_4_code 29 = .ok (.goto (4), 3) := by decide +kernel
theorem d_Key_indexIfThere_32 : decode prog_3_method_4_code 32 = .ok (.iconst (-1), 1) := by decide +kernel
theorem d_Key_indexIfThere_33 : decode prog_3_method_4_code 33 = .ok (.ireturn, 1) := by decide +kernel
theorem d_Key_isThere_0 : decode prog_3_method_7_code 0 = .ok (.aload_n 0, 1) := by decide +kernel
theorem d_Key_isThere_1 : decode prog_3_method_7_code 1 = .ok (.getfield 14, 3) := by decide +kernel
theorem d_Key_isThere_4 : decode prog_3_method_7_code 4 = .ok (.iload_n 1, 1) := by decide +kernel
theorem d_Key_isThere_5 : decode prog_3_method_7_code 5 = .ok (.invokevirtual 37, 3) := by decide +kernel
theorem d_Key_isThere_8 : decode prog_3_method_7_code 8 = .ok (.iload_n 2, 1) := by decide +kernel
theorem d_Key_isThere_9 : decode prog_3_method_7_code 9 = .ok (.if_icmp .ne (22), 3) := by decide +kernel
theorem d_Key_isThere_12 : decode prog_3_method_7_code 12 = .ok (.aload_n 0, 1) := by decide +kernel
theorem d_Key_isThere_13 : decode prog_3_method_7_code 13 = .ok (.getfield 29, 3) := by decide +kernel
theorem d_Key_isThere_16 : decode prog_3_method_7_code 16 = .ok (.getfield 49, 3) := by decide +kernel
theorem d_Key_isThere_19 : decode prog_3_method_7_code 19 = .ok (.iload_n 1, 1) := by decide +kernel
theorem d_Key_isThere_20 : decode prog_3_method_7_code 20 = .ok (.invokevirtual 37, 3) := by decide +kernel
theorem d_Key_isThere_23 : decode prog_3_method_7_code 23 = .ok (.iconst (-1), 1) := by decide +kernel
theorem d_Key_isThere_24 : decode prog_3_method_7_code 24 = .ok (.if_icmp .eq (7), 3) := by decide +kernel
theorem d_Key_isThere_27 : decode prog_3_method_7_code 27 = .ok (.iconst (1), 1) := by decide +kernel
theorem d_Key_isThere_28 : decode prog_3_method_7_code 28 = .ok (.goto (4), 3) := by decide +kernel
theorem d_Key_isThere_31 : decode prog_3_method_7_code 31 = .ok (.iconst (0), 1) := by decide +kernel
theorem d_Key_isThere_32 : decode prog_3_method_7_code 32 = .ok (.ireturn, 1) := by decide +kernel
theorem d_Key_howManyThere_0 : decode prog_3_method_6_code 0 = .ok (.iconst (0), 1) := by decide +kernel
theorem d_Key_howManyThere_1 : decode prog_3_method_6_code 1 = .ok (.istore_n 3, 1) := by decide +kernel
theorem d_Key_howManyThere_2 : decode prog_3_method_6_code 2 = .ok (.iconst (0), 1) := by decide +kernel
theorem d_Key_howManyThere_3 : decode prog_3_method_6_code 3 = .ok (.istore 4, 2) := by decide +kernel
theorem d_Key_howManyThere_5 : decode prog_3_method_6_code 5 = .ok (.iload 4, 2) := by decide +kernel
theorem d_Key_howManyThere_7 : decode prog_3_method_6_code 7 = .ok (.iload_n 2, 1) := by decide +kernel
theorem d_Key_howManyThere_8 : decode prog_3_method_6_code 8 = .ok (.if_icmp .ge (22), 3) := by decide +kernel
theorem d_Key_howManyThere_11 : decode prog_3_method_6_code 11 = .ok (.aload_n 0, 1) := by decide +kernel
theorem d_Key_howManyThere_12 : decode prog_3_method_6_code 12 = .ok (.iload 4, 2) := by decide +kernel
theorem d_Key_howManyThere_14 : decode prog_3_method_6_code 14 = .ok (.iload_n 1, 1) := by decide +kernel
theorem d_Key_howManyThere_15 : decode prog_3_method_6_code 15 = .ok (.invokevirtual 45, 3) := by decide +kernel
theorem d_Key_howManyThere_18 : decode prog_3_method_6_code 18 = .ok (.ifCond .eq (6), 3) := by decide +kernel
theorem d_Key_howManyThere_21 : decode prog_3_method_6_code 21 = .ok (.iinc 3 (1), 3) := by decide +kernel
theorem d_Key_howManyThere_24 : decode prog_3_method_6_code 24 = .ok (.iinc 4 (1), 3) := by decide +kernel
theorem d_Key_howManyThere_27 : decode prog_3_method_6_code 27 = .ok (.goto (-22), 3) := by decide +kernel
theorem d_Key_howManyThere_30 : decode prog_3_method_6_code 30 = .ok (.iload_n 3, 1) := by decide +kernel
theorem d_Key_howManyThere_31 : decode prog_3_method_6_code 31 = .ok (.ireturn, 1) := by decide +kernel
theorem d_Key_firstThere_0 : decode prog_3_method_5_code 0 = .ok (.iload_n 2, 1) := by decide +kernel
theorem d_Key_firstThere_1 : decode prog_3_method_5_code 1 = .ok (.istore 4, 2) := by decide +kernel
theorem d_Key_firstThere_3 : decode prog_3_method_5_code 3 = .ok (.iload 4, 2) := by decide +kernel
theorem d_Key_firstThere_5 : decode prog_3_method_5_code 5 = .ok (.iload_n 3, 1) := by decide +kernel
theorem d_Key_firstThere_6 : decode prog_3_method_5_code 6 = .ok (.if_icmp .ge (22), 3) := by decide +kernel
theorem d_Key_firstThere_9 : decode prog_3_method_5_code 9 = .ok (.aload_n 0, 1) := by decide +kernel
theorem d_Key_firstThere_10 : decode prog_3_method_5_code 10 = .ok (.iload 4, 2) := by decide +kernel
theorem d_Key_firstThere_12 : decode prog_3_method_5_code 12 = .ok (.iload_n 1, 1) := by decide +kernel
theorem d_Key_firstThere_13 : decode prog_3_method_5_code 13 = .ok (.invokevirtual 45, 3) := by decide +kernel
theorem d_Key_firstThere_16 : decode prog_3_method_5_code 16 = .ok (.ifCond .eq (6), 3) := by decide +kernel
theorem d_Key_firstThere_19 : decode prog_3_method_5_code 19 = .ok (.iload 4, 2) := by decide +kernel
theorem d_Key_firstThere_21 : decode prog_3_method_5_code 21 = .ok (.ireturn, 1) := by decide +kernel
theorem d_Key_firstThere_22 : decode prog_3_method_5_code 22 = .ok (.iinc 4 (1), 3) := by decide +kernel
theorem d_Key_firstThere_25 : decode prog_3_method_5_code 25 = .ok (.goto (-22), 3) := by decide +kernel
theorem d_Key_firstThere_28 : decode prog_3_method_5_code 28 = .ok (.iconst (-1), 1) := by decide +kernel
theorem d_Key_firstThere_29 : decode prog_3_method_5_code 29 = .ok (.ireturn, 1) := by decide +kernel
end
section
theorem d_PS_init_0 : decode prog_1_method_1_code 0 = .ok (.aload_n 0, 1) := by decide +kernel
theorem d_PS_init_1 : decode prog_1_method_1_code 1 = .ok (.invokespecial 1, 3) := by decide +kernel
theorem d_PS_init_4 : decode prog_1_method_1_code 4 = .ok (.aload_n 0, 1) := by decide +kernel
theorem d_PS_init_5 : decode prog_1_method_1_code 5 = .ok (.bipush (6), 2) := by decide +kernel
theorem d_PS_init_7 : decode prog_1_method_1_code 7 = .ok (.newarray .int, 2) := by decide +kernel
theorem d_PS_init_9 : decode prog_1_method_1_code 9 = .ok (.putfield 9, 3) := by decide +kernel
theorem d_PS_init_12 : decode prog_1_method_1_code 12 = .ok (.aload_n 0, 1) := by decide +kernel
theorem d_PS_init_13 : decode prog_1_method_1_code 13 = .ok (.new 13, 3) := by decide +kernel
theorem d_PS_init_16 : decode prog_1_method_1_code 16 = .ok (.dup, 1) := by decide +kernel
theorem d_PS_init_17 : decode prog_1_method_1_code 17 = .ok (.bipush (90), 2) := by decide +kernel
theorem d_PS_init_19 : decode prog_1_method_1_code 19 = .ok (.invokespecial 15, 3) := by decide +kernel
theorem d_PS_init_22 : decode prog_1_method_1_code 22 = .ok (.putfield 18, 3) := by decide +kernel
theorem d_PS_init_25 : decode prog_1_method_1_code 25 = .ok (.aload_n 0, 1) := by decide +kernel
theorem d_PS_init_26 : decode prog_1_method_1_code 26 = .ok (.new 22, 3) := by decide +kernel
theorem d_PS_init_29 : decode prog_1_method_1_code 29 = .ok (.dup, 1) := by decide +kernel
theorem d_PS_init_30 : decode prog_1_method_1_code 30 = .ok (.invokespecial 24, 3) := by decide +kernel
theorem d_PS_init_33 : decode prog_1_method_1_code 33 = .ok (.putfield 25, 3) := by decide +kernel
theorem d_PS_init_36 : decode prog_1_method_1_code 36 = .ok (.aload_n 0, 1) := by decide +kernel
theorem d_PS_init_37 : decode prog_1_method_1_code 37 = .ok (.new 29, 3) := by decide +kernel
theorem d_PS_init_40 : decode prog_1_method_1_code 40 = .ok (.dup, 1) := by decide +kernel
theorem d_PS_init_41 : decode prog_1_method_1_code 41 = .ok (.ldc 31, 2) := by decide +kernel
theorem d_PS_init_43 : decode prog_1_method_1_code 43 = .ok (.invokespecial 32, 3) := by decide +kernel
theorem d_PS_init_46 : decode prog_1_method_1_code 46 = .ok (.putfield 33, 3) := by decide +kernel
theorem d_PS_init_49 : decode prog_1_method_1_code 49 = .ok (.aload_n 0, 1) := by decide +kernel
theorem d_PS_init_50 : decode prog_1_method_1_code 50 = .ok (.new 13, 3) := by decide +kernel
theorem d_PS_init_53 : decode prog_1_method_1_code 53 = .ok (.dup, 1) := by decide +kernel
theorem d_PS_init_54 : decode prog_1_method_1_code 54 = .ok (.ldc 37, 2) := by decide +kernel
theorem d_PS_init_56 : decode prog_1_method_1_code 56 = .ok (.invokespecial 15, 3) := by decide +kernel
theorem d_PS_init_59 : decode prog_1_method_1_code 59 = .ok (.putfield 38, 3) := by decide +kernel
theorem d_PS_init_62 : decode prog_1_method_1_code 62 = .ok (.aload_n 0, 1) := by decide +kernel
theorem d_PS_init_63 : decode prog_1_method_1_code 63 = .ok (.new 41, 3) := by decide +kernel
theorem d_PS_init_66 : decode prog_1_method_1_code 66 = .ok (.dup, 1) := by decide +kernel
theorem d_PS_init_67 : decode prog_1_method_1_code 67 = .ok (.invokespecial 43, 3) := by decide +kernel
theorem d_PS_init_70 : decode prog_1_method_1_code 70 = .ok (.putfield 44, 3) := by decide +kernel
theorem d_PS_init_73 : decode prog_1_method_1_code 73 = .ok (.aload_n 0, 1) := by decide +kernel
theorem d_PS_init_74 : decode prog_1_method_1_code 74 = .ok (.new 48, 3) := by decide +kernel
theorem d_PS_init_77 : decode prog_1_method_1_code 77 = .ok (.dup, 1) := by decide +kernel
theorem d_PS_init_78 : decode prog_1_method_1_code 78 = .ok (.invokespecial 50, 3) := by decide +kernel
theorem d_PS_init_81 : decode prog_1_method_1_code 81 = .ok (.putfield 51, 3) := by decide +kernel
theorem d_PS_init_84 : decode prog_1_method_1_code 84 = .ok (.return_, 1) := by decide +kernel
theorem d_PS_values_0 : decode prog_1_method_2_code 0 = .ok (.iload_n 1, 1) := by decide +kernel
theorem d_PS_values_1 : decode prog_1_method_2_code 1 = .ok (.ifCond .lt (9), 3) := by decide +kernel
theorem d_PS_values_4 : decode prog_1_method_2_code 4 = .ok (.iload_n 1, 1) := by decide +kernel
theorem d_PS_values_5 : decode prog_1_method_2_code 5 = .ok (.ldc 31, 2) := by decide +kernel
theorem d_PS_values_7 : decode prog_1_method_2_code 7 = .ok (.if_icmp .le (5), 3) := by decide +kernel
theorem d_PS_values_10 : decode prog_1_method_2_code 10 = .ok (.iconst (-1), 1) := by decide +kernel
theorem d_PS_values_11 : decode prog_1_method_2_code 11 = .ok (.ireturn, 1) := by decide +kernel
theorem d_PS_values_12 : decode prog_1_method_2_code 12 = .ok (.aload_n 0, 1) := by decide +kernel
theorem d_PS_values_13 : decode prog_1_method_2_code 13 = .ok (.getfield 9, 3) := by decide +kernel
theorem d_PS_values_16 : decode prog_1_method_2_code 16 = .ok (.iconst (1), 1) := by decide +kernel
theorem d_PS_values_17 : decode prog_1_method_2_code 17 = .ok (.iaload, 1) := by decide +kernel
theorem d_PS_values_18 : decode prog_1_method_2_code 18 = .ok (.istore_n 2, 1) := by decide +kernel
theorem d_PS_values_19 : decode prog_1_method_2_code 19 = .ok (.aload_n 0, 1) := by decide +kernel
theorem d_PS_values_20 : decode prog_1_method_2_code 20 = .ok (.invokevirtual 55, 3) := by decide +kernel
theorem d_PS_values_23 : decode prog_1_method_2_code 23 = .ok (.ifCond .ne (11), 3) := by decide +kernel
theorem d_PS_values_26 : decode prog_1_method_2_code 26 = .ok (.iload_n 1, 1) := by decide +kernel
theorem d_PS_values_27 : decode prog_1_method_2_code 27 = .ok (.ldc 31, 2) := by decide +kernel
theorem d_PS_values_29 : decode prog_1_method_2_code 29 = .ok (.iload_n 2, 1) := by decide +kernel
theorem d_PS_values_30 : decode prog_1_method_2_code 30 = .ok (.isub, 1) := by decide +kernel
theorem d_PS_values_31 : decode prog_1_method_2_code 31 = .ok (.if_icmp .le (6), 3) := by decide +kernel
theorem d_PS_values_34 : decode prog_1_method_2_code 34 = .ok (.bipush (-3), 2) := by decide +kernel
theorem d_PS_values_36 : decode prog_1_method_2_code 36 = .ok (.ireturn, 1) := by decide +kernel
theorem d_PS_values_37 : decode prog_1_method_2_code 37 = .ok (.aload_n 0, 1) := by decide +kernel
theorem d_PS_values_38 : decode prog_1_method_2_code 38 = .ok (.getfield 33, 3) := by decide +kernel
theorem d_PS_values_41 : decode prog_1_method_2_code 41 = .ok (.iload_n 2, 1) := by decide +kernel
theorem d_PS_values_42 : decode prog_1_method_2_code 42 = .ok (.iload_n 2, 1) := by decide +kernel
theorem d_PS_values_43 : decode prog_1_method_2_code 43 = .ok (.iload_n 1, 1) := by decide +kernel
theorem d_PS_values_44 : decode prog_1_method_2_code 44 = .ok (.iadd, 1) := by decide +kernel
theorem d_PS_values_45 : decode prog_1_method_2_code 45 = .ok (.invokevirtual 59, 3) := by decide +kernel
theorem d_PS_values_48 : decode prog_1_method_2_code 48 = .ok (.aload_n 0, 1) := by decide +kernel
theorem d_PS_values_49 : decode prog_1_method_2_code 49 = .ok (.getfield 9, 3) := by decide +kernel
theorem d_PS_values_52 : decode prog_1_method_2_code 52 = .ok (.iconst (1), 1) := by decide +kernel
theorem d_PS_values_53 : decode prog_1_method_2_code 53 = .ok (.iload_n 2, 1) := by decide +kernel
theorem d_PS_values_54 : decode prog_1_method_2_code 54 = .ok (.iload_n 1, 1) := by decide +kernel
theorem d_PS_values_55 : decode prog_1_method_2_code 55 = .ok (.iadd, 1) := by decide +kernel
theorem d_PS_values_56 : decode prog_1_method_2_code 56 = .ok (.iastore, 1) := by decide +kernel
theorem d_PS_values_57 : decode prog_1_method_2_code 57 = .ok (.aload_n 0, 1) := by decide +kernel
theorem d_PS_values_58 : decode prog_1_method_2_code 58 = .ok (.iconst (1), 1) := by decide +kernel
theorem d_PS_values_59 : decode prog_1_method_2_code 59 = .ok (.iload_n 2, 1) := by decide +kernel
theorem d_PS_values_60 : decode prog_1_method_2_code 60 = .ok (.iload_n 1, 1) := by decide +kernel
theorem d_PS_values_61 : decode prog_1_method_2_code 61 = .ok (.invokevirtual 63, 3) := by decide +kernel
theorem d_PS_values_64 : decode prog_1_method_2_code 64 = .ok (.ireturn, 1) := by decide +kernel
theorem d_PS_noRowLeft_0 : decode prog_1_method_28_code 0 = .ok (.aload_n 0, 1) := by decide +kernel
theorem d_PS_noRowLeft_1 : decode prog_1_method_28_code 1 = .ok (.getfield 9, 3) := by decide +kernel
theorem d_PS_noRowLeft_4 : decode prog_1_method_28_code 4 = .ok (.iconst (0), 1) := by decide +kernel
theorem d_PS_noRowLeft_5 : decode prog_1_method_28_code 5 = .ok (.iaload, 1) := by decide +kernel
theorem d_PS_noRowLeft_6 : decode prog_1_method_28_code 6 = .ok (.sipush (16384), 3) := by decide +kernel
theorem d_PS_noRowLeft_9 : decode prog_1_method_28_code 9 = .ok (.if_icmp .lt (7), 3) := by decide +kernel
theorem d_PS_noRowLeft_12 : decode prog_1_method_28_code 12 = .ok (.iconst (1), 1) := by decide +kernel
theorem d_PS_noRowLeft_13 : decode prog_1_method_28_code 13 = .ok (.goto (4), 3) := by decide +kernel
theorem d_PS_noRowLeft_16 : decode prog_1_method_28_code 16 = .ok (.iconst (0), 1) := by decide +kernel
theorem d_PS_noRowLeft_17 : decode prog_1_method_28_code 17 = .ok (.ireturn, 1) := by decide +kernel
theorem d_PS_addRow_0 : decode prog_1_method_29_code 0 = .ok (.aload_n 0, 1) := by decide +kernel
theorem d_PS_addRow_1 : decode prog_1_method_29_code 1 = .ok (.getfield 9, 3) := by decide +kernel
theorem d_PS_addRow_4 : decode prog_1_method_29_code 4 = .ok (.iconst (0), 1) := by decide +kernel
theorem d_PS_addRow_5 : decode prog_1_method_29_code 5 = .ok (.dup2, 1) := by decide +kernel
theorem d_PS_addRow_6 : decode prog_1_method_29_code 6 = .ok (.iaload, 1) := by decide +kernel
theorem d_PS_addRow_7 : decode prog_1_method_29_code 7 = .ok (.iconst (1), 1) := by decide +kernel
theorem d_PS_addRow_8 : decode prog_1_method_29_code 8 = .ok (.iadd, 1) := by decide +kernel
theorem d_PS_addRow_9 : decode prog_1_method_29_code 9 = .ok (.iastore, 1) := by decide +kernel
theorem d_PS_addRow_10 : decode prog_1_method_29_code 10 = .ok (.aload_n 0, 1) := by decide +kernel
theorem d_PS_addRow_11 : decode prog_1_method_29_code 11 = .ok (.getfield 25, 3) := by decide +kernel
theorem d_PS_addRow_14 : decode prog_1_method_29_code 14 = .ok (.aload_n 0, 1) := by decide +kernel
theorem d_PS_addRow_15 : decode prog_1_method_29_code 15 = .ok (.getfield 9, 3) := by decide +kernel
theorem d_PS_addRow_18 : decode prog_1_method_29_code 18 = .ok (.iconst (0), 1) := by decide +kernel
theorem d_PS_addRow_19 : decode prog_1_method_29_code 19 = .ok (.iaload, 1) := by decide +kernel
theorem d_PS_addRow_20 : decode prog_1_method_29_code 20 = .ok (.iload_n 1, 1) := by decide +kernel
theorem d_PS_addRow_21 : decode prog_1_method_29_code 21 = .ok (.iload_n 2, 1) := by decide +kernel
theorem d_PS_addRow_22 : decode prog_1_method_29_code 22 = .ok (.iload_n 3, 1) := by decide +kernel
theorem d_PS_addRow_23 : decode prog_1_method_29_code 23 = .ok (.invokevirtual 157, 3) := by decide +kernel
theorem d_PS_addRow_26 : decode prog_1_method_29_code 26 = .ok (.aload_n 0, 1) := by decide +kernel
theorem d_PS_addRow_27 : decode prog_1_method_29_code 27 = .ok (.getfield 9, 3) := by decide +kernel
theorem d_PS_addRow_30 : decode prog_1_method_29_code 30 = .ok (.iconst (0), 1) := by decide +kernel
theorem d_PS_addRow_31 : decode prog_1_method_29_code 31 = .ok (.iaload, 1) := by decide +kernel
theorem d_PS_addRow_32 : decode prog_1_method_29_code 32 = .ok (.ireturn, 1) := by decide +kernel
theorem d_PS_bytes_0 : decode prog_1_method_3_code 0 = .ok (.iload_n 1, 1) := by decide +kernel
theorem d_PS_bytes_1 : decode prog_1_method_3_code 1 = .ok (.ifCond .lt (9), 3) := by decide +kernel
theorem d_PS_bytes_4 : decode prog_1_method_3_code 4 = .ok (.iload_n 1, 1) := by decide +kernel
theorem d_PS_bytes_5 : decode prog_1_method_3_code 5 = .ok (.ldc 37, 2) := by decide +kernel
theorem d_PS_bytes_7 : decode prog_1_method_3_code 7 = .ok (.if_icmp .le (5), 3) := by decide +kernel
theorem d_PS_bytes_10 : decode prog_1_method_3_code 10 = .ok (.iconst (-1), 1) := by decide +kernel
theorem d_PS_bytes_11 : decode prog_1_method_3_code 11 = .ok (.ireturn, 1) := by decide +kernel
theorem d_PS_bytes_12 : decode prog_1_method_3_code 12 = .ok (.aload_n 0, 1) := by decide +kernel
theorem d_PS_bytes_13 : decode prog_1_method_3_code 13 = .ok (.getfield 9, 3) := by decide +kernel
theorem d_PS_bytes_16 : decode prog_1_method_3_code 16 = .ok (.iconst (2), 1) := by decide +kernel
theorem d_PS_bytes_17 : decode prog_1_method_3_code 17 = .ok (.iaload, 1) := by decide +kernel
theorem d_PS_bytes_18 : decode prog_1_method_3_code 18 = .ok (.istore_n 2, 1) := by decide +kernel
theorem d_PS_bytes_19 : decode prog_1_method_3_code 19 = .ok (.aload_n 0, 1) := by decide +kernel
theorem d_PS_bytes_20 : decode prog_1_method_3_code 20 = .ok (.invokevirtual 55, 3) := by decide +kernel
theorem d_PS_bytes_23 : decode prog_1_method_3_code 23 = .ok (.ifCond .ne (11), 3) := by decide +kernel
theorem d_PS_bytes_26 : decode prog_1_method_3_code 26 = .ok (.iload_n 1, 1) := by decide +kernel
theorem d_PS_bytes_27 : decode prog_1_method_3_code 27 = .ok (.ldc 37, 2) := by decide +kernel
theorem d_PS_bytes_29 : decode prog_1_method_3_code 29 = .ok (.iload_n 2, 1) := by decide +kernel
theorem d_PS_bytes_30 : decode prog_1_method_3_code 30 = .ok (.isub, 1) := by decide +kernel
theorem d_PS_bytes_31 : decode prog_1_method_3_code 31 = .ok (.if_icmp .le (6), 3) := by decide +kernel
theorem d_PS_bytes_34 : decode prog_1_method_3_code 34 = .ok (.bipush (-3), 2) := by decide +kernel
theorem d_PS_bytes_36 : decode prog_1_method_3_code 36 = .ok (.ireturn, 1) := by decide +kernel
theorem d_PS_bytes_37 : decode prog_1_method_3_code 37 = .ok (.aload_n 0, 1) := by decide +kernel
theorem d_PS_bytes_38 : decode prog_1_method_3_code 38 = .ok (.getfield 38, 3) := by decide +kernel
theorem d_PS_bytes_41 : decode prog_1_method_3_code 41 = .ok (.iload_n 2, 1) := by decide +kernel
theorem d_PS_bytes_42 : decode prog_1_method_3_code 42 = .ok (.iload_n 2, 1) := by decide +kernel
theorem d_PS_bytes_43 : decode prog_1_method_3_code 43 = .ok (.iload_n 1, 1) := by decide +kernel
theorem d_PS_bytes_44 : decode prog_1_method_3_code 44 = .ok (.iadd, 1) := by decide +kernel
theorem d_PS_bytes_45 : decode prog_1_method_3_code 45 = .ok (.invokevirtual 67, 3) := by decide +kernel
theorem d_PS_bytes_48 : decode prog_1_method_3_code 48 = .ok (.aload_n 0, 1) := by decide +kernel
theorem d_PS_bytes_49 : decode prog_1_method_3_code 49 = .ok (.getfield 9, 3) := by decide +kernel
theorem d_PS_bytes_52 : decode prog_1_method_3_code 52 = .ok (.iconst (2), 1) := by decide +kernel
theorem d_PS_bytes_53 : decode prog_1_method_3_code 53 = .ok (.iload_n 2, 1) := by decide +kernel
theorem d_PS_bytes_54 : decode prog_1_method_3_code 54 = .ok (.iload_n 1, 1) := by decide +kernel
theorem d_PS_bytes_55 : decode prog_1_method_3_code 55 = .ok (.iadd, 1) := by decide +kernel
theorem d_PS_bytes_56 : decode prog_1_method_3_code 56 = .ok (.iastore, 1) := by decide +kernel
theorem d_PS_bytes_57 : decode prog_1_method_3_code 57 = .ok (.aload_n 0, 1) := by decide +kernel
theorem d_PS_bytes_58 : decode prog_1_method_3_code 58 = .ok (.iconst (2), 1) := by decide +kernel
theorem d_PS_bytes_59 : decode prog_1_method_3_code 59 = .ok (.iload_n 2, 1) := by decide +kernel
theorem d_PS_bytes_60 : decode prog_1_method_3_code 60 = .ok (.iload_n 1, 1) := by decide +kernel
theorem d_PS_bytes_61 : decode prog_1_method_3_code 61 = .ok (.invokevirtual 63, 3) := by decide +kernel
theorem d_PS_bytes_64 : decode prog_1_method_3_code 64 = .ok (.ireturn, 1) := by decide +kernel
theorem d_PS_part_0 : decode prog_1_method_4_code 0 = .ok (.aload_n 0, 1) := by decide +kernel
theorem d_PS_part_1 : decode prog_1_method_4_code 1 = .ok (.iload_n 1, 1) := by decide +kernel
theorem d_PS_part_2 : decode prog_1_method_4_code 2 = .ok (.invokevirtual 68, 3) := by decide +kernel
theorem d_PS_part_5 : decode prog_1_method_4_code 5 = .ok (.ifCond .eq (11), 3) := by decide +kernel
theorem d_PS_part_8 : decode prog_1_method_4_code 8 = .ok (.iload_n 2, 1) := by decide +kernel
theorem d_PS_part_9 : decode prog_1_method_4_code 9 = .ok (.ifCond .lt (7), 3) := by decide +kernel
theorem d_PS_part_12 : decode prog_1_method_4_code 12 = .ok (.iload_n 3, 1) := by decide +kernel
theorem d_PS_part_13 : decode prog_1_method_4_code 13 = .ok (.ifCond .ge (5), 3) := by decide +kernel
theorem d_PS_part_16 : decode prog_1_method_4_code 16 = .ok (.iconst (-1), 1) := by decide +kernel
theorem d_PS_part_17 : decode prog_1_method_4_code 17 = .ok (.ireturn, 1) := by decide +kernel
theorem d_PS_part_18 : decode prog_1_method_4_code 18 = .ok (.iload_n 2, 1) := by decide +kernel
theorem d_PS_part_19 : decode prog_1_method_4_code 19 = .ok (.aload_n 0, 1) := by decide +kernel
theorem d_PS_part_20 : decode prog_1_method_4_code 20 = .ok (.getfield 25, 3) := by decide +kernel
theorem d_PS_part_23 : decode prog_1_method_4_code 23 = .ok (.getfield 72, 3) := by decide +kernel
theorem d_PS_part_26 : decode prog_1_method_4_code 26 = .ok (.iload_n 1, 1) := by decide +kernel
theorem d_PS_part_27 : decode prog_1_method_4_code 27 = .ok (.invokevirtual 75, 3) := by decide +kernel
theorem d_PS_part_30 : decode prog_1_method_4_code 30 = .ok (.iload_n 3, 1) := by decide +kernel
theorem d_PS_part_31 : decode prog_1_method_4_code 31 = .ok (.isub, 1) := by decide +kernel
theorem d_PS_part_32 : decode prog_1_method_4_code 32 = .ok (.if_icmp .le (5), 3) := by decide +kernel
theorem d_PS_part_35 : decode prog_1_method_4_code 35 = .ok (.iconst (-1), 1) := by decide +kernel
theorem d_PS_part_36 : decode prog_1_method_4_code 36 = .ok (.ireturn, 1) := by decide +kernel
theorem d_PS_part_37 : decode prog_1_method_4_code 37 = .ok (.aload_n 0, 1) := by decide +kernel
theorem d_PS_part_38 : decode prog_1_method_4_code 38 = .ok (.invokevirtual 55, 3) := by decide +kernel
theorem d_PS_part_41 : decode prog_1_method_4_code 41 = .ok (.ifCond .eq (6), 3) := by decide +kernel
theorem d_PS_part_44 : decode prog_1_method_4_code 44 = .ok (.bipush (-3), 2) := by decide +kernel
theorem d_PS_part_46 : decode prog_1_method_4_code 46 = .ok (.ireturn, 1) := by decide +kernel
theorem d_PS_part_47 : decode prog_1_method_4_code 47 = .ok (.aload_n 0, 1) := by decide +kernel
theorem d_PS_part_48 : decode prog_1_method_4_code 48 = .ok (.aload_n 0, 1) := by decide +kernel
theorem d_PS_part_49 : decode prog_1_method_4_code 49 = .ok (.getfield 25, 3) := by decide +kernel
theorem d_PS_part_52 : decode prog_1_method_4_code 52 = .ok (.getfield 79, 3) := by decide +kernel
theorem d_PS_part_55 : decode prog_1_method_4_code 55 = .ok (.iload_n 1, 1) := by decide +kernel
theorem d_PS_part_56 : decode prog_1_method_4_code 56 = .ok (.invokevirtual 75, 3) := by decide +kernel
theorem d_PS_part_59 : decode prog_1_method_4_code 59 = .ok (.aload_n 0, 1) := by decide +kernel
theorem d_PS_part_60 : decode prog_1_method_4_code 60 = .ok (.getfield 25, 3) := by decide +kernel
theorem d_PS_part_63 : decode prog_1_method_4_code 63 = .ok (.getfield 82, 3) := by decide +kernel
theorem d_PS_part_66 : decode prog_1_method_4_code 66 = .ok (.iload_n 1, 1) := by decide +kernel
theorem d_PS_part_67 : decode prog_1_method_4_code 67 = .ok (.invokevirtual 75, 3) := by decide +kernel
theorem d_PS_part_70 : decode prog_1_method_4_code 70 = .ok (.iload_n 2, 1) := by decide +kernel
theorem d_PS_part_71 : decode prog_1_method_4_code 71 = .ok (.iadd, 1) := by decide +kernel
theorem d_PS_part_72 : decode prog_1_method_4_code 72 = .ok (.iload_n 3, 1) := by decide +kernel
theorem d_PS_part_73 : decode prog_1_method_4_code 73 = .ok (.invokevirtual 63, 3) := by decide +kernel
theorem d_PS_part_76 : decode prog_1_method_4_code 76 = .ok (.ireturn, 1) := by decide +kernel
theorem d_PS_isRow_0 : decode prog_1_method_24_code 0 = .ok (.iload_n 1, 1) := by decide +kernel
theorem d_PS_isRow_1 : decode prog_1_method_24_code 1 = .ok (.iconst (1), 1) := by decide +kernel
theorem d_PS_isRow_2 : decode prog_1_method_24_code 2 = .ok (.if_icmp .lt (17), 3) := by decide +kernel
theorem d_PS_isRow_5 : decode prog_1_method_24_code 5 = .ok (.iload_n 1, 1) := by decide +kernel
theorem d_PS_isRow_6 : decode prog_1_method_24_code 6 = .ok (.aload_n 0, 1) := by decide +kernel
theorem d_PS_isRow_7 : decode prog_1_method_24_code 7 = .ok (.getfield 9, 3) := by decide +kernel
theorem d_PS_isRow_10 : decode prog_1_method_24_code 10 = .ok (.iconst (0), 1) := by decide +kernel
theorem d_PS_isRow_11 : decode prog_1_method_24_code 11 = .ok (.iaload, 1) := by decide +kernel
theorem d_PS_isRow_12 : decode prog_1_method_24_code 12 = .ok (.if_icmp .gt (7), 3) := by decide +kernel
theorem d_PS_isRow_15 : decode prog_1_method_24_code 15 = .ok (.iconst (1), 1) := by decide +kernel
theorem d_PS_isRow_16 : decode prog_1_method_24_code 16 = .ok (.goto (4), 3) := by decide +kernel
theorem d_PS_isRow_19 : decode prog_1_method_24_code 19 = .ok (.iconst (0), 1) := by decide +kernel
theorem d_PS_isRow_20 : decode prog_1_method_24_code 20 = .ok (.ireturn, 1) := by decide +kernel
theorem d_PS_sort_0 : decode prog_1_method_5_code 0 = .ok (.aload_n 0, 1) := by decide +kernel
theorem d_PS_sort_1 : decode prog_1_method_5_code 1 = .ok (.iload_n 1, 1) := by decide +kernel
theorem d_PS_sort_2 : decode prog_1_method_5_code 2 = .ok (.invokevirtual 68, 3) := by decide +kernel
theorem d_PS_sort_5 : decode prog_1_method_5_code 5 = .ok (.ifCond .eq (17), 3) := by decide +kernel
theorem d_PS_sort_8 : decode prog_1_method_5_code 8 = .ok (.aload_n 0, 1) := by decide +kernel
theorem d_PS_sort_9 : decode prog_1_method_5_code 9 = .ok (.getfield 25, 3) := by decide +kernel
theorem d_PS_sort_12 : decode prog_1_method_5_code 12 = .ok (.getfield 79, 3) := by decide +kernel
theorem d_PS_sort_15 : decode prog_1_method_5_code 15 = .ok (.iload_n 1, 1) := by decide +kernel
theorem d_PS_sort_16 : decode prog_1_method_5_code 16 = .ok (.invokevirtual 75, 3) := by decide +kernel
theorem d_PS_sort_19 : decode prog_1_method_5_code 19 = .ok (.goto (4), 3) := by decide +kernel
theorem d_PS_sort_22 : decode prog_1_method_5_code 22 = .ok (.iconst (-1), 1) := by decide +kernel
theorem d_PS_sort_23 : decode prog_1_method_5_code 23 = .ok (.ireturn, 1) := by decide +kernel
theorem d_PS_length_0 : decode prog_1_method_6_code 0 = .ok (.aload_n 0, 1) := by decide +kernel
theorem d_PS_length_1 : decode prog_1_method_6_code 1 = .ok (.iload_n 1, 1) := by decide +kernel
theorem d_PS_length_2 : decode prog_1_method_6_code 2 = .ok (.invokevirtual 68, 3) := by decide +kernel
theorem d_PS_length_5 : decode prog_1_method_6_code 5 = .ok (.ifCond .eq (17), 3) := by decide +kernel
theorem d_PS_length_8 : decode prog_1_method_6_code 8 = .ok (.aload_n 0, 1) := by decide +kernel
theorem d_PS_length_9 : decode prog_1_method_6_code 9 = .ok (.getfield 25, 3) := by decide +kernel
theorem d_PS_length_12 : decode prog_1_method_6_code 12 = .ok (.getfield 72, 3) := by decide +kernel
theorem d_PS_length_15 : decode prog_1_method_6_code 15 = .ok (.iload_n 1, 1) := by decide +kernel
theorem d_PS_length_16 : decode prog_1_method_6_code 16 = .ok (.invokevirtual 75, 3) := by decide +kernel
theorem d_PS_length_19 : decode prog_1_method_6_code 19 = .ok (.goto (4), 3) := by decide +kernel
theorem d_PS_length_22 : decode prog_1_method_6_code 22 = .ok (.iconst (-1), 1) := by decide +kernel
theorem d_PS_length_23 : decode prog_1_method_6_code 23 = .ok (.ireturn, 1) := by decide +kernel
theorem d_PS_set_0 : decode prog_1_method_7_code 0 = .ok (.aload_n 0, 1) := by decide +kernel
theorem d_PS_set_1 : decode prog_1_method_7_code 1 = .ok (.iconst (1), 1) := by decide +kernel
theorem d_PS_set_2 : decode prog_1_method_7_code 2 = .ok (.iload_n 1, 1) := by decide +kernel
theorem d_PS_set_3 : decode prog_1_method_7_code 3 = .ok (.iload_n 2, 1) := by decide +kernel
theorem d_PS_set_4 : decode prog_1_method_7_code 4 = .ok (.invokevirtual 85, 3) := by decide +kernel
theorem d_PS_set_7 : decode prog_1_method_7_code 7 = .ok (.istore 5, 2) := by decide +kernel
theorem d_PS_set_9 : decode prog_1_method_7_code 9 = .ok (.iload 5, 2) := by decide +kernel
theorem d_PS_set_11 : decode prog_1_method_7_code 11 = .ok (.iconst (-1), 1) := by decide +kernel
theorem d_PS_set_12 : decode prog_1_method_7_code 12 = .ok (.if_icmp .eq (11), 3) := by decide +kernel
theorem d_PS_set_15 : decode prog_1_method_7_code 15 = .ok (.iload_n 3, 1) := by decide +kernel
theorem d_PS_set_16 : decode prog_1_method_7_code 16 = .ok (.iconst (0), 1) := by decide +kernel
theorem d_PS_set_17 : decode prog_1_method_7_code 17 = .ok (.invokestatic 88, 3) := by decide +kernel
theorem d_PS_set_20 : decode prog_1_method_7_code 20 = .ok (.ifCond .ne (5), 3) := by decide +kernel
theorem d_PS_set_23 : decode prog_1_method_7_code 23 = .ok (.iconst (-1), 1) := by decide +kernel
theorem d_PS_set_24 : decode prog_1_method_7_code 24 = .ok (.ireturn, 1) := by decide +kernel
theorem d_PS_set_25 : decode prog_1_method_7_code 25 = .ok (.aload_n 0, 1) := by decide +kernel
theorem d_PS_set_26 : decode prog_1_method_7_code 26 = .ok (.iconst (1), 1) := by decide +kernel
theorem d_PS_set_27 : decode prog_1_method_7_code 27 = .ok (.iload 5, 2) := by decide +kernel
theorem d_PS_set_29 : decode prog_1_method_7_code 29 = .ok (.invokevirtual 92, 3) := by decide +kernel
theorem d_PS_set_32 : decode prog_1_method_7_code 32 = .ok (.ifCond .ne (6), 3) := by decide +kernel
theorem d_PS_set_35 : decode prog_1_method_7_code 35 = .ok (.bipush (-3), 2) := by decide +kernel
theorem d_PS_set_37 : decode prog_1_method_7_code 37 = .ok (.ireturn, 1) := by decide +kernel
theorem d_PS_set_38 : decode prog_1_method_7_code 38 = .ok (.aload_n 0, 1) := by decide +kernel
theorem d_PS_set_39 : decode prog_1_method_7_code 39 = .ok (.getfield 33, 3) := by decide +kernel
theorem d_PS_set_42 : decode prog_1_method_7_code 42 = .ok (.iload 5, 2) := by decide +kernel
theorem d_PS_set_44 : decode prog_1_method_7_code 44 = .ok (.iload_n 3, 1) := by decide +kernel
theorem d_PS_set_45 : decode prog_1_method_7_code 45 = .ok (.iload 4, 2) := by decide +kernel
theorem d_PS_set_47 : decode prog_1_method_7_code 47 = .ok (.invokevirtual 95, 3) := by decide +kernel
theorem d_PS_set_50 : decode prog_1_method_7_code 50 = .ok (.iconst (1), 1) := by decide +kernel
theorem d_PS_set_51 : decode prog_1_method_7_code 51 = .ok (.ireturn, 1) := by decide +kernel
theorem d_PS_indexIn_0 : decode prog_1_method_30_code 0 = .ok (.aload_n 0, 1) := by decide +kernel
theorem d_PS_indexIn_1 : decode prog_1_method_30_code 1 = .ok (.iload_n 2, 1) := by decide +kernel
theorem d_PS_indexIn_2 : decode prog_1_method_30_code 2 = .ok (.invokevirtual 68, 3) := by decide +kernel
theorem d_PS_indexIn_5 : decode prog_1_method_30_code 5 = .ok (.ifCond .eq (18), 3) := by decide +kernel
theorem d_PS_indexIn_8 : decode prog_1_method_30_code 8 = .ok (.aload_n 0, 1) := by decide +kernel
theorem d_PS_indexIn_9 : decode prog_1_method_30_code 9 = .ok (.getfield 25, 3) := by decide +kernel
theorem d_PS_indexIn_12 : decode prog_1_method_30_code 12 = .ok (.getfield 79, 3) := by decide +kernel
theorem d_PS_indexIn_15 : decode prog_1_method_30_code 15 = .ok (.iload_n 2, 1) := by decide +kernel
theorem d_PS_indexIn_16 : decode prog_1_method_30_code 16 = .ok (.invokevirtual 75, 3) := by decide +kernel
theorem d_PS_indexIn_19 : decode prog_1_method_30_code 19 = .ok (.iload_n 1, 1) := by decide +kernel
theorem d_PS_indexIn_20 : decode prog_1_method_30_code 20 = .ok (.if_icmp .eq (5), 3) := by decide +kernel
theorem d_PS_indexIn_23 : decode prog_1_method_30_code 23 = .ok (.iconst (-1), 1) := by decide +kernel
theorem d_PS_indexIn_24 : decode prog_1_method_30_code 24 = .ok (.ireturn, 1) := by decide +kernel
theorem d_PS_indexIn_25 : decode prog_1_method_30_code 25 = .ok (.iload_n 3, 1) := by decide +kernel
theorem d_PS_indexIn_26 : decode prog_1_method_30_code 26 = .ok (.ifCond .lt (18), 3) := by decide +kernel
theorem d_PS_indexIn_29 : decode prog_1_method_30_code 29 = .ok (.iload_n 3, 1) := by decide +kernel
theorem d_PS_indexIn_30 : decode prog_1_method_30_code 30 = .ok (.aload_n 0, 1) := by decide +kernel
theorem d_PS_indexIn_31 : decode prog_1_method_30_code 31 = .ok (.getfield 25, 3) := by decide +kernel
theorem d_PS_indexIn_34 : decode prog_1_method_30_code 34 = .ok (.getfield 72, 3) := by decide +kernel
theorem d_PS_indexIn_37 : decode prog_1_method_30_code 37 = .ok (.iload_n 2, 1) := by decide +kernel
theorem d_PS_indexIn_38 : decode prog_1_method_30_code 38 = .ok (.invokevirtual 75, 3) := by decide +kernel
theorem d_PS_indexIn_41 : decode prog_1_method_30_code 41 = .ok (.if_icmp .lt (5), 3) := by decide +kernel
theorem d_PS_indexIn_44 : decode prog_1_method_30_code 44 = .ok (.iconst (-1), 1) := by decide +kernel
theorem d_PS_indexIn_45 : decode prog_1_method_30_code 45 = .ok (.ireturn, 1) := by decide +kernel
theorem d_PS_indexIn_46 : decode prog_1_method_30_code 46 = .ok (.aload_n 0, 1) := by decide +kernel
theorem d_PS_indexIn_47 : decode prog_1_method_30_code 47 = .ok (.getfield 25, 3) := by decide +kernel
theorem d_PS_indexIn_50 : decode prog_1_method_30_code 50 = .ok (.getfield 82, 3) := by decide +kernel
theorem d_PS_indexIn_53 : decode prog_1_method_30_code 53 = .ok (.iload_n 2, 1) := by decide +kernel
theorem d_PS_indexIn_54 : decode prog_1_method_30_code 54 = .ok (.invokevirtual 75, 3) := by decide +kernel
theorem d_PS_indexIn_57 : decode prog_1_method_30_code 57 = .ok (.iload_n 3, 1) := by decide +kernel
theorem d_PS_indexIn_58 : decode prog_1_method_30_code 58 = .ok (.iadd, 1) := by decide +kernel
theorem d_PS_indexIn_59 : decode prog_1_method_30_code 59 = .ok (.ireturn, 1) := by decide +kernel
theorem d_PS_isKind_0 : decode prog_1_method_23_code 0 = .ok (.iload_n 0, 1) := by decide +kernel
theorem d_PS_isKind_1 : decode prog_1_method_23_code 1 = .ok (.iload_n 1, 1) := by decide +kernel
theorem d_PS_isKind_2 : decode prog_1_method_23_code 2 = .ok (.if_icmp .lt (13), 3) := by decide +kernel
theorem d_PS_isKind_5 : decode prog_1_method_23_code 5 = .ok (.iload_n 0, 1) := by decide +kernel
theorem d_PS_isKind_6 : decode prog_1_method_23_code 6 = .ok (.bipush (15), 2) := by decide +kernel
theorem d_PS_isKind_8 : decode prog_1_method_23_code 8 = .ok (.if_icmp .gt (7), 3) := by decide +kernel
theorem d_PS_isKind_11 : decode prog_1_method_23_code 11 = .ok (.iconst (1), 1) := by decide +kernel
theorem d_PS_isKind_12 : decode prog_1_method_23_code 12 = .ok (.goto (4), 3) := by decide +kernel
theorem d_PS_isKind_15 : decode prog_1_method_23_code 15 = .ok (.iconst (0), 1) := by decide +kernel
theorem d_PS_isKind_16 : decode prog_1_method_23_code 16 = .ok (.ireturn, 1) := by decide +kernel
theorem d_PS_remember_0 : decode prog_1_method_34_code 0 = .ok (.aload_n 0, 1) := by decide +kernel
theorem d_PS_remember_1 : decode prog_1_method_34_code 1 = .ok (.iload_n 1, 1) := by decide +kernel
theorem d_PS_remember_2 : decode prog_1_method_34_code 2 = .ok (.iload_n 2, 1) := by decide +kernel
theorem d_PS_remember_3 : decode prog_1_method_34_code 3 = .ok (.invokevirtual 163, 3) := by decide +kernel
theorem d_PS_remember_6 : decode prog_1_method_34_code 6 = .ok (.ifCond .ne (5), 3) := by decide +kernel
theorem d_PS_remember_9 : decode prog_1_method_34_code 9 = .ok (.iconst (1), 1) := by decide +kernel
theorem d_PS_remember_10 : decode prog_1_method_34_code 10 = .ok (.ireturn, 1) := by decide +kernel
theorem d_PS_remember_11 : decode prog_1_method_34_code 11 = .ok (.aload_n 0, 1) := by decide +kernel
theorem d_PS_remember_12 : decode prog_1_method_34_code 12 = .ok (.getfield 9, 3) := by decide +kernel
theorem d_PS_remember_15 : decode prog_1_method_34_code 15 = .ok (.iconst (5), 1) := by decide +kernel
theorem d_PS_remember_16 : decode prog_1_method_34_code 16 = .ok (.iaload, 1) := by decide +kernel
theorem d_PS_remember_17 : decode prog_1_method_34_code 17 = .ok (.istore_n 3, 1) := by decide +kernel
theorem d_PS_remember_18 : decode prog_1_method_34_code 18 = .ok (.iload_n 3, 1) := by decide +kernel
theorem d_PS_remember_19 : decode prog_1_method_34_code 19 = .ok (.ldc 166, 2) := by decide +kernel
theorem d_PS_remember_21 : decode prog_1_method_34_code 21 = .ok (.if_icmp .lt (5), 3) := by decide +kernel
theorem d_PS_remember_24 : decode prog_1_method_34_code 24 = .ok (.iconst (0), 1) := by decide +kernel
theorem d_PS_remember_25 : decode prog_1_method_34_code 25 = .ok (.ireturn, 1) := by decide +kernel
theorem d_PS_remember_26 : decode prog_1_method_34_code 26 = .ok (.aload_n 0, 1) := by decide +kernel
theorem d_PS_remember_27 : decode prog_1_method_34_code 27 = .ok (.getfield 51, 3) := by decide +kernel
theorem d_PS_remember_30 : decode prog_1_method_34_code 30 = .ok (.iload_n 3, 1) := by decide +kernel
theorem d_PS_remember_31 : decode prog_1_method_34_code 31 = .ok (.iload_n 1, 1) := by decide +kernel
theorem d_PS_remember_32 : decode prog_1_method_34_code 32 = .ok (.iload_n 2, 1) := by decide +kernel
theorem d_PS_remember_33 : decode prog_1_method_34_code 33 = .ok (.aload_n 0, 1) := by decide +kernel
theorem d_PS_remember_34 : decode prog_1_method_34_code 34 = .ok (.iload_n 1, 1) := by decide +kernel
theorem d_PS_remember_35 : decode prog_1_method_34_code 35 = .ok (.invokevirtual 167, 3) := by decide +kernel
theorem d_PS_remember_38 : decode prog_1_method_34_code 38 = .ok (.invokevirtual 171, 3) := by decide +kernel
theorem d_PS_remember_41 : decode prog_1_method_34_code 41 = .ok (.aload_n 0, 1) := by decide +kernel
theorem d_PS_remember_42 : decode prog_1_method_34_code 42 = .ok (.getfield 9, 3) := by decide +kernel
theorem d_PS_remember_45 : decode prog_1_method_34_code 45 = .ok (.iconst (5), 1) := by decide +kernel
theorem d_PS_remember_46 : decode prog_1_method_34_code 46 = .ok (.dup2, 1) := by decide +kernel
theorem d_PS_remember_47 : decode prog_1_method_34_code 47 = .ok (.iaload, 1) := by decide +kernel
theorem d_PS_remember_48 : decode prog_1_method_34_code 48 = .ok (.iconst (1), 1) := by decide +kernel
theorem d_PS_remember_49 : decode prog_1_method_34_code 49 = .ok (.iadd, 1) := by decide +kernel
theorem d_PS_remember_50 : decode prog_1_method_34_code 50 = .ok (.iastore, 1) := by decide +kernel
theorem d_PS_remember_51 : decode prog_1_method_34_code 51 = .ok (.iconst (1), 1) := by decide +kernel
theorem d_PS_remember_52 : decode prog_1_method_34_code 52 = .ok (.ireturn, 1) := by decide +kernel
theorem d_PS_mustRemember_0 : decode prog_1_method_35_code 0 = .ok (.aload_n 0, 1) := by decide +kernel
theorem d_PS_mustRemember_1 : decode prog_1_method_35_code 1 = .ok (.getfield 145, 3) := by decide +kernel
theorem d_PS_mustRemember_4 : decode prog_1_method_35_code 4 = .ok (.ifCond .eq (16), 3) := by decide +kernel
theorem d_PS_mustRemember_7 : decode prog_1_method_35_code 7 = .ok (.iload_n 2, 1) := by decide +kernel
theorem d_PS_mustRemember_8 : decode prog_1_method_35_code 8 = .ok (.aload_n 0, 1) := by decide +kernel
theorem d_PS_mustRemember_9 : decode prog_1_method_35_code 9 = .ok (.aload_n 0, 1) := by decide +kernel
theorem d_PS_mustRemember_10 : decode prog_1_method_35_code 10 = .ok (.getfield 145, 3) := by decide +kernel
theorem d_PS_mustRemember_13 : decode prog_1_method_35_code 13 = .ok (.iload_n 1, 1) := by decide +kernel
theorem d_PS_mustRemember_14 : decode prog_1_method_35_code 14 = .ok (.invokevirtual 151, 3) := by decide +kernel
theorem d_PS_mustRemember_17 : decode prog_1_method_35_code 17 = .ok (.if_icmp .lt (5), 3) := by decide +kernel
theorem d_PS_mustRemember_20 : decode prog_1_method_35_code 20 = .ok (.iconst (0), 1) := by decide +kernel
theorem d_PS_mustRemember_21 : decode prog_1_method_35_code 21 = .ok (.ireturn, 1) := by decide +kernel
theorem d_PS_mustRemember_22 : decode prog_1_method_35_code 22 = .ok (.aload_n 0, 1) := by decide +kernel
theorem d_PS_mustRemember_23 : decode prog_1_method_35_code 23 = .ok (.aload_n 0, 1) := by decide +kernel
theorem d_PS_mustRemember_24 : decode prog_1_method_35_code 24 = .ok (.getfield 145, 3) := by decide +kernel
theorem d_PS_mustRemember_27 : decode prog_1_method_35_code 27 = .ok (.iconst (5), 1) := by decide +kernel
theorem d_PS_mustRemember_28 : decode prog_1_method_35_code 28 = .ok (.invokevirtual 151, 3) := by decide +kernel
theorem d_PS_mustRemember_31 : decode prog_1_method_35_code 31 = .ok (.istore_n 3, 1) := by decide +kernel
theorem d_PS_mustRemember_32 : decode prog_1_method_35_code 32 = .ok (.aload_n 0, 1) := by decide +kernel
theorem d_PS_mustRemember_33 : decode prog_1_method_35_code 33 = .ok (.getfield 51, 3) := by decide +kernel
theorem d_PS_mustRemember_36 : decode prog_1_method_35_code 36 = .ok (.iload_n 1, 1) := by decide +kernel
theorem d_PS_mustRemember_37 : decode prog_1_method_35_code 37 = .ok (.iload_n 2, 1) := by decide +kernel
theorem d_PS_mustRemember_38 : decode prog_1_method_35_code 38 = .ok (.iload_n 3, 1) := by decide +kernel
theorem d_PS_mustRemember_39 : decode prog_1_method_35_code 39 = .ok (.aload_n 0, 1) := by decide +kernel
theorem d_PS_mustRemember_40 : decode prog_1_method_35_code 40 = .ok (.getfield 9, 3) := by decide +kernel
theorem d_PS_mustRemember_43 : decode prog_1_method_35_code 43 = .ok (.iconst (5), 1) := by decide +kernel
theorem d_PS_mustRemember_44 : decode prog_1_method_35_code 44 = .ok (.iaload, 1) := by decide +kernel
theorem d_PS_mustRemember_45 : decode prog_1_method_35_code 45 = .ok (.invokevirtual 174, 3) := by decide +kernel
theorem d_PS_mustRemember_48 : decode prog_1_method_35_code 48 = .ok (.ifCond .ne (7), 3) := by decide +kernel
theorem d_PS_mustRemember_51 : decode prog_1_method_35_code 51 = .ok (.iconst (1), 1) := by decide +kernel
theorem d_PS_mustRemember_52 : decode prog_1_method_35_code 52 = .ok (.goto (4), 3) := by decide +kernel
theorem d_PS_mustRemember_55 : decode prog_1_method_35_code 55 = .ok (.iconst (0), 1) := by decide +kernel
theorem d_PS_mustRemember_56 : decode prog_1_method_35_code 56 = .ok (.ireturn, 1) := by decide +kernel
theorem d_PS_countAtSave_0 : decode prog_1_method_33_code 0 = .ok (.aload_n 0, 1) := by decide +kernel
theorem d_PS_countAtSave_1 : decode prog_1_method_33_code 1 = .ok (.getfield 18, 3) := by decide +kernel
theorem d_PS_countAtSave_4 : decode prog_1_method_33_code 4 = .ok (.iload_n 1, 1) := by decide +kernel
theorem d_PS_countAtSave_5 : decode prog_1_method_33_code 5 = .ok (.iconst (1), 1) := by decide +kernel
theorem d_PS_countAtSave_6 : decode prog_1_method_33_code 6 = .ok (.isub, 1) := by decide +kernel
theorem d_PS_countAtSave_7 : decode prog_1_method_33_code 7 = .ok (.bipush (6), 2) := by decide +kernel
theorem d_PS_countAtSave_9 : decode prog_1_method_33_code 9 = .ok (.imul, 1) := by decide +kernel
theorem d_PS_countAtSave_10 : decode prog_1_method_33_code 10 = .ok (.iload_n 2, 1) := by decide +kernel
theorem d_PS_countAtSave_11 : decode prog_1_method_33_code 11 = .ok (.iadd, 1) := by decide +kernel
theorem d_PS_countAtSave_12 : decode prog_1_method_33_code 12 = .ok (.invokevirtual 75, 3) := by decide +kernel
theorem d_PS_countAtSave_15 : decode prog_1_method_33_code 15 = .ok (.ireturn, 1) := by decide +kernel
theorem d_PS_valuesOf_0 : decode prog_1_method_37_code 0 = .ok (.iload_n 1, 1) := by decide +kernel
theorem d_PS_valuesOf_1 : decode prog_1_method_37_code 1 = .ok (.iconst (4), 1) := by decide +kernel
theorem d_PS_valuesOf_2 : decode prog_1_method_37_code 2 = .ok (.if_icmp .ne (13), 3) := by decide +kernel
theorem d_PS_valuesOf_5 : decode prog_1_method_37_code 5 = .ok (.aload_n 0, 1) := by decide +kernel
theorem d_PS_valuesOf_6 : decode prog_1_method_37_code 6 = .ok (.getfield 44, 3) := by decide +kernel
theorem d_PS_valuesOf_9 : decode prog_1_method_37_code 9 = .ok (.getfield 119, 3) := by decide +kernel
theorem d_PS_valuesOf_12 : decode prog_1_method_37_code 12 = .ok (.goto (7), 3) := by decide +kernel
theorem d_PS_valuesOf_15 : decode prog_1_method_37_code 15 = .ok (.aload_n 0, 1) := by decide +kernel
theorem d_PS_valuesOf_16 : decode prog_1_method_37_code 16 = .ok (.getfield 33, 3) := by decide +kernel
theorem d_PS_valuesOf_19 : decode prog_1_method_37_code 19 = .ok (.areturn, 1) := by decide +kernel
theorem d_PS_get_0 : decode prog_1_method_8_code 0 = .ok (.aload_n 0, 1) := by decide +kernel
theorem d_PS_get_1 : decode prog_1_method_8_code 1 = .ok (.iconst (1), 1) := by decide +kernel
theorem d_PS_get_2 : decode prog_1_method_8_code 2 = .ok (.iload_n 1, 1) := by decide +kernel
theorem d_PS_get_3 : decode prog_1_method_8_code 3 = .ok (.iload_n 2, 1) := by decide +kernel
theorem d_PS_get_4 : decode prog_1_method_8_code 4 = .ok (.invokevirtual 85, 3) := by decide +kernel
theorem d_PS_get_7 : decode prog_1_method_8_code 7 = .ok (.istore_n 3, 1) := by decide +kernel
theorem d_PS_get_8 : decode prog_1_method_8_code 8 = .ok (.iload_n 3, 1) := by decide +kernel
theorem d_PS_get_9 : decode prog_1_method_8_code 9 = .ok (.iconst (-1), 1) := by decide +kernel
theorem d_PS_get_10 : decode prog_1_method_8_code 10 = .ok (.if_icmp .eq (15), 3) := by decide +kernel
theorem d_PS_get_13 : decode prog_1_method_8_code 13 = .ok (.aload_n 0, 1) := by decide +kernel
theorem d_PS_get_14 : decode prog_1_method_8_code 14 = .ok (.getfield 33, 3) := by decide +kernel
theorem d_PS_get_17 : decode prog_1_method_8_code 17 = .ok (.getfield 99, 3) := by decide +kernel
theorem d_PS_get_20 : decode prog_1_method_8_code 20 = .ok (.iload_n 3, 1) := by decide +kernel
theorem d_PS_get_21 : decode prog_1_method_8_code 21 = .ok (.invokevirtual 75, 3) := by decide +kernel
theorem d_PS_get_24 : decode prog_1_method_8_code 24 = .ok (.ireturn, 1) := by decide +kernel
theorem d_PS_get_25 : decode prog_1_method_8_code 25 = .ok (.aload_n 0, 1) := by decide +kernel
theorem d_PS_get_26 : decode prog_1_method_8_code 26 = .ok (.iconst (2), 1) := by decide +kernel
theorem d_PS_get_27 : decode prog_1_method_8_code 27 = .ok (.iload_n 1, 1) := by decide +kernel
theorem d_PS_get_28 : decode prog_1_method_8_code 28 = .ok (.iload_n 2, 1) := by decide +kernel
theorem d_PS_get_29 : decode prog_1_method_8_code 29 = .ok (.invokevirtual 85, 3) := by decide +kernel
theorem d_PS_get_32 : decode prog_1_method_8_code 32 = .ok (.istore_n 3, 1) := by decide +kernel
theorem d_PS_get_33 : decode prog_1_method_8_code 33 = .ok (.iload_n 3, 1) := by decide +kernel
theorem d_PS_get_34 : decode prog_1_method_8_code 34 = .ok (.iconst (-1), 1) := by decide +kernel
theorem d_PS_get_35 : decode prog_1_method_8_code 35 = .ok (.if_icmp .ne (7), 3) := by decide +kernel
theorem d_PS_get_38 : decode prog_1_method_8_code 38 = .ok (.iconst (-1), 1) := by decide +kernel
theorem d_PS_get_39 : decode prog_1_method_8_code 39 = .ok (.goto (11), 3) := by decide +kernel
theorem d_PS_get_42 : decode prog_1_method_8_code 42 = .ok (.aload_n 0, 1) := by decide +kernel
theorem d_PS_get_43 : decode prog_1_method_8_code 43 = .ok (.getfield 38, 3) := by decide +kernel
theorem d_PS_get_46 : decode prog_1_method_8_code 46 = .ok (.iload_n 3, 1) := by decide +kernel
theorem d_PS_get_47 : decode prog_1_method_8_code 47 = .ok (.invokevirtual 75, 3) := by decide +kernel
theorem d_PS_get_50 : decode prog_1_method_8_code 50 = .ok (.ireturn, 1) := by decide +kernel
theorem d_PS_number_0 : decode prog_1_method_9_code 0 = .ok (.aload_n 0, 1) := by decide +kernel
theorem d_PS_number_1 : decode prog_1_method_9_code 1 = .ok (.iconst (1), 1) := by decide +kernel
theorem d_PS_number_2 : decode prog_1_method_9_code 2 = .ok (.iload_n 1, 1) := by decide +kernel
theorem d_PS_number_3 : decode prog_1_method_9_code 3 = .ok (.iload_n 2, 1) := by decide +kernel
theorem d_PS_number_4 : decode prog_1_method_9_code 4 = .ok (.invokevirtual 85, 3) := by decide +kernel
theorem d_PS_number_7 : decode prog_1_method_9_code 7 = .ok (.istore_n 3, 1) := by decide +kernel
theorem d_PS_number_8 : decode prog_1_method_9_code 8 = .ok (.iload_n 3, 1) := by decide +kernel
theorem d_PS_number_9 : decode prog_1_method_9_code 9 = .ok (.iconst (-1), 1) := by decide +kernel
theorem d_PS_number_10 : decode prog_1_method_9_code 10 = .ok (.if_icmp .ne (7), 3) := by decide +kernel
theorem d_PS_number_13 : decode prog_1_method_9_code 13 = .ok (.iconst (0), 1) := by decide +kernel
theorem d_PS_number_14 : decode prog_1_method_9_code 14 = .ok (.goto (14), 3) := by decide +kernel
theorem d_PS_number_17 : decode prog_1_method_9_code 17 = .ok (.aload_n 0, 1) := by decide +kernel
theorem d_PS_number_18 : decode prog_1_method_9_code 18 = .ok (.getfield 33, 3) := by decide +kernel
theorem d_PS_number_21 : decode prog_1_method_9_code 21 = .ok (.getfield 102, 3) := by decide +kernel
theorem d_PS_number_24 : decode prog_1_method_9_code 24 = .ok (.iload_n 3, 1) := by decide +kernel
theorem d_PS_number_25 : decode prog_1_method_9_code 25 = .ok (.invokevirtual 75, 3) := by decide +kernel
theorem d_PS_number_28 : decode prog_1_method_9_code 28 = .ok (.ireturn, 1) := by decide +kernel
theorem d_PS_setByte_0 : decode prog_1_method_10_code 0 = .ok (.aload_n 0, 1) := by decide +kernel
theorem d_PS_setByte_1 : decode prog_1_method_10_code 1 = .ok (.iconst (2), 1) := by decide +kernel
theorem d_PS_setByte_2 : decode prog_1_method_10_code 2 = .ok (.iload_n 1, 1) := by decide +kernel
theorem d_PS_setByte_3 : decode prog_1_method_10_code 3 = .ok (.iload_n 2, 1) := by decide +kernel
theorem d_PS_setByte_4 : decode prog_1_method_10_code 4 = .ok (.invokevirtual 85, 3) := by decide +kernel
theorem d_PS_setByte_7 : decode prog_1_method_10_code 7 = .ok (.istore 4, 2) := by decide +kernel
theorem d_PS_setByte_9 : decode prog_1_method_10_code 9 = .ok (.iload 4, 2) := by decide +kernel
theorem d_PS_setByte_11 : decode prog_1_method_10_code 11 = .ok (.iconst (-1), 1) := by decide +kernel
theorem d_PS_setByte_12 : decode prog_1_method_10_code 12 = .ok (.if_icmp .ne (5), 3) := by decide +kernel
theorem d_PS_setByte_15 : decode prog_1_method_10_code 15 = .ok (.iconst (-1), 1) := by decide +kernel
theorem d_PS_setByte_16 : decode prog_1_method_10_code 16 = .ok (.ireturn, 1) := by decide +kernel
theorem d_PS_setByte_17 : decode prog_1_method_10_code 17 = .ok (.aload_n 0, 1) := by decide +kernel
theorem d_PS_setByte_18 : decode prog_1_method_10_code 18 = .ok (.getfield 38, 3) := by decide +kernel
theorem d_PS_setByte_21 : decode prog_1_method_10_code 21 = .ok (.iload 4, 2) := by decide +kernel
theorem d_PS_setByte_23 : decode prog_1_method_10_code 23 = .ok (.iload_n 3, 1) := by decide +kernel
theorem d_PS_setByte_24 : decode prog_1_method_10_code 24 = .ok (.sipush (255), 3) := by decide +kernel
theorem d_PS_setByte_27 : decode prog_1_method_10_code 27 = .ok (.iand, 1) := by decide +kernel
theorem d_PS_setByte_28 : decode prog_1_method_10_code 28 = .ok (.invokevirtual 105, 3) := by decide +kernel
theorem d_PS_setByte_31 : decode prog_1_method_10_code 31 = .ok (.iconst (1), 1) := by decide +kernel
theorem d_PS_setByte_32 : decode prog_1_method_10_code 32 = .ok (.ireturn, 1) := by decide +kernel
theorem d_PS_dictionary_0 : decode prog_1_method_11_code 0 = .ok (.aload_n 0, 1) := by decide +kernel
theorem d_PS_dictionary_1 : decode prog_1_method_11_code 1 = .ok (.getfield 9, 3) := by decide +kernel
theorem d_PS_dictionary_4 : decode prog_1_method_11_code 4 = .ok (.iconst (3), 1) := by decide +kernel
theorem d_PS_dictionary_5 : decode prog_1_method_11_code 5 = .ok (.iaload, 1) := by decide +kernel
theorem d_PS_dictionary_6 : decode prog_1_method_11_code 6 = .ok (.sipush (1024), 3) := by decide +kernel
theorem d_PS_dictionary_9 : decode prog_1_method_11_code 9 = .ok (.if_icmp .lt (6), 3) := by decide +kernel
theorem d_PS_dictionary_12 : decode prog_1_method_11_code 12 = .ok (.bipush (-3), 2) := by decide +kernel
theorem d_PS_dictionary_14 : decode prog_1_method_11_code 14 = .ok (.ireturn, 1) := by decide +kernel
theorem d_PS_dictionary_15 : decode prog_1_method_11_code 15 = .ok (.aload_n 0, 1) := by decide +kernel
theorem d_PS_dictionary_16 : decode prog_1_method_11_code 16 = .ok (.getfield 9, 3) := by decide +kernel
theorem d_PS_dictionary_19 : decode prog_1_method_11_code 19 = .ok (.iconst (3), 1) := by decide +kernel
theorem d_PS_dictionary_20 : decode prog_1_method_11_code 20 = .ok (.dup2, 1) := by decide +kernel
theorem d_PS_dictionary_21 : decode prog_1_method_11_code 21 = .ok (.iaload, 1) := by decide +kernel
theorem d_PS_dictionary_22 : decode prog_1_method_11_code 22 = .ok (.iconst (1), 1) := by decide +kernel
theorem d_PS_dictionary_23 : decode prog_1_method_11_code 23 = .ok (.iadd, 1) := by decide +kernel
theorem d_PS_dictionary_24 : decode prog_1_method_11_code 24 = .ok (.iastore, 1) := by decide +kernel
theorem d_PS_dictionary_25 : decode prog_1_method_11_code 25 = .ok (.aload_n 0, 1) := by decide +kernel
theorem d_PS_dictionary_26 : decode prog_1_method_11_code 26 = .ok (.getfield 9, 3) := by decide +kernel
theorem d_PS_dictionary_29 : decode prog_1_method_11_code 29 = .ok (.iconst (3), 1) := by decide +kernel
theorem d_PS_dictionary_30 : decode prog_1_method_11_code 30 = .ok (.iaload, 1) := by decide +kernel
theorem d_PS_dictionary_31 : decode prog_1_method_11_code 31 = .ok (.ireturn, 1) := by decide +kernel
theorem d_PS_define_0 : decode prog_1_method_12_code 0 = .ok (.aload_n 0, 1) := by decide +kernel
theorem d_PS_define_1 : decode prog_1_method_12_code 1 = .ok (.iload_n 1, 1) := by decide +kernel
theorem d_PS_define_2 : decode prog_1_method_12_code 2 = .ok (.iload_n 2, 1) := by decide +kernel
theorem d_PS_define_3 : decode prog_1_method_12_code 3 = .ok (.invokevirtual 108, 3) := by decide +kernel
theorem d_PS_define_6 : decode prog_1_method_12_code 6 = .ok (.ifCond .eq (12), 3) := by decide +kernel
theorem d_PS_define_9 : decode prog_1_method_12_code 9 = .ok (.iload 4, 2) := by decide +kernel
theorem d_PS_define_11 : decode prog_1_method_12_code 11 = .ok (.iconst (0), 1) := by decide +kernel
theorem d_PS_define_12 : decode prog_1_method_12_code 12 = .ok (.invokestatic 88, 3) := by decide +kernel
theorem d_PS_define_15 : decode prog_1_method_12_code 15 = .ok (.ifCond .ne (5), 3) := by decide +kernel
theorem d_PS_define_18 : decode prog_1_method_12_code 18 = .ok (.iconst (-1), 1) := by decide +kernel
theorem d_PS_define_19 : decode prog_1_method_12_code 19 = .ok (.ireturn, 1) := by decide +kernel
theorem d_PS_define_20 : decode prog_1_method_12_code 20 = .ok (.aload_n 0, 1) := by decide +kernel
theorem d_PS_define_21 : decode prog_1_method_12_code 21 = .ok (.getfield 44, 3) := by decide +kernel
theorem d_PS_define_24 : decode prog_1_method_12_code 24 = .ok (.iload_n 1, 1) := by decide +kernel
theorem d_PS_define_25 : decode prog_1_method_12_code 25 = .ok (.iload_n 2, 1) := by decide +kernel
theorem d_PS_define_26 : decode prog_1_method_12_code 26 = .ok (.iload_n 3, 1) := by decide +kernel
theorem d_PS_define_27 : decode prog_1_method_12_code 27 = .ok (.aload_n 0, 1) := by decide +kernel
theorem d_PS_define_28 : decode prog_1_method_12_code 28 = .ok (.getfield 9, 3) := by decide +kernel
theorem d_PS_define_31 : decode prog_1_method_12_code 31 = .ok (.iconst (4), 1) := by decide +kernel
theorem d_PS_define_32 : decode prog_1_method_12_code 32 = .ok (.iaload, 1) := by decide +kernel
theorem d_PS_define_33 : decode prog_1_method_12_code 33 = .ok (.invokevirtual 111, 3) := by decide +kernel
theorem d_PS_define_36 : decode prog_1_method_12_code 36 = .ok (.istore 6, 2) := by decide +kernel
theorem d_PS_define_38 : decode prog_1_method_12_code 38 = .ok (.iload 6, 2) := by decide +kernel
theorem d_PS_define_40 : decode prog_1_method_12_code 40 = .ok (.iconst (-1), 1) := by decide +kernel
theorem d_PS_define_41 : decode prog_1_method_12_code 41 = .ok (.if_icmp .ne (15), 3) := by decide +kernel
theorem d_PS_define_44 : decode prog_1_method_12_code 44 = .ok (.aload_n 0, 1) := by decide +kernel
theorem d_PS_define_45 : decode prog_1_method_12_code 45 = .ok (.iload_n 1, 1) := by decide +kernel
theorem d_PS_define_46 : decode prog_1_method_12_code 46 = .ok (.iload_n 2, 1) := by decide +kernel
theorem d_PS_define_47 : decode prog_1_method_12_code 47 = .ok (.iload_n 3, 1) := by decide +kernel
theorem d_PS_define_48 : decode prog_1_method_12_code 48 = .ok (.iload 4, 2) := by decide +kernel
theorem d_PS_define_50 : decode prog_1_method_12_code 50 = .ok (.iload 5, 2) := by decide +kernel
theorem d_PS_define_52 : decode prog_1_method_12_code 52 = .ok (.invokevirtual 115, 3) := by decide +kernel
theorem d_PS_define_55 : decode prog_1_method_12_code 55 = .ok (.ireturn, 1) := by decide +kernel
theorem d_PS_define_56 : decode prog_1_method_12_code 56 = .ok (.aload_n 0, 1) := by decide +kernel
theorem d_PS_define_57 : decode prog_1_method_12_code 57 = .ok (.iconst (4), 1) := by decide +kernel
theorem d_PS_define_58 : decode prog_1_method_12_code 58 = .ok (.iload 6, 2) := by decide +kernel
theorem d_PS_define_60 : decode prog_1_method_12_code 60 = .ok (.invokevirtual 92, 3) := by decide +kernel
theorem d_PS_define_63 : decode prog_1_method_12_code 63 = .ok (.ifCond .ne (6), 3) := by decide +kernel
theorem d_PS_define_66 : decode prog_1_method_12_code 66 = .ok (.bipush (-3), 2) := by decide +kernel
theorem d_PS_define_68 : decode prog_1_method_12_code 68 = .ok (.ireturn, 1) := by decide +kernel
theorem d_PS_define_69 : decode prog_1_method_12_code 69 = .ok (.aload_n 0, 1) := by decide +kernel
theorem d_PS_define_70 : decode prog_1_method_12_code 70 = .ok (.getfield 44, 3) := by decide +kernel
theorem d_PS_define_73 : decode prog_1_method_12_code 73 = .ok (.getfield 119, 3) := by decide +kernel
theorem d_PS_define_76 : decode prog_1_method_12_code 76 = .ok (.iload 6, 2) := by decide +kernel
theorem d_PS_define_78 : decode prog_1_method_12_code 78 = .ok (.iload 4, 2) := by decide +kernel
theorem d_PS_define_80 : decode prog_1_method_12_code 80 = .ok (.iload 5, 2) := by decide +kernel
theorem d_PS_define_82 : decode prog_1_method_12_code 82 = .ok (.invokevirtual 95, 3) := by decide +kernel
theorem d_PS_define_85 : decode prog_1_method_12_code 85 = .ok (.iconst (0), 1) := by decide +kernel
theorem d_PS_define_86 : decode prog_1_method_12_code 86 = .ok (.ireturn, 1) := by decide +kernel
theorem d_PS_isKeyPossible_0 : decode prog_1_method_26_code 0 = .ok (.aload_n 0, 1) := by decide +kernel
theorem d_PS_isKeyPossible_1 : decode prog_1_method_26_code 1 = .ok (.iload_n 1, 1) := by decide +kernel
theorem d_PS_isKeyPossible_2 : decode prog_1_method_26_code 2 = .ok (.invokevirtual 125, 3) := by decide +kernel
theorem d_PS_isKeyPossible_5 : decode prog_1_method_26_code 5 = .ok (.ifCond .eq (15), 3) := by decide +kernel
theorem d_PS_isKeyPossible_8 : decode prog_1_method_26_code 8 = .ok (.iload_n 2, 1) := by decide +kernel
theorem d_PS_isKeyPossible_9 : decode prog_1_method_26_code 9 = .ok (.iconst (1), 1) := by decide +kernel
theorem d_PS_isKeyPossible_10 : decode prog_1_method_26_code 10 = .ok (.invokestatic 88, 3) := by decide +kernel
theorem d_PS_isKeyPossible_13 : decode prog_1_method_26_code 13 = .ok (.ifCond .eq (7), 3) := by decide +kernel
theorem d_PS_isKeyPossible_16 : decode prog_1_method_26_code 16 = .ok (.iconst (1), 1) := by decide +kernel
theorem d_PS_isKeyPossible_17 : decode prog_1_method_26_code 17 = .ok (.goto (4), 3) := by decide +kernel
theorem d_PS_isKeyPossible_20 : decode prog_1_method_26_code 20 = .ok (.iconst (0), 1) := by decide +kernel
theorem d_PS_isKeyPossible_21 : decode prog_1_method_26_code 21 = .ok (.ireturn, 1) := by decide +kernel
theorem d_PS_isDictionary_0 : decode prog_1_method_25_code 0 = .ok (.iload_n 1, 1) := by decide +kernel
theorem d_PS_isDictionary_1 : decode prog_1_method_25_code 1 = .ok (.iconst (1), 1) := by decide +kernel
theorem d_PS_isDictionary_2 : decode prog_1_method_25_code 2 = .ok (.if_icmp .lt (17), 3) := by decide +kernel
theorem d_PS_isDictionary_5 : decode prog_1_method_25_code 5 = .ok (.iload_n 1, 1) := by decide +kernel
theorem d_PS_isDictionary_6 : decode prog_1_method_25_code 6 = .ok (.aload_n 0, 1) := by decide +kernel
theorem d_PS_isDictionary_7 : decode prog_1_method_25_code 7 = .ok (.getfield 9, 3) := by decide +kernel
theorem d_PS_isDictionary_10 : decode prog_1_method_25_code 10 = .ok (.iconst (3), 1) := by decide +kernel
theorem d_PS_isDictionary_11 : decode prog_1_method_25_code 11 = .ok (.iaload, 1) := by decide +kernel
theorem d_PS_isDictionary_12 : decode prog_1_method_25_code 12 = .ok (.if_icmp .gt (7), 3) := by decide +kernel
theorem d_PS_isDictionary_15 : decode prog_1_method_25_code 15 = .ok (.iconst (1), 1) := by decide +kernel
theorem d_PS_isDictionary_16 : decode prog_1_method_25_code 16 = .ok (.goto (4), 3) := by decide +kernel
theorem d_PS_isDictionary_19 : decode prog_1_method_25_code 19 = .ok (.iconst (0), 1) := by decide +kernel
theorem d_PS_isDictionary_20 : decode prog_1_method_25_code 20 = .ok (.ireturn, 1) := by decide +kernel
theorem d_PS_addKey_0 : decode prog_1_method_31_code 0 = .ok (.aload_n 0, 1) := by decide +kernel
theorem d_PS_addKey_1 : decode prog_1_method_31_code 1 = .ok (.getfield 9, 3) := by decide +kernel
theorem d_PS_addKey_4 : decode prog_1_method_31_code 4 = .ok (.iconst (4), 1) := by decide +kernel
theorem d_PS_addKey_5 : decode prog_1_method_31_code 5 = .ok (.iaload, 1) := by decide +kernel
theorem d_PS_addKey_6 : decode prog_1_method_31_code 6 = .ok (.istore 6, 2) := by decide +kernel
theorem d_PS_addKey_8 : decode prog_1_method_31_code 8 = .ok (.iload 6, 2) := by decide +kernel
theorem d_PS_addKey_10 : decode prog_1_method_31_code 10 = .ok (.sipush (16384), 3) := by decide +kernel
theorem d_PS_addKey_13 : decode prog_1_method_31_code 13 = .ok (.if_icmp .lt (6), 3) := by decide +kernel
theorem d_PS_addKey_16 : decode prog_1_method_31_code 16 = .ok (.bipush (-3), 2) := by decide +kernel
theorem d_PS_addKey_18 : decode prog_1_method_31_code 18 = .ok (.ireturn, 1) := by decide +kernel
theorem d_PS_addKey_19 : decode prog_1_method_31_code 19 = .ok (.aload_n 0, 1) := by decide +kernel
theorem d_PS_addKey_20 : decode prog_1_method_31_code 20 = .ok (.getfield 44, 3) := by decide +kernel
theorem d_PS_addKey_23 : decode prog_1_method_31_code 23 = .ok (.iload 6, 2) := by decide +kernel
theorem d_PS_addKey_25 : decode prog_1_method_31_code 25 = .ok (.iload_n 1, 1) := by decide +kernel
theorem d_PS_addKey_26 : decode prog_1_method_31_code 26 = .ok (.iload_n 2, 1) := by decide +kernel
theorem d_PS_addKey_27 : decode prog_1_method_31_code 27 = .ok (.iload_n 3, 1) := by decide +kernel
theorem d_PS_addKey_28 : decode prog_1_method_31_code 28 = .ok (.invokevirtual 160, 3) := by decide +kernel
theorem d_PS_addKey_31 : decode prog_1_method_31_code 31 = .ok (.aload_n 0, 1) := by decide +kernel
theorem d_PS_addKey_32 : decode prog_1_method_31_code 32 = .ok (.getfield 44, 3) := by decide +kernel
theorem d_PS_addKey_35 : decode prog_1_method_31_code 35 = .ok (.getfield 119, 3) := by decide +kernel
theorem d_PS_addKey_38 : decode prog_1_method_31_code 38 = .ok (.iload 6, 2) := by decide +kernel
theorem d_PS_addKey_40 : decode prog_1_method_31_code 40 = .ok (.iload 4, 2) := by decide +kernel
theorem d_PS_addKey_42 : decode prog_1_method_31_code 42 = .ok (.iload 5, 2) := by decide +kernel
theorem d_PS_addKey_44 : decode prog_1_method_31_code 44 = .ok (.invokevirtual 95, 3) := by decide +kernel
theorem d_PS_addKey_47 : decode prog_1_method_31_code 47 = .ok (.aload_n 0, 1) := by decide +kernel
theorem d_PS_addKey_48 : decode prog_1_method_31_code 48 = .ok (.getfield 9, 3) := by decide +kernel
theorem d_PS_addKey_51 : decode prog_1_method_31_code 51 = .ok (.iconst (4), 1) := by decide +kernel
theorem d_PS_addKey_52 : decode prog_1_method_31_code 52 = .ok (.iload 6, 2) := by decide +kernel
theorem d_PS_addKey_54 : decode prog_1_method_31_code 54 = .ok (.iconst (1), 1) := by decide +kernel
theorem d_PS_addKey_55 : decode prog_1_method_31_code 55 = .ok (.iadd, 1) := by decide +kernel
theorem d_PS_addKey_56 : decode prog_1_method_31_code 56 = .ok (.iastore, 1) := by decide +kernel
theorem d_PS_addKey_57 : decode prog_1_method_31_code 57 = .ok (.iconst (1), 1) := by decide +kernel
theorem d_PS_addKey_58 : decode prog_1_method_31_code 58 = .ok (.ireturn, 1) := by decide +kernel
theorem d_PS_find_0 : decode prog_1_method_13_code 0 = .ok (.aload_n 0, 1) := by decide +kernel
theorem d_PS_find_1 : decode prog_1_method_13_code 1 = .ok (.iload_n 1, 1) := by decide +kernel
theorem d_PS_find_2 : decode prog_1_method_13_code 2 = .ok (.iload_n 2, 1) := by decide +kernel
theorem d_PS_find_3 : decode prog_1_method_13_code 3 = .ok (.invokevirtual 108, 3) := by decide +kernel
theorem d_PS_find_6 : decode prog_1_method_13_code 6 = .ok (.ifCond .ne (5), 3) := by decide +kernel
theorem d_PS_find_9 : decode prog_1_method_13_code 9 = .ok (.iconst (-1), 1) := by decide +kernel
theorem d_PS_find_10 : decode prog_1_method_13_code 10 = .ok (.ireturn, 1) := by decide +kernel
theorem d_PS_find_11 : decode prog_1_method_13_code 11 = .ok (.aload_n 0, 1) := by decide +kernel
theorem d_PS_find_12 : decode prog_1_method_13_code 12 = .ok (.getfield 44, 3) := by decide +kernel
theorem d_PS_find_15 : decode prog_1_method_13_code 15 = .ok (.iload_n 1, 1) := by decide +kernel
theorem d_PS_find_16 : decode prog_1_method_13_code 16 = .ok (.iload_n 2, 1) := by decide +kernel
theorem d_PS_find_17 : decode prog_1_method_13_code 17 = .ok (.iload_n 3, 1) := by decide +kernel
theorem d_PS_find_18 : decode prog_1_method_13_code 18 = .ok (.aload_n 0, 1) := by decide +kernel
theorem d_PS_find_19 : decode prog_1_method_13_code 19 = .ok (.getfield 9, 3) := by decide +kernel
theorem d_PS_find_22 : decode prog_1_method_13_code 22 = .ok (.iconst (4), 1) := by decide +kernel
theorem d_PS_find_23 : decode prog_1_method_13_code 23 = .ok (.iaload, 1) := by decide +kernel
theorem d_PS_find_24 : decode prog_1_method_13_code 24 = .ok (.invokevirtual 122, 3) := by decide +kernel
theorem d_PS_find_27 : decode prog_1_method_13_code 27 = .ok (.istore 4, 2) := by decide +kernel
theorem d_PS_find_29 : decode prog_1_method_13_code 29 = .ok (.iload 4, 2) := by decide +kernel
theorem d_PS_find_31 : decode prog_1_method_13_code 31 = .ok (.iconst (-1), 1) := by decide +kernel
theorem d_PS_find_32 : decode prog_1_method_13_code 32 = .ok (.if_icmp .ne (8), 3) := by decide +kernel
theorem d_PS_find_35 : decode prog_1_method_13_code 35 = .ok (.bipush (-2), 2) := by decide +kernel
theorem d_PS_find_37 : decode prog_1_method_13_code 37 = .ok (.goto (18), 3) := by decide +kernel
theorem d_PS_find_40 : decode prog_1_method_13_code 40 = .ok (.aload_n 0, 1) := by decide +kernel
theorem d_PS_find_41 : decode prog_1_method_13_code 41 = .ok (.getfield 44, 3) := by decide +kernel
theorem d_PS_find_44 : decode prog_1_method_13_code 44 = .ok (.getfield 119, 3) := by decide +kernel
theorem d_PS_find_47 : decode prog_1_method_13_code 47 = .ok (.getfield 99, 3) := by decide +kernel
theorem d_PS_find_50 : decode prog_1_method_13_code 50 = .ok (.iload 4, 2) := by decide +kernel
theorem d_PS_find_52 : decode prog_1_method_13_code 52 = .ok (.invokevirtual 75, 3) := by decide +kernel
theorem d_PS_find_55 : decode prog_1_method_13_code 55 = .ok (.ireturn, 1) := by decide +kernel
theorem d_PS_found_0 : decode prog_1_method_14_code 0 = .ok (.aload_n 0, 1) := by decide +kernel
theorem d_PS_found_1 : decode prog_1_method_14_code 1 = .ok (.getfield 44, 3) := by decide +kernel
theorem d_PS_found_4 : decode prog_1_method_14_code 4 = .ok (.iload_n 1, 1) := by decide +kernel
theorem d_PS_found_5 : decode prog_1_method_14_code 5 = .ok (.iload_n 2, 1) := by decide +kernel
theorem d_PS_found_6 : decode prog_1_method_14_code 6 = .ok (.iload_n 3, 1) := by decide +kernel
theorem d_PS_found_7 : decode prog_1_method_14_code 7 = .ok (.aload_n 0, 1) := by decide +kernel
theorem d_PS_found_8 : decode prog_1_method_14_code 8 = .ok (.getfield 9, 3) := by decide +kernel
theorem d_PS_found_11 : decode prog_1_method_14_code 11 = .ok (.iconst (4), 1) := by decide +kernel
theorem d_PS_found_12 : decode prog_1_method_14_code 12 = .ok (.iaload, 1) := by decide +kernel
theorem d_PS_found_13 : decode prog_1_method_14_code 13 = .ok (.invokevirtual 122, 3) := by decide +kernel
theorem d_PS_found_16 : decode prog_1_method_14_code 16 = .ok (.istore 4, 2) := by decide +kernel
theorem d_PS_found_18 : decode prog_1_method_14_code 18 = .ok (.iload 4, 2) := by decide +kernel
theorem d_PS_found_20 : decode prog_1_method_14_code 20 = .ok (.iconst (-1), 1) := by decide +kernel
theorem d_PS_found_21 : decode prog_1_method_14_code 21 = .ok (.if_icmp .ne (7), 3) := by decide +kernel
theorem d_PS_found_24 : decode prog_1_method_14_code 24 = .ok (.iconst (0), 1) := by decide +kernel
theorem d_PS_found_25 : decode prog_1_method_14_code 25 = .ok (.goto (18), 3) := by decide +kernel
theorem d_PS_found_28 : decode prog_1_method_14_code 28 = .ok (.aload_n 0, 1) := by decide +kernel
theorem d_PS_found_29 : decode prog_1_method_14_code 29 = .ok (.getfield 44, 3) := by decide +kernel
theorem d_PS_found_32 : decode prog_1_method_14_code 32 = .ok (.getfield 119, 3) := by decide +kernel
theorem d_PS_found_35 : decode prog_1_method_14_code 35 = .ok (.getfield 102, 3) := by decide +kernel
theorem d_PS_found_38 : decode prog_1_method_14_code 38 = .ok (.iload 4, 2) := by decide +kernel
theorem d_PS_found_40 : decode prog_1_method_14_code 40 = .ok (.invokevirtual 75, 3) := by decide +kernel
theorem d_PS_found_43 : decode prog_1_method_14_code 43 = .ok (.ireturn, 1) := by decide +kernel
theorem d_PS_undefine_0 : decode prog_1_method_15_code 0 = .ok (.aload_n 0, 1) := by decide +kernel
theorem d_PS_undefine_1 : decode prog_1_method_15_code 1 = .ok (.iload_n 1, 1) := by decide +kernel
theorem d_PS_undefine_2 : decode prog_1_method_15_code 2 = .ok (.iload_n 2, 1) := by decide +kernel
theorem d_PS_undefine_3 : decode prog_1_method_15_code 3 = .ok (.invokevirtual 108, 3) := by decide +kernel
theorem d_PS_undefine_6 : decode prog_1_method_15_code 6 = .ok (.ifCond .ne (5), 3) := by decide +kernel
theorem d_PS_undefine_9 : decode prog_1_method_15_code 9 = .ok (.iconst (-1), 1) := by decide +kernel
theorem d_PS_undefine_10 : decode prog_1_method_15_code 10 = .ok (.ireturn, 1) := by decide +kernel
theorem d_PS_undefine_11 : decode prog_1_method_15_code 11 = .ok (.aload_n 0, 1) := by decide +kernel
theorem d_PS_undefine_12 : decode prog_1_method_15_code 12 = .ok (.getfield 44, 3) := by decide +kernel
theorem d_PS_undefine_15 : decode prog_1_method_15_code 15 = .ok (.iload_n 1, 1) := by decide +kernel
theorem d_PS_undefine_16 : decode prog_1_method_15_code 16 = .ok (.iload_n 2, 1) := by decide +kernel
theorem d_PS_undefine_17 : decode prog_1_method_15_code 17 = .ok (.iload_n 3, 1) := by decide +kernel
theorem d_PS_undefine_18 : decode prog_1_method_15_code 18 = .ok (.aload_n 0, 1) := by decide +kernel
theorem d_PS_undefine_19 : decode prog_1_method_15_code 19 = .ok (.getfield 9, 3) := by decide +kernel
theorem d_PS_undefine_22 : decode prog_1_method_15_code 22 = .ok (.iconst (4), 1) := by decide +kernel
theorem d_PS_undefine_23 : decode prog_1_method_15_code 23 = .ok (.iaload, 1) := by decide +kernel
theorem d_PS_undefine_24 : decode prog_1_method_15_code 24 = .ok (.invokevirtual 122, 3) := by decide +kernel
theorem d_PS_undefine_27 : decode prog_1_method_15_code 27 = .ok (.istore 4, 2) := by decide +kernel
theorem d_PS_undefine_29 : decode prog_1_method_15_code 29 = .ok (.iload 4, 2) := by decide +kernel
theorem d_PS_undefine_31 : decode prog_1_method_15_code 31 = .ok (.iconst (-1), 1) := by decide +kernel
theorem d_PS_undefine_32 : decode prog_1_method_15_code 32 = .ok (.if_icmp .ne (6), 3) := by decide +kernel
theorem d_PS_undefine_35 : decode prog_1_method_15_code 35 = .ok (.bipush (-2), 2) := by decide +kernel
theorem d_PS_undefine_37 : decode prog_1_method_15_code 37 = .ok (.ireturn, 1) := by decide +kernel
theorem d_PS_undefine_38 : decode prog_1_method_15_code 38 = .ok (.aload_n 0, 1) := by decide +kernel
theorem d_PS_undefine_39 : decode prog_1_method_15_code 39 = .ok (.iconst (4), 1) := by decide +kernel
theorem d_PS_undefine_40 : decode prog_1_method_15_code 40 = .ok (.iload 4, 2) := by decide +kernel
theorem d_PS_undefine_42 : decode prog_1_method_15_code 42 = .ok (.invokevirtual 92, 3) := by decide +kernel
theorem d_PS_undefine_45 : decode prog_1_method_15_code 45 = .ok (.ifCond .ne (6), 3) := by decide +kernel
theorem d_PS_undefine_48 : decode prog_1_method_15_code 48 = .ok (.bipush (-3), 2) := by decide +kernel
theorem d_PS_undefine_50 : decode prog_1_method_15_code 50 = .ok (.ireturn, 1) := by decide +kernel
theorem d_PS_undefine_51 : decode prog_1_method_15_code 51 = .ok (.aload_n 0, 1) := by decide +kernel
theorem d_PS_undefine_52 : decode prog_1_method_15_code 52 = .ok (.getfield 44, 3) := by decide +kernel
theorem d_PS_undefine_55 : decode prog_1_method_15_code 55 = .ok (.getfield 119, 3) := by decide +kernel
theorem d_PS_undefine_58 : decode prog_1_method_15_code 58 = .ok (.iload 4, 2) := by decide +kernel
theorem d_PS_undefine_60 : decode prog_1_method_15_code 60 = .ok (.iconst (-1), 1) := by decide +kernel
theorem d_PS_undefine_61 : decode prog_1_method_15_code 61 = .ok (.iconst (0), 1) := by decide +kernel
theorem d_PS_undefine_62 : decode prog_1_method_15_code 62 = .ok (.invokevirtual 95, 3) := by decide +kernel
theorem d_PS_undefine_65 : decode prog_1_method_15_code 65 = .ok (.iconst (1), 1) := by decide +kernel
theorem d_PS_undefine_66 : decode prog_1_method_15_code 66 = .ok (.ireturn, 1) := by decide +kernel
theorem d_PS_count_0 : decode prog_1_method_16_code 0 = .ok (.aload_n 0, 1) := by decide +kernel
theorem d_PS_count_1 : decode prog_1_method_16_code 1 = .ok (.iload_n 1, 1) := by decide +kernel
theorem d_PS_count_2 : decode prog_1_method_16_code 2 = .ok (.invokevirtual 125, 3) := by decide +kernel
theorem d_PS_count_5 : decode prog_1_method_16_code 5 = .ok (.ifCond .eq (20), 3) := by decide +kernel
theorem d_PS_count_8 : decode prog_1_method_16_code 8 = .ok (.aload_n 0, 1) := by decide +kernel
theorem d_PS_count_9 : decode prog_1_method_16_code 9 = .ok (.getfield 44, 3) := by decide +kernel
theorem d_PS_count_12 : decode prog_1_method_16_code 12 = .ok (.iload_n 1, 1) := by decide +kernel
theorem d_PS_count_13 : decode prog_1_method_16_code 13 = .ok (.aload_n 0, 1) := by decide +kernel
theorem d_PS_count_14 : decode prog_1_method_16_code 14 = .ok (.getfield 9, 3) := by decide +kernel
theorem d_PS_count_17 : decode prog_1_method_16_code 17 = .ok (.iconst (4), 1) := by decide +kernel
theorem d_PS_count_18 : decode prog_1_method_16_code 18 = .ok (.iaload, 1) := by decide +kernel
theorem d_PS_count_19 : decode prog_1_method_16_code 19 = .ok (.invokevirtual 128, 3) := by decide +kernel
theorem d_PS_count_22 : decode prog_1_method_16_code 22 = .ok (.goto (4), 3) := by decide +kernel
theorem d_PS_count_25 : decode prog_1_method_16_code 25 = .ok (.iconst (-1), 1) := by decide +kernel
theorem d_PS_count_26 : decode prog_1_method_16_code 26 = .ok (.ireturn, 1) := by decide +kernel
theorem d_PS_next_0 : decode prog_1_method_17_code 0 = .ok (.aload_n 0, 1) := by decide +kernel
theorem d_PS_next_1 : decode prog_1_method_17_code 1 = .ok (.iload_n 1, 1) := by decide +kernel
theorem d_PS_next_2 : decode prog_1_method_17_code 2 = .ok (.invokevirtual 125, 3) := by decide +kernel
theorem d_PS_next_5 : decode prog_1_method_17_code 5 = .ok (.ifCond .eq (11), 3) := by decide +kernel
theorem d_PS_next_8 : decode prog_1_method_17_code 8 = .ok (.iload_n 2, 1) := by decide +kernel
theorem d_PS_next_9 : decode prog_1_method_17_code 9 = .ok (.iconst (0), 1) := by decide +kernel
theorem d_PS_next_10 : decode prog_1_method_17_code 10 = .ok (.invokestatic 88, 3) := by decide +kernel
theorem d_PS_next_13 : decode prog_1_method_17_code 13 = .ok (.ifCond .ne (5), 3) := by decide +kernel
theorem d_PS_next_16 : decode prog_1_method_17_code 16 = .ok (.iconst (-1), 1) := by decide +kernel
theorem d_PS_next_17 : decode prog_1_method_17_code 17 = .ok (.ireturn, 1) := by decide +kernel
theorem d_PS_next_18 : decode prog_1_method_17_code 18 = .ok (.iconst (0), 1) := by decide +kernel
theorem d_PS_next_19 : decode prog_1_method_17_code 19 = .ok (.istore 4, 2) := by decide +kernel
theorem d_PS_next_21 : decode prog_1_method_17_code 21 = .ok (.iload_n 2, 1) := by decide +kernel
theorem d_PS_next_22 : decode prog_1_method_17_code 22 = .ok (.ifCond .eq (36), 3) := by decide +kernel
theorem d_PS_next_25 : decode prog_1_method_17_code 25 = .ok (.aload_n 0, 1) := by decide +kernel
theorem d_PS_next_26 : decode prog_1_method_17_code 26 = .ok (.getfield 44, 3) := by decide +kernel
theorem d_PS_next_29 : decode prog_1_method_17_code 29 = .ok (.iload_n 1, 1) := by decide +kernel
theorem d_PS_next_30 : decode prog_1_method_17_code 30 = .ok (.iload_n 2, 1) := by decide +kernel
theorem d_PS_next_31 : decode prog_1_method_17_code 31 = .ok (.iload_n 3, 1) := by decide +kernel
theorem d_PS_next_32 : decode prog_1_method_17_code 32 = .ok (.aload_n 0, 1) := by decide +kernel
theorem d_PS_next_33 : decode prog_1_method_17_code 33 = .ok (.getfield 9, 3) := by decide +kernel
theorem d_PS_next_36 : decode prog_1_method_17_code 36 = .ok (.iconst (4), 1) := by decide +kernel
theorem d_PS_next_37 : decode prog_1_method_17_code 37 = .ok (.iaload, 1) := by decide +kernel
theorem d_PS_next_38 : decode prog_1_method_17_code 38 = .ok (.invokevirtual 111, 3) := by decide +kernel
theorem d_PS_next_41 : decode prog_1_method_17_code 41 = .ok (.istore 5, 2) := by decide +kernel
theorem d_PS_next_43 : decode prog_1_method_17_code 43 = .ok (.iload 5, 2) := by decide +kernel
theorem d_PS_next_45 : decode prog_1_method_17_code 45 = .ok (.iconst (-1), 1) := by decide +kernel
theorem d_PS_next_46 : decode prog_1_method_17_code 46 = .ok (.if_icmp .ne (6), 3) := by decide +kernel
theorem d_PS_next_49 : decode prog_1_method_17_code 49 = .ok (.bipush (-2), 2) := by decide +kernel
theorem d_PS_next_51 : decode prog_1_method_17_code 51 = .ok (.ireturn, 1) := by decide +kernel
theorem d_PS_next_52 : decode prog_1_method_17_code 52 = .ok (.iload 5, 2) := by decide +kernel
theorem d_PS_next_54 : decode prog_1_method_17_code 54 = .ok (.iconst (1), 1) := by decide +kernel
theorem d_PS_next_55 : decode prog_1_method_17_code 55 = .ok (.iadd, 1) := by decide +kernel
theorem d_PS_next_56 : decode prog_1_method_17_code 56 = .ok (.istore 4, 2) := by decide +kernel
theorem d_PS_next_58 : decode prog_1_method_17_code 58 = .ok (.aload_n 0, 1) := by decide +kernel
theorem d_PS_next_59 : decode prog_1_method_17_code 59 = .ok (.aload_n 0, 1) := by decide +kernel
theorem d_PS_next_60 : decode prog_1_method_17_code 60 = .ok (.getfield 44, 3) := by decide +kernel
theorem d_PS_next_63 : decode prog_1_method_17_code 63 = .ok (.iload_n 1, 1) := by decide +kernel
theorem d_PS_next_64 : decode prog_1_method_17_code 64 = .ok (.iload 4, 2) := by decide +kernel
theorem d_PS_next_66 : decode prog_1_method_17_code 66 = .ok (.aload_n 0, 1) := by decide +kernel
theorem d_PS_next_67 : decode prog_1_method_17_code 67 = .ok (.getfield 9, 3) := by decide +kernel
theorem d_PS_next_70 : decode prog_1_method_17_code 70 = .ok (.iconst (4), 1) := by decide +kernel
theorem d_PS_next_71 : decode prog_1_method_17_code 71 = .ok (.iaload, 1) := by decide +kernel
theorem d_PS_next_72 : decode prog_1_method_17_code 72 = .ok (.invokevirtual 132, 3) := by decide +kernel
theorem d_PS_next_75 : decode prog_1_method_17_code 75 = .ok (.invokevirtual 135, 3) := by decide +kernel
theorem d_PS_next_78 : decode prog_1_method_17_code 78 = .ok (.ireturn, 1) := by decide +kernel
theorem d_PS_moveCursor_0 : decode prog_1_method_32_code 0 = .ok (.iload_n 1, 1) := by decide +kernel
theorem d_PS_moveCursor_1 : decode prog_1_method_32_code 1 = .ok (.iconst (-1), 1) := by decide +kernel
theorem d_PS_moveCursor_2 : decode prog_1_method_32_code 2 = .ok (.if_icmp .ne (15), 3) := by decide +kernel
theorem d_PS_moveCursor_5 : decode prog_1_method_32_code 5 = .ok (.aload_n 0, 1) := by decide +kernel
theorem d_PS_moveCursor_6 : decode prog_1_method_32_code 6 = .ok (.iconst (0), 1) := by decide +kernel
theorem d_PS_moveCursor_7 : decode prog_1_method_32_code 7 = .ok (.putfield 138, 3) := by decide +kernel
theorem d_PS_moveCursor_10 : decode prog_1_method_32_code 10 = .ok (.aload_n 0, 1) := by decide +kernel
theorem d_PS_moveCursor_11 : decode prog_1_method_32_code 11 = .ok (.iconst (0), 1) := by decide +kernel
theorem d_PS_moveCursor_12 : decode prog_1_method_32_code 12 = .ok (.putfield 142, 3) := by decide +kernel
theorem d_PS_moveCursor_15 : decode prog_1_method_32_code 15 = .ok (.iconst (0), 1) := by decide +kernel
theorem d_PS_moveCursor_16 : decode prog_1_method_32_code 16 = .ok (.ireturn, 1) := by decide +kernel
theorem d_PS_moveCursor_17 : decode prog_1_method_32_code 17 = .ok (.aload_n 0, 1) := by decide +kernel
theorem d_PS_moveCursor_18 : decode prog_1_method_32_code 18 = .ok (.aload_n 0, 1) := by decide +kernel
theorem d_PS_moveCursor_19 : decode prog_1_method_32_code 19 = .ok (.getfield 44, 3) := by decide +kernel
theorem d_PS_moveCursor_22 : decode prog_1_method_32_code 22 = .ok (.getfield 161, 3) := by decide +kernel
theorem d_PS_moveCursor_25 : decode prog_1_method_32_code 25 = .ok (.iload_n 1, 1) := by decide +kernel
theorem d_PS_moveCursor_26 : decode prog_1_method_32_code 26 = .ok (.invokevirtual 75, 3) := by decide +kernel
theorem d_PS_moveCursor_29 : decode prog_1_method_32_code 29 = .ok (.putfield 138, 3) := by decide +kernel
theorem d_PS_moveCursor_32 : decode prog_1_method_32_code 32 = .ok (.aload_n 0, 1) := by decide +kernel
theorem d_PS_moveCursor_33 : decode prog_1_method_32_code 33 = .ok (.aload_n 0, 1) := by decide +kernel
theorem d_PS_moveCursor_34 : decode prog_1_method_32_code 34 = .ok (.getfield 44, 3) := by decide +kernel
theorem d_PS_moveCursor_37 : decode prog_1_method_32_code 37 = .ok (.getfield 162, 3) := by decide +kernel
theorem d_PS_moveCursor_40 : decode prog_1_method_32_code 40 = .ok (.iload_n 1, 1) := by decide +kernel
theorem d_PS_moveCursor_41 : decode prog_1_method_32_code 41 = .ok (.invokevirtual 75, 3) := by decide +kernel
theorem d_PS_moveCursor_44 : decode prog_1_method_32_code 44 = .ok (.putfield 142, 3) := by decide +kernel
theorem d_PS_moveCursor_47 : decode prog_1_method_32_code 47 = .ok (.iconst (1), 1) := by decide +kernel
theorem d_PS_moveCursor_48 : decode prog_1_method_32_code 48 = .ok (.ireturn, 1) := by decide +kernel
theorem d_PS_cursorKind_0 : decode prog_1_method_18_code 0 = .ok (.aload_n 0, 1) := by decide +kernel
theorem d_PS_cursorKind_1 : decode prog_1_method_18_code 1 = .ok (.getfield 138, 3) := by decide +kernel
theorem d_PS_cursorKind_4 : decode prog_1_method_18_code 4 = .ok (.ireturn, 1) := by decide +kernel
theorem d_PS_cursorNumber_0 : decode prog_1_method_19_code 0 = .ok (.aload_n 0, 1) := by decide +kernel
theorem d_PS_cursorNumber_1 : decode prog_1_method_19_code 1 = .ok (.getfield 142, 3) := by decide +kernel
theorem d_PS_cursorNumber_4 : decode prog_1_method_19_code 4 = .ok (.ireturn, 1) := by decide +kernel
theorem d_PS_save_0 : decode prog_1_method_20_code 0 = .ok (.aload_n 0, 1) := by decide +kernel
theorem d_PS_save_1 : decode prog_1_method_20_code 1 = .ok (.getfield 145, 3) := by decide +kernel
theorem d_PS_save_4 : decode prog_1_method_20_code 4 = .ok (.bipush (15), 2) := by decide +kernel
theorem d_PS_save_6 : decode prog_1_method_20_code 6 = .ok (.if_icmp .lt (6), 3) := by decide +kernel
theorem d_PS_save_9 : decode prog_1_method_20_code 9 = .ok (.bipush (-3), 2) := by decide +kernel
theorem d_PS_save_11 : decode prog_1_method_20_code 11 = .ok (.ireturn, 1) := by decide +kernel
theorem d_PS_save_12 : decode prog_1_method_20_code 12 = .ok (.iconst (0), 1) := by decide +kernel
theorem d_PS_save_13 : decode prog_1_method_20_code 13 = .ok (.istore_n 1, 1) := by decide +kernel
theorem d_PS_save_14 : decode prog_1_method_20_code 14 = .ok (.iload_n 1, 1) := by decide +kernel
theorem d_PS_save_15 : decode prog_1_method_20_code 15 = .ok (.bipush (6), 2) := by decide +kernel
theorem d_PS_save_17 : decode prog_1_method_20_code 17 = .ok (.if_icmp .ge (31), 3) := by decide +kernel
theorem d_PS_save_20 : decode prog_1_method_20_code 20 = .ok (.aload_n 0, 1) := by decide +kernel
theorem d_PS_save_21 : decode prog_1_method_20_code 21 = .ok (.getfield 18, 3) := by decide +kernel
theorem d_PS_save_24 : decode prog_1_method_20_code 24 = .ok (.aload_n 0, 1) := by decide +kernel
theorem d_PS_save_25 : decode prog_1_method_20_code 25 = .ok (.getfield 145, 3) := by decide +kernel
theorem d_PS_save_28 : decode prog_1_method_20_code 28 = .ok (.bipush (6), 2) := by decide +kernel
theorem d_PS_save_30 : decode prog_1_method_20_code 30 = .ok (.imul, 1) := by decide +kernel
theorem d_PS_save_31 : decode prog_1_method_20_code 31 = .ok (.iload_n 1, 1) := by decide +kernel
theorem d_PS_save_32 : decode prog_1_method_20_code 32 = .ok (.iadd, 1) := by decide +kernel
theorem d_PS_save_33 : decode prog_1_method_20_code 33 = .ok (.aload_n 0, 1) := by decide +kernel
theorem d_PS_save_34 : decode prog_1_method_20_code 34 = .ok (.getfield 9, 3) := by decide +kernel
theorem d_PS_save_37 : decode prog_1_method_20_code 37 = .ok (.iload_n 1, 1) := by decide +kernel
theorem d_PS_save_38 : decode prog_1_method_20_code 38 = .ok (.iaload, 1) := by decide +kernel
theorem d_PS_save_39 : decode prog_1_method_20_code 39 = .ok (.invokevirtual 105, 3) := by decide +kernel
theorem d_PS_save_42 : decode prog_1_method_20_code 42 = .ok (.iinc 1 (1), 3) := by decide +kernel
theorem d_PS_save_45 : decode prog_1_method_20_code 45 = .ok (.goto (-31), 3) := by decide +kernel
theorem d_PS_save_48 : decode prog_1_method_20_code 48 = .ok (.aload_n 0, 1) := by decide +kernel
theorem d_PS_save_49 : decode prog_1_method_20_code 49 = .ok (.dup, 1) := by decide +kernel
theorem d_PS_save_50 : decode prog_1_method_20_code 50 = .ok (.getfield 145, 3) := by decide +kernel
theorem d_PS_save_53 : decode prog_1_method_20_code 53 = .ok (.iconst (1), 1) := by decide +kernel
theorem d_PS_save_54 : decode prog_1_method_20_code 54 = .ok (.iadd, 1) := by decide +kernel
theorem d_PS_save_55 : decode prog_1_method_20_code 55 = .ok (.putfield 145, 3) := by decide +kernel
theorem d_PS_save_58 : decode prog_1_method_20_code 58 = .ok (.aload_n 0, 1) := by decide +kernel
theorem d_PS_save_59 : decode prog_1_method_20_code 59 = .ok (.getfield 145, 3) := by decide +kernel
theorem d_PS_save_62 : decode prog_1_method_20_code 62 = .ok (.ireturn, 1) := by decide +kernel
theorem d_PS_restore_0 : decode prog_1_method_21_code 0 = .ok (.aload_n 0, 1) := by decide +kernel
theorem d_PS_restore_1 : decode prog_1_method_21_code 1 = .ok (.iload_n 1, 1) := by decide +kernel
theorem d_PS_restore_2 : decode prog_1_method_21_code 2 = .ok (.invokevirtual 148, 3) := by decide +kernel
theorem d_PS_restore_5 : decode prog_1_method_21_code 5 = .ok (.ifCond .ne (5), 3) := by decide +kernel
theorem d_PS_restore_8 : decode prog_1_method_21_code 8 = .ok (.iconst (-1), 1) := by decide +kernel
theorem d_PS_restore_9 : decode prog_1_method_21_code 9 = .ok (.ireturn, 1) := by decide +kernel
theorem d_PS_restore_10 : decode prog_1_method_21_code 10 = .ok (.aload_n 0, 1) := by decide +kernel
theorem d_PS_restore_11 : decode prog_1_method_21_code 11 = .ok (.aload_n 0, 1) := by decide +kernel
theorem d_PS_restore_12 : decode prog_1_method_21_code 12 = .ok (.iload_n 1, 1) := by decide +kernel
theorem d_PS_restore_13 : decode prog_1_method_21_code 13 = .ok (.iconst (5), 1) := by decide +kernel
theorem d_PS_restore_14 : decode prog_1_method_21_code 14 = .ok (.invokevirtual 151, 3) := by decide +kernel
theorem d_PS_restore_17 : decode prog_1_method_21_code 17 = .ok (.invokevirtual 154, 3) := by decide +kernel
theorem d_PS_restore_20 : decode prog_1_method_21_code 20 = .ok (.iconst (0), 1) := by decide +kernel
theorem d_PS_restore_21 : decode prog_1_method_21_code 21 = .ok (.istore_n 2, 1) := by decide +kernel
theorem d_PS_restore_22 : decode prog_1_method_21_code 22 = .ok (.iload_n 2, 1) := by decide +kernel
theorem d_PS_restore_23 : decode prog_1_method_21_code 23 = .ok (.bipush (6), 2) := by decide +kernel
theorem d_PS_restore_25 : decode prog_1_method_21_code 25 = .ok (.if_icmp .ge (21), 3) := by decide +kernel
theorem d_PS_restore_28 : decode prog_1_method_21_code 28 = .ok (.aload_n 0, 1) := by decide +kernel
theorem d_PS_restore_29 : decode prog_1_method_21_code 29 = .ok (.getfield 9, 3) := by decide +kernel
theorem d_PS_restore_32 : decode prog_1_method_21_code 32 = .ok (.iload_n 2, 1) := by decide +kernel
theorem d_PS_restore_33 : decode prog_1_method_21_code 33 = .ok (.aload_n 0, 1) := by decide +kernel
theorem d_PS_restore_34 : decode prog_1_method_21_code 34 = .ok (.iload_n 1, 1) := by decide +kernel
theorem d_PS_restore_35 : decode prog_1_method_21_code 35 = .ok (.iload_n 2, 1) := by decide +kernel
theorem d_PS_restore_36 : decode prog_1_method_21_code 36 = .ok (.invokevirtual 151, 3) := by decide +kernel
theorem d_PS_restore_39 : decode prog_1_method_21_code 39 = .ok (.iastore, 1) := by decide +kernel
theorem d_PS_restore_40 : decode prog_1_method_21_code 40 = .ok (.iinc 2 (1), 3) := by decide +kernel
theorem d_PS_restore_43 : decode prog_1_method_21_code 43 = .ok (.goto (-21), 3) := by decide +kernel
theorem d_PS_restore_46 : decode prog_1_method_21_code 46 = .ok (.aload_n 0, 1) := by decide +kernel
theorem d_PS_restore_47 : decode prog_1_method_21_code 47 = .ok (.iload_n 1, 1) := by decide +kernel
theorem d_PS_restore_48 : decode prog_1_method_21_code 48 = .ok (.iconst (1), 1) := by decide +kernel
theorem d_PS_restore_49 : decode prog_1_method_21_code 49 = .ok (.isub, 1) := by decide +kernel
theorem d_PS_restore_50 : decode prog_1_method_21_code 50 = .ok (.putfield 145, 3) := by decide +kernel
theorem d_PS_restore_53 : decode prog_1_method_21_code 53 = .ok (.aload_n 0, 1) := by decide +kernel
theorem d_PS_restore_54 : decode prog_1_method_21_code 54 = .ok (.getfield 145, 3) := by decide +kernel
theorem d_PS_restore_57 : decode prog_1_method_21_code 57 = .ok (.ireturn, 1) := by decide +kernel
theorem d_PS_isSave_0 : decode prog_1_method_27_code 0 = .ok (.iload_n 1, 1) := by decide +kernel
theorem d_PS_isSave_1 : decode prog_1_method_27_code 1 = .ok (.iconst (1), 1) := by decide +kernel
theorem d_PS_isSave_2 : decode prog_1_method_27_code 2 = .ok (.if_icmp .lt (15), 3) := by decide +kernel
theorem d_PS_isSave_5 : decode prog_1_method_27_code 5 = .ok (.iload_n 1, 1) := by decide +kernel
theorem d_PS_isSave_6 : decode prog_1_method_27_code 6 = .ok (.aload_n 0, 1) := by decide +kernel
theorem d_PS_isSave_7 : decode prog_1_method_27_code 7 = .ok (.getfield 145, 3) := by decide +kernel
theorem d_PS_isSave_10 : decode prog_1_method_27_code 10 = .ok (.if_icmp .gt (7), 3) := by decide +kernel
theorem d_PS_isSave_13 : decode prog_1_method_27_code 13 = .ok (.iconst (1), 1) := by decide +kernel
theorem d_PS_isSave_14 : decode prog_1_method_27_code 14 = .ok (.goto (4), 3) := by decide +kernel
theorem d_PS_isSave_17 : decode prog_1_method_27_code 17 = .ok (.iconst (0), 1) := by decide +kernel
theorem d_PS_isSave_18 : decode prog_1_method_27_code 18 = .ok (.ireturn, 1) := by decide +kernel
theorem d_PS_putBack_0 : decode prog_1_method_36_code 0 = .ok (.aload_n 0, 1) := by decide +kernel
theorem d_PS_putBack_1 : decode prog_1_method_36_code 1 = .ok (.getfield 9, 3) := by decide +kernel
theorem d_PS_putBack_4 : decode prog_1_method_36_code 4 = .ok (.iconst (5), 1) := by decide +kernel
theorem d_PS_putBack_5 : decode prog_1_method_36_code 5 = .ok (.iaload, 1) := by decide +kernel
theorem d_PS_putBack_6 : decode prog_1_method_36_code 6 = .ok (.iconst (1), 1) := by decide +kernel
theorem d_PS_putBack_7 : decode prog_1_method_36_code 7 = .ok (.isub, 1) := by decide +kernel
theorem d_PS_putBack_8 : decode prog_1_method_36_code 8 = .ok (.istore_n 2, 1) := by decide +kernel
theorem d_PS_putBack_9 : decode prog_1_method_36_code 9 = .ok (.iload_n 2, 1) := by decide +kernel
theorem d_PS_putBack_10 : decode prog_1_method_36_code 10 = .ok (.iload_n 1, 1) := by decide +kernel
theorem d_PS_putBack_11 : decode prog_1_method_36_code 11 = .ok (.if_icmp .lt (68), 3) := by decide +kernel
theorem d_PS_putBack_14 : decode prog_1_method_36_code 14 = .ok (.aload_n 0, 1) := by decide +kernel
theorem d_PS_putBack_15 : decode prog_1_method_36_code 15 = .ok (.aload_n 0, 1) := by decide +kernel
theorem d_PS_putBack_16 : decode prog_1_method_36_code 16 = .ok (.getfield 51, 3) := by decide +kernel
theorem d_PS_putBack_19 : decode prog_1_method_36_code 19 = .ok (.getfield 178, 3) := by decide +kernel
theorem d_PS_putBack_22 : decode prog_1_method_36_code 22 = .ok (.iload_n 2, 1) := by decide +kernel
theorem d_PS_putBack_23 : decode prog_1_method_36_code 23 = .ok (.invokevirtual 75, 3) := by decide +kernel
theorem d_PS_putBack_26 : decode prog_1_method_36_code 26 = .ok (.invokevirtual 167, 3) := by decide +kernel
theorem d_PS_putBack_29 : decode prog_1_method_36_code 29 = .ok (.astore_n 3, 1) := by decide +kernel
theorem d_PS_putBack_30 : decode prog_1_method_36_code 30 = .ok (.aload_n 3, 1) := by decide +kernel
theorem d_PS_putBack_31 : decode prog_1_method_36_code 31 = .ok (.aload_n 0, 1) := by decide +kernel
theorem d_PS_putBack_32 : decode prog_1_method_36_code 32 = .ok (.getfield 51, 3) := by decide +kernel
theorem d_PS_putBack_35 : decode prog_1_method_36_code 35 = .ok (.getfield 181, 3) := by decide +kernel
theorem d_PS_putBack_38 : decode prog_1_method_36_code 38 = .ok (.iload_n 2, 1) := by decide +kernel
theorem d_PS_putBack_39 : decode prog_1_method_36_code 39 = .ok (.invokevirtual 75, 3) := by decide +kernel
theorem d_PS_putBack_42 : decode prog_1_method_36_code 42 = .ok (.aload_n 0, 1) := by decide +kernel
theorem d_PS_putBack_43 : decode prog_1_method_36_code 43 = .ok (.getfield 51, 3) := by decide +kernel
theorem d_PS_putBack_46 : decode prog_1_method_36_code 46 = .ok (.getfield 184, 3) := by decide +kernel
theorem d_PS_putBack_49 : decode prog_1_method_36_code 49 = .ok (.getfield 99, 3) := by decide +kernel
theorem d_PS_putBack_52 : decode prog_1_method_36_code 52 = .ok (.iload_n 2, 1) := by decide +kernel
theorem d_PS_putBack_53 : decode prog_1_method_36_code 53 = .ok (.invokevirtual 75, 3) := by decide +kernel
theorem d_PS_putBack_56 : decode prog_1_method_36_code 56 = .ok (.aload_n 0, 1) := by decide +kernel
theorem d_PS_putBack_57 : decode prog_1_method_36_code 57 = .ok (.getfield 51, 3) := by decide +kernel
theorem d_PS_putBack_60 : decode prog_1_method_36_code 60 = .ok (.getfield 184, 3) := by decide +kernel
theorem d_PS_putBack_63 : decode prog_1_method_36_code 63 = .ok (.getfield 102, 3) := by decide +kernel
theorem d_PS_putBack_66 : decode prog_1_method_36_code 66 = .ok (.iload_n 2, 1) := by decide +kernel
theorem d_PS_putBack_67 : decode prog_1_method_36_code 67 = .ok (.invokevirtual 75, 3) := by decide +kernel
theorem d_PS_putBack_70 : decode prog_1_method_36_code 70 = .ok (.invokevirtual 95, 3) := by decide +kernel
theorem d_PS_putBack_73 : decode prog_1_method_36_code 73 = .ok (.iinc 2 (-1), 3) := by decide +kernel
theorem d_PS_putBack_76 : decode prog_1_method_36_code 76 = .ok (.goto (-67), 3) := by decide +kernel
theorem d_PS_putBack_79 : decode prog_1_method_36_code 79 = .ok (.return_, 1) := by decide +kernel
theorem d_PS_noted_0 : decode prog_1_method_22_code 0 = .ok (.iload_n 2, 1) := by decide +kernel
theorem d_PS_noted_1 : decode prog_1_method_22_code 1 = .ok (.ifCond .lt (9), 3) := by decide +kernel
theorem d_PS_noted_4 : decode prog_1_method_22_code 4 = .ok (.iload_n 2, 1) := by decide +kernel
theorem d_PS_noted_5 : decode prog_1_method_22_code 5 = .ok (.bipush (6), 2) := by decide +kernel
theorem d_PS_noted_7 : decode prog_1_method_22_code 7 = .ok (.if_icmp .lt (5), 3) := by decide +kernel
theorem d_PS_noted_10 : decode prog_1_method_22_code 10 = .ok (.iconst (-1), 1) := by decide +kernel
theorem d_PS_noted_11 : decode prog_1_method_22_code 11 = .ok (.ireturn, 1) := by decide +kernel
theorem d_PS_noted_12 : decode prog_1_method_22_code 12 = .ok (.iload_n 1, 1) := by decide +kernel
theorem d_PS_noted_13 : decode prog_1_method_22_code 13 = .ok (.ifCond .ne (10), 3) := by decide +kernel
theorem d_PS_noted_16 : decode prog_1_method_22_code 16 = .ok (.aload_n 0, 1) := by decide +kernel
theorem d_PS_noted_17 : decode prog_1_method_22_code 17 = .ok (.getfield 9, 3) := by decide +kernel
theorem d_PS_noted_20 : decode prog_1_method_22_code 20 = .ok (.iload_n 2, 1) := by decide +kernel
theorem d_PS_noted_21 : decode prog_1_method_22_code 21 = .ok (.iaload, 1) := by decide +kernel
theorem d_PS_noted_22 : decode prog_1_method_22_code 22 = .ok (.ireturn, 1) := by decide +kernel
theorem d_PS_noted_23 : decode prog_1_method_22_code 23 = .ok (.aload_n 0, 1) := by decide +kernel
theorem d_PS_noted_24 : decode prog_1_method_22_code 24 = .ok (.iload_n 1, 1) := by decide +kernel
theorem d_PS_noted_25 : decode prog_1_method_22_code 25 = .ok (.invokevirtual 148, 3) := by decide +kernel
theorem d_PS_noted_28 : decode prog_1_method_22_code 28 = .ok (.ifCond .eq (17), 3) := by decide +kernel
theorem d_PS_noted_31 : decode prog_1_method_22_code 31 = .ok (.iload_n 2, 1) := by decide +kernel
theorem d_PS_noted_32 : decode prog_1_method_22_code 32 = .ok (.iconst (5), 1) := by decide +kernel
theorem d_PS_noted_33 : decode prog_1_method_22_code 33 = .ok (.if_icmp .eq (12), 3) := by decide +kernel
theorem d_PS_noted_36 : decode prog_1_method_22_code 36 = .ok (.aload_n 0, 1) := by decide +kernel
theorem d_PS_noted_37 : decode prog_1_method_22_code 37 = .ok (.iload_n 1, 1) := by decide +kernel
theorem d_PS_noted_38 : decode prog_1_method_22_code 38 = .ok (.iload_n 2, 1) := by decide +kernel
theorem d_PS_noted_39 : decode prog_1_method_22_code 39 = .ok (.invokevirtual 151, 3) := by decide +kernel
theorem d_PS_noted_42 : decode prog_1_method_22_code 42 = .ok (.goto (4), 3) := by decide +kernel
theorem d_PS_noted_45 : decode prog_1_method_22_code 45 = .ok (.iconst (-1), 1) := by decide +kernel
theorem d_PS_noted_46 : decode prog_1_method_22_code 46 = .ok (.ireturn, 1) := by decide +kernel
end
section
theorem tw_0 : (.methodLink "java/util/Arrays" 13 ⟨"java/util/Arrays", "rangeCheck", "(III)V"⟩ : Cond) ∈ ps_tbl := ps_t1 179 rfl rfl
theorem tw_1 : (.arrayClass .int : Cond) ∈ ps_tbl := ps_t1 32 rfl rfl
theorem tw_2 : (.methodLink "java/util/Arrays" 304 ⟨"java/lang/Math", "min", "(II)I"⟩ : Cond) ∈ ps_tbl := ps_t1 207 rfl rfl
theorem tw_3 : (.static ⟨"java/lang/Math", "min", "(II)I"⟩ : Cond) ∈ ps_tbl := ps_t1 174 rfl rfl
theorem tw_4 : (.initialized "java/lang/Math" : Cond) ∈ ps_tbl := ps_t1 8 rfl rfl
theorem tw_5 : (.code ⟨"java/lang/Math", "min", "(II)I"⟩ Lib.Math.min.code 2 (some .int) : Cond) ∈ ps_tbl := ps_t1 175 rfl rfl
theorem tw_6 : (.methodLink "java/util/Arrays" 150 ⟨"java/lang/System", "arraycopy", "(Ljava/lang/Object;ILjava/lang/Object;II)V"⟩ : Cond) ∈ ps_tbl := ps_t1 208 rfl rfl
theorem tw_7 : (.native ⟨"java/lang/System", "arraycopy", "(Ljava/lang/Object;ILjava/lang/Object;II)V"⟩ : Cond) ∈ ps_tbl := ps_t1 210 rfl rfl
theorem tw_8 : (.static ⟨"java/lang/System", "arraycopy", "(Ljava/lang/Object;ILjava/lang/Object;II)V"⟩ : Cond) ∈ ps_tbl := ps_t1 209 rfl rfl
theorem tw_9 : (.initialized "java/lang/System" : Cond) ∈ ps_tbl := ps_t1 10 rfl rfl
theorem tw_10 : (.fieldLink "PageStore$Column" 9 "PageStore$Column" "cells" "[I" : Cond) ∈ ps_tbl := ps_t1 26 rfl rfl
theorem tw_11 : (.fieldLink "PageStore$Column" 13 "PageStore$Column" "limit" "I" : Cond) ∈ ps_tbl := ps_t1 25 rfl rfl
theorem tw_12 : (.methodLink "PageStore$Column" 17 ⟨"java/lang/Math", "min", "(II)I"⟩ : Cond) ∈ ps_tbl := ps_t1 173 rfl rfl
theorem tw_13 : (.methodLink "PageStore$Column" 23 ⟨"java/lang/Math", "max", "(II)I"⟩ : Cond) ∈ ps_tbl := ps_t1 194 rfl rfl
theorem tw_14 : (.static ⟨"java/lang/Math", "max", "(II)I"⟩ : Cond) ∈ ps_tbl := ps_t1 195 rfl rfl
theorem tw_15 : (.code ⟨"java/lang/Math", "max", "(II)I"⟩ Lib.Math.max.code 2 (some .int) : Cond) ∈ ps_tbl := ps_t1 196 rfl rfl
theorem tw_16 : (.methodLink "PageStore$Column" 26 ⟨"java/util/Arrays", "copyOf", "([II)[I"⟩ : Cond) ∈ ps_tbl := ps_t1 197 rfl rfl
theorem tw_17 : (.methodLink "PageStore$Column" 32 ⟨"java/util/Arrays", "fill", "([IIII)V"⟩ : Cond) ∈ ps_tbl := ps_t1 176 rfl rfl
theorem tw_18 : (.initialized "java/util/Arrays" : Cond) ∈ ps_tbl := ps_t1 9 rfl rfl
theorem tw_19 : (.code ⟨"java/util/Arrays", "rangeCheck", "(III)V"⟩ prog_12_method_30_code 3 none : Cond) ∈ ps_tbl := ps_t1 181 rfl rfl
theorem tw_20 : (.static ⟨"java/util/Arrays", "rangeCheck", "(III)V"⟩ : Cond) ∈ ps_tbl := ps_t1 180 rfl rfl
theorem tw_21 : (.code ⟨"java/util/Arrays", "copyOf", "([II)[I"⟩ prog_12_method_123_code 3 (some (.array .int)) : Cond) ∈ ps_tbl := ps_t1 199 rfl rfl
theorem tw_22 : (.static ⟨"java/util/Arrays", "copyOf", "([II)[I"⟩ : Cond) ∈ ps_tbl := ps_t1 198 rfl rfl
theorem tw_23 : (.code ⟨"java/util/Arrays", "fill", "([IIII)V"⟩ prog_12_method_104_code 5 none : Cond) ∈ ps_tbl := ps_t1 178 rfl rfl
theorem tw_24 : (.static ⟨"java/util/Arrays", "fill", "([IIII)V"⟩ : Cond) ∈ ps_tbl := ps_t1 177 rfl rfl
theorem k_Arr_rangeCheck : ps_cdS ps_tbl y_Arr_rangeCheck prog_12_method_30_code 3 none := ⟨tw_20, tw_18, tw_19⟩
theorem k_Arr_copyOf : ps_cdS ps_tbl y_Arr_copyOf prog_12_method_123_code 3 (some (.array .int)) := ⟨tw_22, tw_18, tw_21⟩
theorem k_Arr_fill : ps_cdS ps_tbl y_Arr_fill prog_12_method_104_code 5 none := ⟨tw_24, tw_18, tw_23⟩
def pc_W (cI : ClassId) (h q lim n : Nat) (f : Nat → Int32) : va_W := [(h, .inr (cCol, [.int (nI lim), .ref q])), (q, .inl (cI, n, .inl f))]
def pv_W (cI : ClassId) (h k qk x qx lim n1 n2 : Nat) (f1 f2 : Nat → Int32) : va_W := [(h, .inr (cVal, [.ref k, .ref x])), (k, .inr (cCol, [.int (nI lim), .ref qk])), (qk, .inl (cI, n1, .inl f1)), (x, .inr (cCol, [.int (nI lim), .ref qx])), (qx, .inl (cI, n2, .inl f2))]
def pr_W (cI : ClassId) (h k1 q1 k2 q2 k3 q3 lim n1 n2 n3 : Nat) (f1 f2 f3 : Nat → Int32) : va_W := [(h, .inr (cRow, [.ref k1, .ref k2, .ref k3])), (k1, .inr (cCol, [.int (nI lim), .ref q1])), (q1, .inl (cI, n1, .inl f1)), (k2, .inr (cCol, [.int (nI lim), .ref q2])), (q2, .inl (cI, n2, .inl f2)), (k3, .inr (cCol, [.int (nI lim), .ref q3])), (q3, .inl (cI, n3, .inl f3))]
def pk_W (cI : ClassId) (h hv k1 q1 k2 q2 k3 q3 lim n1 n2 n3 : Nat) (f1 f2 f3 : Nat → Int32) : va_W := [(h, .inr (cKey, [.ref k1, .ref k2, .ref k3, .ref hv])), (k1, .inr (cCol, [.int (nI lim), .ref q1])), (q1, .inl (cI, n1, .inl f1)), (k2, .inr (cCol, [.int (nI lim), .ref q2])), (q2, .inl (cI, n2, .inl f2)), (k3, .inr (cCol, [.int (nI lim), .ref q3])), (q3, .inl (cI, n3, .inl f3))]
def pq_W (cI : ClassId) (h hv k1 q1 k2 q2 k3 q3 kv qv xv lim n1 n2 n3 nv : Nat) (f1 f2 f3 fv : Nat → Int32) : va_W := [(h, .inr (cKey, [.ref k1, .ref k2, .ref k3, .ref hv])), (k1, .inr (cCol, [.int (nI lim), .ref q1])), (q1, .inl (cI, n1, .inl f1)), (k2, .inr (cCol, [.int (nI lim), .ref q2])), (q2, .inl (cI, n2, .inl f2)), (k3, .inr (cCol, [.int (nI lim), .ref q3])), (q3, .inl (cI, n3, .inl f3)), (hv, .inr (cVal, [.ref kv, .ref xv])), (kv, .inr (cCol, [.int (nI lim), .ref qv])), (qv, .inl (cI, nv, .inl fv))]
def pm_W (cI : ClassId) (h ho k1 q1 k2 q2 lim n1 n2 : Nat) (f1 f2 : Nat → Int32) : va_W := [(h, .inr (cMem, [.ref k1, .ref k2, .ref ho])), (k1, .inr (cCol, [.int (nI lim), .ref q1])), (q1, .inl (cI, n1, .inl f1)), (k2, .inr (cCol, [.int (nI lim), .ref q2])), (q2, .inl (cI, n2, .inl f2))]
def pn_W (cI : ClassId) (h k1 q1 k2 q2 ho k3 q3 k4 q4 hv kv qv xv qx lim vl n1 n2 n3 n4 nv nx : Nat) (f1 f2 f3 f4 fv fx : Nat → Int32) : va_W := [(h, .inr (cMem, [.ref k1, .ref k2, .ref ho])), (k1, .inr (cCol, [.int (nI lim), .ref q1])), (q1, .inl (cI, n1, .inl f1)), (k2, .inr (cCol, [.int (nI lim), .ref q2])), (q2, .inl (cI, n2, .inl f2)), (ho, .inr (cVal, [.ref k3, .ref k4])), (k3, .inr (cCol, [.int (nI lim), .ref q3])), (q3, .inl (cI, n3, .inl f3)), (k4, .inr (cCol, [.int (nI lim), .ref q4])), (q4, .inl (cI, n4, .inl f4)), (hv, .inr (cVal, [.ref kv, .ref xv])), (kv, .inr (cCol, [.int (nI vl), .ref qv])), (qv, .inl (cI, nv, .inl fv)), (xv, .inr (cCol, [.int (nI vl), .ref qx])), (qx, .inl (cI, nx, .inl fx))]

set_option maxHeartbeats 4000000 in
set_option maxRecDepth 100000 in
/-- Arrays.rangeCheck passes -/
theorem c_rangeCheck (l : Launch) (dC : Nat → ClassId) (dI : Nat → Nat → Nat) (cI : ClassId) (tys : List (ClassId × FieldType)) (ht : tys[0]? = some (cI, FieldType.int)) (n a b : Nat) (hab : a ≤ b) (hbn : b ≤ n) (hn : n < 2 ^ 31) : ps_mV classes l y_Arr_rangeCheck w_Arr_rangeCheck ({ frames := 0, cells := 0, slots := 0, locals := 0 }) (dC, dI) tys [.int (nI n), .int (nI a), .int (nI b)] ([]) (fun u => u = []) := by
  refine ps_mV_of (by decide) rfl (Nat.le_of_ble_eq_true rfl) ?_
  intro p e s m below meth c A ls C0 hA hK hP hD hS hl
  obtain ⟨hx, hb, hr, hml, hts, hown, hlocks, hin⟩ := C0
  have hl : lv_has ls 3 [(0, .int (nI n)), (1, .int (nI a)), (2, .int (nI b))] := hl
  have hP : va_P (dC, dI) classes [] s.heap := hP
  have hD : va_D A [] := hD
  refine lv_iload_n hx hb d_Arr_rangeCheck_0 rfl (lv_at hl 1 rfl) ?_
  refine lv_iload_n hx hb d_Arr_rangeCheck_1 rfl (lv_at hl 2 rfl) ?_
  refine lv_icmp_le (tgt := 46) hx hb d_Arr_rangeCheck_2 (by decide) (fun c_1 => ?_) (fun c_1 => ?_)
  · have c_1 : a ≤ b := (nI_leI (by omega) (by omega)).mp c_1
    refine lv_iload_n hx hb d_Arr_rangeCheck_46 rfl (lv_at hl 1 rfl) ?_
    refine lv_if_ge (tgt := 59) hx hb d_Arr_rangeCheck_47 (by decide) (fun c_2 => ?_) (fun c_2 => ?_)
    · refine lv_iload_n hx hb d_Arr_rangeCheck_59 rfl (lv_at hl 2 rfl) ?_
      refine lv_iload_n hx hb d_Arr_rangeCheck_60 rfl (lv_at hl 0 rfl) ?_
      refine lv_icmp_le (tgt := 73) hx hb d_Arr_rangeCheck_61 (by decide) (fun c_3 => ?_) (fun c_3 => ?_)
      · have c_3 : b ≤ n := (nI_leI (by omega) (by omega)).mp c_3
        exact ps_vret hx hb hr hlocks hK hP hD hS (Nat.le_of_ble_eq_true rfl) (Nat.le_of_ble_eq_true rfl) d_Arr_rangeCheck_73 rfl
      · have c_3 : ¬ b ≤ n := fun q => c_3 ((nI_leI (by omega) (by omega)).mpr q)
        exact absurd hbn c_3
    · exact absurd (nI_pos' (by omega)) c_2
  · have c_1 : ¬ a ≤ b := fun q => c_1 ((nI_leI (by omega) (by omega)).mpr q)
    exact absurd hab c_1

set_option maxHeartbeats 4000000 in
set_option maxRecDepth 100000 in
/-- Arrays.fill: places a .. b-1 become x -/
theorem c_fill (l : Launch) (dC : Nat → ClassId) (dI : Nat → Nat → Nat) (cI : ClassId) (tys : List (ClassId × FieldType)) (ht : tys[0]? = some (cI, FieldType.int)) (q n : Nat) (f : Nat → Int32) (a b : Nat) (x : Int32) (hab : a ≤ b) (hbn : b ≤ n) (hn : n < 2 ^ 31) : ps_mV classes l y_Arr_fill w_Arr_fill ({ frames := 1, cells := 0, slots := 0, locals := 22 }) (dC, dI) tys [.ref q, .int (nI a), .int (nI b), .int x] ([(q, .inl (cI, n, .inl f))]) (fun u => u = [(q, .inl (cI, n, .inl (ps_fil f a b x)))]) := by
  refine ps_mV_of (by decide) rfl (Nat.le_of_ble_eq_true rfl) ?_
  intro p e s m below meth c A ls C0 hA hK hP hD hS hl
  obtain ⟨hx, hb, hr, hml, hts, hown, hlocks, hin⟩ := C0
  have hl : lv_has ls 5 [(0, .ref q), (1, .int (nI a)), (2, .int (nI b)), (3, .int x)] := hl
  have hP : va_P (dC, dI) classes [(q, .inl (cI, n, .inl f))] s.heap := hP
  have hD : va_D A [(q, .inl (cI, n, .inl f))] := hD
  refine lv_aload_n hx hb d_Arr_fill_0 rfl (lv_at hl 0 rfl) ?_
  refine va_alen hx hb hK hP 0 0 rfl ht (v := nI n) rfl d_Arr_fill_1 ?_
  refine lv_iload_n hx hb d_Arr_fill_2 rfl (lv_at hl 1 rfl) ?_
  refine lv_iload_n hx hb d_Arr_fill_3 rfl (lv_at hl 2 rfl) ?_
  refine ps_afterV (wc := []) (wr := [0].filterMap (fun z9 => ([(q, .inl (cI, n, .inl f))] : va_W)[z9]?)) hP hD hS hA [] [0] rfl rfl (by decide) (by decide) (ps_runSV ⟨hx, hb, hml, hown, hts⟩ (c_rangeCheck l dC dI cI tys ht n a b hab hbn hn) (ps_cwS ps_gd 3 hts tw_0 k_Arr_rangeCheck e_Arr_rangeCheck ⟨Nat.le_of_ble_eq_true rfl, Nat.le_of_ble_eq_true rfl⟩) hK hP hD [] (by decide) rfl rfl hl.1 rfl (Nat.le_of_ble_eq_true rfl) d_Arr_fill_4 ⟨Nat.zero_le _, Nat.zero_le _⟩) (fun u_1 H locs hu_1 hP hD hS => ?_)
  subst hu_1
  obtain ⟨hP, hD⟩ := ps_perm (ws' := [(q, .inl (cI, n, .inl f))]) hP hD [0] (by decide) rfl
  refine lv_iload_n hx hb d_Arr_fill_7 rfl (lv_at hl 1 rfl) ?_
  refine lv_istore (lv' := [(4, .int (nI a)), (0, .ref q), (1, .int (nI a)), (2, .int (nI b)), (3, .int x)]) hx hb d_Arr_fill_8 hl (by decide) rfl (fun ls hl => ?_)
  refine ps_loop (α := Nat) (fun i => 0) (fun i => 0) (fun i => b - i) (fun i H locs ls => lv_has ls 5 [(4, .int (nI i)), (0, .ref q), (1, .int (nI a)), (2, .int (nI b)), (3, .int x)] ∧ va_P (dC, dI) classes [(q, .inl (cI, n, .inl (ps_fil f a i x)))] H ∧ va_D A [(q, .inl (cI, n, .inl (ps_fil f a i x)))] ∧ va_S A s.heap H locs ∧ a ≤ i ∧ i ≤ b) ?_ a _ _ ls ⟨lv_sub hl [0, 1, 2, 3, 4] rfl, by rw [ps_fil_0]; exact hP, by rw [ps_fil_0]; exact hD, hS, Nat.le_refl a, hab⟩
  intro i H locs ls hI ih
  obtain ⟨hl, hP, hD, hS, hai, hib⟩ := hI
  refine lv_iload hx hb d_Arr_fill_10 (lv_at hl 0 rfl) ?_
  refine lv_iload_n hx hb d_Arr_fill_12 rfl (lv_at hl 3 rfl) ?_
  refine lv_icmp_ge (tgt := 27) hx hb d_Arr_fill_13 (by decide) (fun c_3 => ?_) (fun c_3 => ?_)
  · have c_3 : b ≤ i := (nI_leI (by omega) (by omega)).mp c_3
    have hi : i = b := by omega
    subst hi
    exact ps_vret hx hb hr hlocks hK hP hD hS (Nat.le_of_ble_eq_true rfl) (Nat.le_of_ble_eq_true rfl) d_Arr_fill_27 rfl
  · have c_3 : ¬ b ≤ i := fun q => c_3 ((nI_leI (by omega) (by omega)).mpr q)
    refine lv_aload_n hx hb d_Arr_fill_16 rfl (lv_at hl 1 rfl) ?_
    refine lv_iload hx hb d_Arr_fill_17 (lv_at hl 0 rfl) ?_
    refine lv_iload_n hx hb d_Arr_fill_19 rfl (lv_at hl 4 rfl) ?_
    refine va_iast hx hb hK hP hD hS 0 0 rfl ht (vp_in_nI (by omega) hn) d_Arr_fill_20 (fun H locs hP hD hS => ?_)
    rw [nI_clamp (show i < 2 ^ 31 by omega)] at hP hD
    rw [ps_fil_s hai] at hP hD
    have hP : va_P (dC, dI) classes [(q, .inl (cI, n, .inl (ps_fil f a (i + 1) x)))] H := hP
    have hD : va_D A [(q, .inl (cI, n, .inl (ps_fil f a (i + 1) x)))] := hD
    refine lv_iinc (v := nI (i + 1)) (lv' := [(4, .int (nI (i + 1))), (0, .ref q), (1, .int (nI a)), (2, .int (nI b)), (3, .int x)]) hx hb d_Arr_fill_21 hl (k := 0) rfl (nI_1 i) (by decide) rfl (fun ls hl => ?_)
    refine lv_goto (tgt := 10) hx hb d_Arr_fill_24 (by decide) ?_
    exact ih (i + 1) _ _ ls (by omega) ⟨lv_sub hl [0, 1, 2, 3, 4] rfl, hP, hD, hS, by omega, by omega⟩

set_option maxHeartbeats 4000000 in
set_option maxRecDepth 100000 in
/-- Arrays.copyOf to a longer array: the same row, 0 from n on -/
theorem c_copyOf (l : Launch) (dC : Nat → ClassId) (dI : Nat → Nat → Nat) (cI : ClassId) (tys : List (ClassId × FieldType)) (ht : tys[0]? = some (cI, FieldType.int)) (q n : Nat) (f : Nat → Int32) (k : Nat) (hz : ps_Z n f) (hnk : n < k) (hk : k < 100000000) : ps_mR classes l y_Arr_copyOf w_Arr_copyOf ({ frames := 1, cells := 1, slots := k, locals := 18 }) (dC, dI) tys [.ref q, .int (nI k)] ([(q, .inl (cI, n, .inl f))]) (fun r u => u = [(q, .inl (cI, n, .inl f)), (r, .inl (cI, k, .inl f))]) := by
  refine ps_mR_of (by decide) rfl (Nat.le_of_ble_eq_true rfl) ?_
  intro p e s m below meth c A ls C0 hA hK hP hD hS hl
  obtain ⟨hx, hb, hr, hml, hts, hown, hlocks, hin⟩ := C0
  have hl : lv_has ls 3 [(0, .ref q), (1, .int (nI k))] := hl
  have hP : va_P (dC, dI) classes [(q, .inl (cI, n, .inl f))] s.heap := hP
  have hD : va_D A [(q, .inl (cI, n, .inl f))] := hD
  refine lv_iload_n hx hb d_Arr_copyOf_0 rfl (lv_at hl 1 rfl) ?_
  refine lv_aload_n hx hb d_Arr_copyOf_1 rfl (lv_at hl 0 rfl) ?_
  refine va_alen hx hb hK hP 0 0 rfl ht (v := nI n) rfl d_Arr_copyOf_2 ?_
  refine lv_icmp_ne (tgt := 14) hx hb d_Arr_copyOf_3 (by decide) (fun c_1 => ?_) (fun c_1 => ?_)
  · have c_1 : ¬ k = n := fun q => c_1 ((nI_eq (by omega) (by omega)).mpr q)
    refine lv_iload_n hx hb d_Arr_copyOf_14 rfl (lv_at hl 1 rfl) ?_
    refine ps_newi hx hb (hts _ tw_1) hK 0 ht hP hD hS hA hk (Nat.le_of_ble_eq_true rfl) (by show 0 + k ≤ k; omega) d_Arr_copyOf_15 (fun q2 H hP hD hS => ?_)
    have hP : va_P (dC, dI) classes [(q, .inl (cI, n, .inl f)), (q2, .inl (cI, k, .inl (fun _ => 0)))] H := hP
    have hD : va_D A [(q, .inl (cI, n, .inl f)), (q2, .inl (cI, k, .inl (fun _ => 0)))] := hD
    refine lv_astore_n (lv' := [(2, .ref q2), (0, .ref q), (1, .int (nI k))]) hx hb d_Arr_copyOf_17 rfl hl (by decide) rfl (fun ls hl => ?_)
    refine lv_aload_n hx hb d_Arr_copyOf_18 rfl (lv_at hl 1 rfl) ?_
    refine lv_iconst (v := nI 0) hx hb d_Arr_copyOf_19 (by decide) ?_
    refine lv_aload_n hx hb d_Arr_copyOf_20 rfl (lv_at hl 0 rfl) ?_
    refine lv_iconst (v := nI 0) hx hb d_Arr_copyOf_21 (by decide) ?_
    refine lv_aload_n hx hb d_Arr_copyOf_22 rfl (lv_at hl 1 rfl) ?_
    refine va_alen hx hb hK hP 0 0 rfl ht (v := nI n) rfl d_Arr_copyOf_23 ?_
    refine lv_iload_n hx hb d_Arr_copyOf_24 rfl (lv_at hl 2 rfl) ?_
    refine va_mmin hx hb (by rw [hml]; exact hl.1.symm) hown (hts _ tw_2) (hts _ tw_3) (hts _ tw_4) (hts _ tw_5) (Nat.le_of_ble_eq_true rfl) (Nat.le_of_ble_eq_true rfl) (Nat.le_of_ble_eq_true rfl) (by show 0 + k ≤ k; omega) d_Arr_copyOf_25 ?_
    refine ps_top (z := nI (min n k)) (ps_min (by omega) (by omega)) ?_
    rw [Nat.min_eq_left (Nat.le_of_lt hnk)]
    refine va_copyi hx hb (by rw [hml]; exact hl.1.symm) hown (hts _ tw_6) (hts _ tw_7) (hts _ tw_8) (hts _ tw_9) hK hP hD hS 0 1 0 0 rfl rfl ht ht rfl (nI_pos (by decide)) (nI_pos (by decide)) (nI_pos (by omega)) (by rw [nI_clamp (by decide), nI_clamp (by omega)]; omega) (by rw [nI_clamp (by decide), nI_clamp (by omega)]; omega) (fun _ _ => rfl) (Nat.le_of_ble_eq_true rfl) (Nat.le_of_ble_eq_true rfl) d_Arr_copyOf_28 (fun H locs hP hD hS => ?_)
    rw [nI_clamp (show 0 < 2 ^ 31 by decide), nI_clamp (show n < 2 ^ 31 by omega), ps_cpy hz] at hP hD
    have hP : va_P (dC, dI) classes [(q, .inl (cI, n, .inl f)), (q2, .inl (cI, k, .inl f))] H := hP
    have hD : va_D A [(q, .inl (cI, n, .inl f)), (q2, .inl (cI, k, .inl f))] := hD
    refine lv_aload_n hx hb d_Arr_copyOf_31 rfl (lv_at hl 0 rfl) ?_
    exact ps_aret hx hb hr (Or.inr ⟨_, rfl⟩) hlocks hK hP hD hS (Nat.le_of_ble_eq_true rfl) (by show 0 + k ≤ k; omega) d_Arr_copyOf_32 rfl
  · have c_1 : k = n := (nI_eq (by omega) (by omega)).mp c_1
    exact absurd c_1 (by omega)

set_option maxHeartbeats 4000000 in
set_option maxRecDepth 100000 in
/-- Column.at -/
theorem c_at (l : Launch) (dC : Nat → ClassId) (dI : Nat → Nat → Nat) (cI : ClassId) (tys : List (ClassId × FieldType)) (ht : tys[0]? = some (cI, FieldType.int)) (h q lim n : Nat) (f : Nat → Int32) (i : Nat) (hz : ps_Z n f) (hn : n < 2 ^ 31) (hi : i < 2 ^ 31) : ps_mI classes l y_Col_at w_Col_at ({ frames := 0, cells := 0, slots := 0, locals := 0 }) (dC, dI) tys [.ref h, .int (nI i)] (pc_W cI h q lim n f) (fun r u => u = pc_W cI h q lim n f ∧ r = f i) := by
  refine ps_mI_of (by decide) rfl (Nat.le_of_ble_eq_true rfl) ?_
  intro p e s m below meth c A ls C0 hA hK hP hD hS hl
  obtain ⟨hx, hb, hr, hml, hts, hown, hlocks, hin⟩ := C0
  have hl : lv_has ls 2 [(0, .ref h), (1, .int (nI i))] := hl
  have hP : va_P (dC, dI) classes [(h, .inr (cCol, [.int (nI lim), .ref q])), (q, .inl (cI, n, .inl f))] s.heap := hP
  have hD : va_D A [(h, .inr (cCol, [.int (nI lim), .ref q])), (q, .inl (cI, n, .inl f))] := hD
  refine lv_iload_n hx hb d_Col_at_0 rfl (lv_at hl 1 rfl) ?_
  refine lv_if_lt (tgt := 22) hx hb d_Col_at_1 (by decide) (fun c_1 => ?_) (fun c_1 => ?_)
  · exact absurd c_1 (nI_pos (by omega))
  · refine lv_iload_n hx hb d_Col_at_4 rfl (lv_at hl 1 rfl) ?_
    refine lv_aload_n hx hb d_Col_at_5 rfl (lv_at hl 0 rfl) ?_
    refine va_get (D := (dC, dI)) (ci := cCol) (v := .ref q) (C := R_Col) (T := F_Col) (N := 2) hx hb hts i_Col hown hK hP 0 rfl rfl 1 (by decide) (hts _ tw_10) (fun _ h9 => h9) rfl d_Col_at_6 ?_
    refine va_alen hx hb hK hP 1 0 rfl ht (v := nI n) rfl d_Col_at_9 ?_
    refine lv_icmp_ge (tgt := 22) hx hb d_Col_at_10 (by decide) (fun c_2 => ?_) (fun c_2 => ?_)
    · have c_2 : n ≤ i := (nI_leI (by omega) (by omega)).mp c_2
      refine lv_iconst (v := 0) hx hb d_Col_at_22 (by decide) ?_
      exact ps_iret hx hb hr hlocks hK hP hD hS (Nat.le_of_ble_eq_true rfl) (Nat.le_of_ble_eq_true rfl) d_Col_at_23 (⟨rfl, (hz i (by omega)).symm⟩)
    · have c_2 : ¬ n ≤ i := fun q => c_2 ((nI_leI (by omega) (by omega)).mpr q)
      refine lv_aload_n hx hb d_Col_at_13 rfl (lv_at hl 0 rfl) ?_
      refine va_get (D := (dC, dI)) (ci := cCol) (v := .ref q) (C := R_Col) (T := F_Col) (N := 2) hx hb hts i_Col hown hK hP 0 rfl rfl 1 (by decide) (hts _ tw_10) (fun _ h9 => h9) rfl d_Col_at_14 ?_
      refine lv_iload_n hx hb d_Col_at_17 rfl (lv_at hl 1 rfl) ?_
      refine va_iald hx hb hK hP 1 0 rfl ht (vp_in_nI (by omega) hn) d_Col_at_18 ?_
      refine ps_top (z := f i) (by rw [nI_clamp hi]) ?_
      refine lv_goto (tgt := 23) hx hb d_Col_at_19 (by decide) ?_
      exact ps_iret hx hb hr hlocks hK hP hD hS (Nat.le_of_ble_eq_true rfl) (Nat.le_of_ble_eq_true rfl) d_Col_at_23 (⟨rfl, rfl⟩)

set_option maxHeartbeats 4000000 in
set_option maxRecDepth 100000 in
/-- Column.put -/
theorem c_put (l : Launch) (dC : Nat → ClassId) (dI : Nat → Nat → Nat) (cI : ClassId) (tys : List (ClassId × FieldType)) (ht : tys[0]? = some (cI, FieldType.int)) (h q lim n : Nat) (f : Nat → Int32) (i : Nat) (x : Int32) (hz : ps_Z n f) (hlim : lim ≤ 65536) (hn : n ≤ lim) (hi : i < lim) : ps_mV classes l y_Col_put w_Col_put ({ frames := 2, cells := ps_dc lim n i, slots := ps_ds lim n i, locals := 40 }) (dC, dI) tys [.ref h, .int (nI i), .int x] (pc_W cI h q lim n f) (fun u => ∃ q1 : Nat, u = pc_W cI h q1 lim (ps_len lim n i) (upd f i x)) := by
  refine ps_mV_of (by decide) rfl (Nat.le_of_ble_eq_true rfl) ?_
  intro p e s m below meth c A ls C0 hA hK hP hD hS hl
  obtain ⟨hx, hb, hr, hml, hts, hown, hlocks, hin⟩ := C0
  have hl : lv_has ls 4 [(0, .ref h), (1, .int (nI i)), (2, .int x)] := hl
  have hP : va_P (dC, dI) classes [(h, .inr (cCol, [.int (nI lim), .ref q])), (q, .inl (cI, n, .inl f))] s.heap := hP
  have hD : va_D A [(h, .inr (cCol, [.int (nI lim), .ref q])), (q, .inl (cI, n, .inl f))] := hD
  refine lv_iload_n hx hb d_Col_put_0 rfl (lv_at hl 1 rfl) ?_
  refine lv_if_lt (tgt := 12) hx hb d_Col_put_1 (by decide) (fun c_1 => ?_) (fun c_1 => ?_)
  · exact absurd c_1 (nI_pos (by omega))
  · refine lv_iload_n hx hb d_Col_put_4 rfl (lv_at hl 1 rfl) ?_
    refine lv_aload_n hx hb d_Col_put_5 rfl (lv_at hl 0 rfl) ?_
    refine va_get (D := (dC, dI)) (ci := cCol) (v := .int (nI lim)) (C := R_Col) (T := F_Col) (N := 2) hx hb hts i_Col hown hK hP 0 rfl rfl 0 (by decide) (hts _ tw_11) (fun _ h9 => h9) rfl d_Col_put_6 ?_
    refine lv_icmp_lt (tgt := 13) hx hb d_Col_put_9 (by decide) (fun c_2 => ?_) (fun c_2 => ?_)
    · have c_2 : i < lim := (nI_ltI (by omega) (by omega)).mp c_2
      refine lv_iload_n hx hb d_Col_put_13 rfl (lv_at hl 1 rfl) ?_
      refine lv_aload_n hx hb d_Col_put_14 rfl (lv_at hl 0 rfl) ?_
      refine va_get (D := (dC, dI)) (ci := cCol) (v := .ref q) (C := R_Col) (T := F_Col) (N := 2) hx hb hts i_Col hown hK hP 0 rfl rfl 1 (by decide) (hts _ tw_10) (fun _ h9 => h9) rfl d_Col_put_15 ?_
      refine va_alen hx hb hK hP 1 0 rfl ht (v := nI n) rfl d_Col_put_18 ?_
      refine lv_icmp_lt (tgt := 55) hx hb d_Col_put_19 (by decide) (fun c_3 => ?_) (fun c_3 => ?_)
      · have c_3 : i < n := (nI_ltI (by omega) (by omega)).mp c_3
        refine lv_aload_n hx hb d_Col_put_55 rfl (lv_at hl 0 rfl) ?_
        refine va_get (D := (dC, dI)) (ci := cCol) (v := .ref q) (C := R_Col) (T := F_Col) (N := 2) hx hb hts i_Col hown hK hP 0 rfl rfl 1 (by decide) (hts _ tw_10) (fun _ h9 => h9) rfl d_Col_put_56 ?_
        refine lv_iload_n hx hb d_Col_put_59 rfl (lv_at hl 1 rfl) ?_
        refine lv_iload_n hx hb d_Col_put_60 rfl (lv_at hl 2 rfl) ?_
        refine va_iast hx hb hK hP hD hS 1 0 rfl ht (vp_in_nI (by omega) (by omega)) d_Col_put_61 (fun H locs hP hD hS => ?_)
        rw [nI_clamp (show i < 2 ^ 31 by omega)] at hP hD
        have hP : va_P (dC, dI) classes [(h, .inr (cCol, [.int (nI lim), .ref q])), (q, .inl (cI, n, .inl (upd f i x)))] H := hP
        have hD : va_D A [(h, .inr (cCol, [.int (nI lim), .ref q])), (q, .inl (cI, n, .inl (upd f i x)))] := hD
        exact ps_vret hx hb hr hlocks hK hP hD hS (Nat.zero_le _) (Nat.zero_le _) d_Col_put_62 (⟨q, by unfold ps_len; rw [if_pos (by omega)]; rfl⟩)
      · have c_3 : ¬ i < n := fun q => c_3 ((nI_ltI (by omega) (by omega)).mpr q)
        refine lv_iload_n hx hb d_Col_put_22 rfl (lv_at hl 1 rfl) ?_
        refine lv_iconst (v := nI 1) hx hb d_Col_put_23 (by decide) ?_
        refine lv_iadd hx hb d_Col_put_24 ?_
        refine ps_top (z := nI (i + 1)) (nI_add _ _) ?_
        refine lv_aload_n hx hb d_Col_put_25 rfl (lv_at hl 0 rfl) ?_
        refine va_get (D := (dC, dI)) (ci := cCol) (v := .int (nI lim)) (C := R_Col) (T := F_Col) (N := 2) hx hb hts i_Col hown hK hP 0 rfl rfl 0 (by decide) (hts _ tw_11) (fun _ h9 => h9) rfl d_Col_put_26 ?_
        refine lv_iconst (v := nI 2) hx hb d_Col_put_29 (by decide) ?_
        refine lv_aload_n hx hb d_Col_put_30 rfl (lv_at hl 0 rfl) ?_
        refine va_get (D := (dC, dI)) (ci := cCol) (v := .ref q) (C := R_Col) (T := F_Col) (N := 2) hx hb hts i_Col hown hK hP 0 rfl rfl 1 (by decide) (hts _ tw_10) (fun _ h9 => h9) rfl d_Col_put_31 ?_
        refine va_alen hx hb hK hP 1 0 rfl ht (v := nI n) rfl d_Col_put_34 ?_
        refine lv_imul hx hb d_Col_put_35 ?_
        refine ps_top (z := nI (2 * n)) (pk_mul _ _) ?_
        refine va_mmin hx hb (by rw [hml]; exact hl.1.symm) hown (hts _ tw_12) (hts _ tw_3) (hts _ tw_4) (hts _ tw_5) (Nat.le_of_ble_eq_true rfl) (Nat.le_of_ble_eq_true rfl) (Nat.zero_le _) (Nat.zero_le _) d_Col_put_36 ?_
        refine ps_top (z := nI (min lim (2 * n))) (ps_min (by omega) (by omega)) ?_
        refine va_mmax hx hb (by rw [hml]; exact hl.1.symm) hown (hts _ tw_13) (hts _ tw_14) (hts _ tw_4) (hts _ tw_15) (Nat.le_of_ble_eq_true rfl) (Nat.le_of_ble_eq_true rfl) (Nat.zero_le _) (Nat.zero_le _) d_Col_put_39 ?_
        refine ps_top (z := nI (max (i + 1) (min lim (2 * n)))) (ps_max (by omega) (by omega)) ?_
        refine lv_istore_n (lv' := [(3, .int (nI (max (i + 1) (min lim (2 * n))))), (0, .ref h), (1, .int (nI i)), (2, .int x)]) hx hb d_Col_put_42 rfl hl (by decide) rfl (fun ls hl => ?_)
        refine lv_aload_n hx hb d_Col_put_43 rfl (lv_at hl 1 rfl) ?_
        refine lv_aload_n hx hb d_Col_put_44 rfl (lv_at hl 1 rfl) ?_
        refine va_get (D := (dC, dI)) (ci := cCol) (v := .ref q) (C := R_Col) (T := F_Col) (N := 2) hx hb hts i_Col hown hK hP 0 rfl rfl 1 (by decide) (hts _ tw_10) (fun _ h9 => h9) rfl d_Col_put_45 ?_
        refine lv_iload_n hx hb d_Col_put_48 rfl (lv_at hl 0 rfl) ?_
        refine ps_afterR (wc := [(q, .inl (cI, n, .inl f))]) (wr := [0].filterMap (fun z9 => ([(h, .inr (cCol, [.int (nI lim), .ref q])), (q, .inl (cI, n, .inl f))] : va_W)[z9]?)) hP hD hS hA [1] [0] rfl rfl (by decide) (by decide) (ps_runSR ⟨hx, hb, hml, hown, hts⟩ (c_copyOf l dC dI cI tys ht q n f (max (i + 1) (min lim (2 * n))) hz (by omega) (by omega)) (ps_cwS ps_gd 2 hts tw_16 k_Arr_copyOf e_Arr_copyOf ⟨Nat.le_of_ble_eq_true rfl, Nat.le_of_ble_eq_true rfl⟩) hK hP hD [1] (by decide) rfl rfl hl.1 rfl (Nat.le_of_ble_eq_true rfl) d_Col_put_49 ⟨by have h1 := ps_pay hn hi (by omega); show 0 + 1 ≤ ps_dc lim n i; omega, by have h1 := ps_pay hn hi (by omega); show 0 + max (i + 1) (min lim (2 * n)) ≤ ps_ds lim n i; omega⟩) (fun r_5 u_4 H locs hu_4 hP hD hS => ?_)
        subst hu_4
        obtain ⟨hP, hD⟩ := ps_perm (ws' := [(h, .inr (cCol, [.int (nI lim), .ref q])), (q, .inl (cI, n, .inl f)), (r_5, .inl (cI, max (i + 1) (min lim (2 * n)), .inl f))]) hP hD [0, 1, 2] (by decide) rfl
        refine va_put (D := (dC, dI)) (ci := cCol) (v := .ref r_5) (ty := .array .int) (C := R_Col) (T := F_Col) (N := 2) hx hb hts i_Col t_Col t_Col_ok n_Col hown hK hP hD hS 0 rfl rfl 1 (by decide) (hts _ tw_10) (fun _ h9 => h9) rfl (by decide +kernel) rfl rfl (Nat.le_of_ble_eq_true rfl) d_Col_put_52 (fun H locs hP hD hS => ?_)
        have hP : va_P (dC, dI) classes [(h, .inr (cCol, [.int (nI lim), .ref r_5])), (q, .inl (cI, n, .inl f)), (r_5, .inl (cI, max (i + 1) (min lim (2 * n)), .inl f))] H := hP
        have hD : va_D A [(h, .inr (cCol, [.int (nI lim), .ref r_5])), (q, .inl (cI, n, .inl f)), (r_5, .inl (cI, max (i + 1) (min lim (2 * n)), .inl f))] := hD
        refine lv_aload_n hx hb d_Col_put_55 rfl (lv_at hl 1 rfl) ?_
        refine va_get (D := (dC, dI)) (ci := cCol) (v := .ref r_5) (C := R_Col) (T := F_Col) (N := 2) hx hb hts i_Col hown hK hP 0 rfl rfl 1 (by decide) (hts _ tw_10) (fun _ h9 => h9) rfl d_Col_put_56 ?_
        refine lv_iload_n hx hb d_Col_put_59 rfl (lv_at hl 2 rfl) ?_
        refine lv_iload_n hx hb d_Col_put_60 rfl (lv_at hl 3 rfl) ?_
        refine va_iast hx hb hK hP hD hS 2 0 rfl ht (vp_in_nI (by omega) (by omega)) d_Col_put_61 (fun H locs hP hD hS => ?_)
        rw [nI_clamp (show i < 2 ^ 31 by omega)] at hP hD
        have hP : va_P (dC, dI) classes [(h, .inr (cCol, [.int (nI lim), .ref r_5])), (q, .inl (cI, n, .inl f)), (r_5, .inl (cI, max (i + 1) (min lim (2 * n)), .inl (upd f i x)))] H := hP
        have hD : va_D A [(h, .inr (cCol, [.int (nI lim), .ref r_5])), (q, .inl (cI, n, .inl f)), (r_5, .inl (cI, max (i + 1) (min lim (2 * n)), .inl (upd f i x)))] := hD
        obtain ⟨hP, hD⟩ := ps_perm (ws' := [(h, .inr (cCol, [.int (nI lim), .ref r_5])), (r_5, .inl (cI, max (i + 1) (min lim (2 * n)), .inl (upd f i x)))]) hP hD [0, 2] (by decide) rfl
        exact ps_vret hx hb hr hlocks hK hP hD hS (by have h1 := ps_pay hn hi (by omega); show 0 + 1 ≤ ps_dc lim n i; omega) (by have h1 := ps_pay hn hi (by omega); show 0 + max (i + 1) (min lim (2 * n)) ≤ ps_ds lim n i; omega) d_Col_put_62 (⟨r_5, by unfold ps_len; rw [if_neg (by omega)]; rfl⟩)
    · have c_2 : ¬ i < lim := fun q => c_2 ((nI_ltI (by omega) (by omega)).mpr q)
      exact absurd hi c_2

set_option maxHeartbeats 4000000 in
set_option maxRecDepth 100000 in
/-- Column.wipe -/
theorem c_wipe (l : Launch) (dC : Nat → ClassId) (dI : Nat → Nat → Nat) (cI : ClassId) (tys : List (ClassId × FieldType)) (ht : tys[0]? = some (cI, FieldType.int)) (h q lim n : Nat) (f : Nat → Int32) (a b : Nat) (hz : ps_Z n f) (hn : n < 2 ^ 31) (ha : a < 2 ^ 31) (hb0 : b < 2 ^ 31) : ps_mV classes l y_Col_wipe w_Col_wipe ({ frames := 2, cells := 0, slots := 0, locals := 46 }) (dC, dI) tys [.ref h, .int (nI a), .int (nI b)] (pc_W cI h q lim n f) (fun u => u = pc_W cI h q lim n (ps_fil f a b 0)) := by
  refine ps_mV_of (by decide) rfl (Nat.le_of_ble_eq_true rfl) ?_
  intro p e s m below meth c A ls C0 hA hK hP hD hS hl
  obtain ⟨hx, hb, hr, hml, hts, hown, hlocks, hin⟩ := C0
  have hl : lv_has ls 4 [(0, .ref h), (1, .int (nI a)), (2, .int (nI b))] := hl
  have hP : va_P (dC, dI) classes [(h, .inr (cCol, [.int (nI lim), .ref q])), (q, .inl (cI, n, .inl f))] s.heap := hP
  have hD : va_D A [(h, .inr (cCol, [.int (nI lim), .ref q])), (q, .inl (cI, n, .inl f))] := hD
  refine lv_iload_n hx hb d_Col_wipe_0 rfl (lv_at hl 2 rfl) ?_
  refine lv_aload_n hx hb d_Col_wipe_1 rfl (lv_at hl 0 rfl) ?_
  refine va_get (D := (dC, dI)) (ci := cCol) (v := .ref q) (C := R_Col) (T := F_Col) (N := 2) hx hb hts i_Col hown hK hP 0 rfl rfl 1 (by decide) (hts _ tw_10) (fun _ h9 => h9) rfl d_Col_wipe_2 ?_
  refine va_alen hx hb hK hP 1 0 rfl ht (v := nI n) rfl d_Col_wipe_5 ?_
  refine va_mmin hx hb (by rw [hml]; exact hl.1.symm) hown (hts _ tw_12) (hts _ tw_3) (hts _ tw_4) (hts _ tw_5) (Nat.le_of_ble_eq_true rfl) (Nat.le_of_ble_eq_true rfl) (Nat.zero_le _) (Nat.zero_le _) d_Col_wipe_6 ?_
  refine ps_top (z := nI (min b n)) (ps_min (by omega) (by omega)) ?_
  refine lv_istore_n (lv' := [(3, .int (nI (min b n))), (0, .ref h), (1, .int (nI a)), (2, .int (nI b))]) hx hb d_Col_wipe_9 rfl hl (by decide) rfl (fun ls hl => ?_)
  refine lv_iload_n hx hb d_Col_wipe_10 rfl (lv_at hl 2 rfl) ?_
  refine lv_if_lt (tgt := 29) hx hb d_Col_wipe_11 (by decide) (fun c_1 => ?_) (fun c_1 => ?_)
  · exact absurd c_1 (nI_pos (by omega))
  · refine lv_iload_n hx hb d_Col_wipe_14 rfl (lv_at hl 2 rfl) ?_
    refine lv_iload_n hx hb d_Col_wipe_15 rfl (lv_at hl 0 rfl) ?_
    refine lv_icmp_ge (tgt := 29) hx hb d_Col_wipe_16 (by decide) (fun c_2 => ?_) (fun c_2 => ?_)
    · have c_2 : min b n ≤ a := (nI_leI (by omega) (by omega)).mp c_2
      exact ps_vret hx hb hr hlocks hK hP hD hS (Nat.le_of_ble_eq_true rfl) (Nat.le_of_ble_eq_true rfl) d_Col_wipe_29 (by rw [ps_fil_none hz (by omega)]; rfl)
    · have c_2 : ¬ min b n ≤ a := fun q => c_2 ((nI_leI (by omega) (by omega)).mpr q)
      refine lv_aload_n hx hb d_Col_wipe_19 rfl (lv_at hl 1 rfl) ?_
      refine va_get (D := (dC, dI)) (ci := cCol) (v := .ref q) (C := R_Col) (T := F_Col) (N := 2) hx hb hts i_Col hown hK hP 0 rfl rfl 1 (by decide) (hts _ tw_10) (fun _ h9 => h9) rfl d_Col_wipe_20 ?_
      refine lv_iload_n hx hb d_Col_wipe_23 rfl (lv_at hl 2 rfl) ?_
      refine lv_iload_n hx hb d_Col_wipe_24 rfl (lv_at hl 0 rfl) ?_
      refine lv_iconst (v := 0) hx hb d_Col_wipe_25 (by decide) ?_
      refine ps_afterV (wc := [(q, .inl (cI, n, .inl f))]) (wr := [0].filterMap (fun z9 => ([(h, .inr (cCol, [.int (nI lim), .ref q])), (q, .inl (cI, n, .inl f))] : va_W)[z9]?)) hP hD hS hA [1] [0] rfl rfl (by decide) (by decide) (ps_runSV ⟨hx, hb, hml, hown, hts⟩ (c_fill l dC dI cI tys ht q n f a (min b n) 0 (by omega) (by omega) hn) (ps_cwS ps_gd 4 hts tw_17 k_Arr_fill e_Arr_fill ⟨Nat.le_of_ble_eq_true rfl, Nat.le_of_ble_eq_true rfl⟩) hK hP hD [1] (by decide) rfl rfl hl.1 rfl (Nat.le_of_ble_eq_true rfl) d_Col_wipe_26 ⟨Nat.zero_le _, Nat.zero_le _⟩) (fun u_3 H locs hu_3 hP hD hS => ?_)
      rw [ps_fil_cut hz] at hu_3
      subst hu_3
      obtain ⟨hP, hD⟩ := ps_perm (ws' := [(h, .inr (cCol, [.int (nI lim), .ref q])), (q, .inl (cI, n, .inl (ps_fil f a b 0)))]) hP hD [0, 1] (by decide) rfl
      exact ps_vret hx hb hr hlocks hK hP hD hS (Nat.le_of_ble_eq_true rfl) (Nat.le_of_ble_eq_true rfl) d_Col_wipe_29 rfl
end
section
theorem tw_25 : (.fieldLink "PageStore$Values" 14 "PageStore$Values" "kinds" "LPageStore$Column;" : Cond) ∈ ps_tbl := ps_t1 63 rfl rfl
theorem tw_26 : (.methodLink "PageStore$Values" 23 ⟨"PageStore$Column", "put", "(II)V"⟩ : Cond) ∈ ps_tbl := ps_t2 38 rfl rfl
theorem tw_27 : (.fieldLink "PageStore$Values" 20 "PageStore$Values" "numbers" "LPageStore$Column;" : Cond) ∈ ps_tbl := ps_t1 67 rfl rfl
theorem tw_28 : (.methodLink "PageStore$Values" 27 ⟨"PageStore$Column", "wipe", "(II)V"⟩ : Cond) ∈ ps_tbl := ps_t1 169 rfl rfl
theorem tw_29 : (.fieldLink "PageStore$Rows" 14 "PageStore$Rows" "sorts" "LPageStore$Column;" : Cond) ∈ ps_tbl := ps_t1 41 rfl rfl
theorem tw_30 : (.methodLink "PageStore$Rows" 26 ⟨"PageStore$Column", "put", "(II)V"⟩ : Cond) ∈ ps_tbl := ps_t1 190 rfl rfl
theorem tw_31 : (.fieldLink "PageStore$Rows" 20 "PageStore$Rows" "starts" "LPageStore$Column;" : Cond) ∈ ps_tbl := ps_t1 43 rfl rfl
theorem tw_32 : (.fieldLink "PageStore$Rows" 23 "PageStore$Rows" "lengths" "LPageStore$Column;" : Cond) ∈ ps_tbl := ps_t1 45 rfl rfl
theorem tw_33 : (.fieldLink "PageStore$Keys" 14 "PageStore$Keys" "dictionaries" "LPageStore$Column;" : Cond) ∈ ps_tbl := ps_t1 86 rfl rfl
theorem tw_34 : (.methodLink "PageStore$Keys" 33 ⟨"PageStore$Column", "put", "(II)V"⟩ : Cond) ∈ ps_tbl := ps_t2 82 rfl rfl
theorem tw_35 : (.fieldLink "PageStore$Keys" 20 "PageStore$Keys" "kinds" "LPageStore$Column;" : Cond) ∈ ps_tbl := ps_t1 87 rfl rfl
theorem tw_36 : (.fieldLink "PageStore$Keys" 23 "PageStore$Keys" "numbers" "LPageStore$Column;" : Cond) ∈ ps_tbl := ps_t1 89 rfl rfl
theorem tw_37 : (.instanceMethod ⟨"PageStore$Column", "put", "(II)V"⟩ : Cond) ∈ ps_tbl := ps_t1 191 rfl rfl
theorem tw_38 : (.selects "PageStore$Column" ⟨"PageStore$Column", "put", "(II)V"⟩ ⟨"PageStore$Column", "put", "(II)V"⟩ : Cond) ∈ ps_tbl := ps_t1 192 rfl rfl
theorem tw_39 : (.initialized "PageStore$Column" : Cond) ∈ ps_tbl := ps_t1 2 rfl rfl
theorem tw_40 : (.code ⟨"PageStore$Column", "put", "(II)V"⟩ prog_2_method_3_code 4 none : Cond) ∈ ps_tbl := ps_t1 193 rfl rfl
theorem tw_41 : (.instanceMethod ⟨"PageStore$Column", "wipe", "(II)V"⟩ : Cond) ∈ ps_tbl := ps_t1 170 rfl rfl
theorem tw_42 : (.selects "PageStore$Column" ⟨"PageStore$Column", "wipe", "(II)V"⟩ ⟨"PageStore$Column", "wipe", "(II)V"⟩ : Cond) ∈ ps_tbl := ps_t1 171 rfl rfl
theorem tw_43 : (.code ⟨"PageStore$Column", "wipe", "(II)V"⟩ prog_2_method_4_code 4 none : Cond) ∈ ps_tbl := ps_t1 172 rfl rfl
theorem k_Col_put : ps_cdV ps_tbl y_Col_put prog_2_method_3_code 4 none := ⟨tw_37, tw_38, tw_39, tw_40⟩
theorem k_Col_wipe : ps_cdV ps_tbl y_Col_wipe prog_2_method_4_code 4 none := ⟨tw_41, tw_42, tw_39, tw_43⟩
set_option maxHeartbeats 4000000 in
set_option maxRecDepth 100000 in
/-- Values.write -/
theorem c_vwrite (l : Launch) (dC : Nat → ClassId) (dI : Nat → Nat → Nat) (cI : ClassId) (tys : List (ClassId × FieldType)) (ht : tys[0]? = some (cI, FieldType.int)) (h k qk x qx lim n1 n2 : Nat) (f1 f2 : Nat → Int32) (i : Nat) (v w : Int32) (hz1 : ps_Z n1 f1) (hz2 : ps_Z n2 f2) (hlim : lim ≤ 65536) (hn1 : n1 ≤ lim) (hn2 : n2 ≤ lim) (hi : i < lim) : ps_mV classes l y_Val_write w_Val_write ({ frames := 3, cells := ps_dc lim n1 i + ps_dc lim n2 i, slots := ps_ds lim n1 i + ps_ds lim n2 i, locals := 63 }) (dC, dI) tys [.ref h, .int (nI i), .int v, .int w] (pv_W cI h k qk x qx lim n1 n2 f1 f2) (fun u => ∃ q1 q2 : Nat, u = pv_W cI h k q1 x q2 lim (ps_len lim n1 i) (ps_len lim n2 i) (upd f1 i v) (upd f2 i (if v = 0 then 0 else w))) := by
  refine ps_mV_of (by decide) rfl (Nat.le_of_ble_eq_true rfl) ?_
  intro p e s m below meth c A ls C0 hA hK hP hD hS hl
  obtain ⟨hx, hb, hr, hml, hts, hown, hlocks, hin⟩ := C0
  have hl : lv_has ls 4 [(0, .ref h), (1, .int (nI i)), (2, .int v), (3, .int w)] := hl
  have hP : va_P (dC, dI) classes [(h, .inr (cVal, [.ref k, .ref x])), (k, .inr (cCol, [.int (nI lim), .ref qk])), (qk, .inl (cI, n1, .inl f1)), (x, .inr (cCol, [.int (nI lim), .ref qx])), (qx, .inl (cI, n2, .inl f2))] s.heap := hP
  have hD : va_D A [(h, .inr (cVal, [.ref k, .ref x])), (k, .inr (cCol, [.int (nI lim), .ref qk])), (qk, .inl (cI, n1, .inl f1)), (x, .inr (cCol, [.int (nI lim), .ref qx])), (qx, .inl (cI, n2, .inl f2))] := hD
  refine lv_aload_n hx hb d_Val_write_0 rfl (lv_at hl 0 rfl) ?_
  refine va_get (D := (dC, dI)) (ci := cVal) (v := .ref k) (C := R_Val) (T := F_Val) (N := 2) hx hb hts i_Val hown hK hP 0 rfl rfl 0 (by decide) (hts _ tw_25) (fun _ h9 => h9) rfl d_Val_write_1 ?_
  refine lv_iload_n hx hb d_Val_write_4 rfl (lv_at hl 1 rfl) ?_
  refine lv_iload_n hx hb d_Val_write_5 rfl (lv_at hl 2 rfl) ?_
  refine ps_afterV (wc := [(k, .inr (cCol, [.int (nI lim), .ref qk])), (qk, .inl (cI, n1, .inl f1))]) (wr := [0, 3, 4].filterMap (fun z9 => ([(h, .inr (cVal, [.ref k, .ref x])), (k, .inr (cCol, [.int (nI lim), .ref qk])), (qk, .inl (cI, n1, .inl f1)), (x, .inr (cCol, [.int (nI lim), .ref qx])), (qx, .inl (cI, n2, .inl f2))] : va_W)[z9]?)) hP hD hS hA [1, 2] [0, 3, 4] rfl rfl (by decide) (by decide) (ps_runVV ⟨hx, hb, hml, hown, hts⟩ (c_put l dC dI cI tys ht k qk lim n1 f1 i v hz1 hlim hn1 hi) (ps_cwV ps_gd 2 hts tw_26 k_Col_put e_Col_put ⟨Nat.le_of_ble_eq_true rfl, Nat.le_of_ble_eq_true rfl⟩) hK hP hD [1, 2] (by decide) rfl 0 cCol rfl rfl rfl hl.1 rfl (Nat.le_of_ble_eq_true rfl) d_Val_write_6 ⟨by show 0 + ps_dc lim n1 i ≤ ps_dc lim n1 i + ps_dc lim n2 i; omega, by show 0 + ps_ds lim n1 i ≤ ps_ds lim n1 i + ps_ds lim n2 i; omega⟩) (fun u_1 H locs hu_1 hP hD hS => ?_)
  obtain ⟨q_3, hu_1⟩ := hu_1
  subst hu_1
  obtain ⟨hP, hD⟩ := ps_perm (ws' := [(h, .inr (cVal, [.ref k, .ref x])), (k, .inr (cCol, [.int (nI lim), .ref q_3])), (q_3, .inl (cI, ps_len lim n1 i, .inl (upd f1 i v))), (x, .inr (cCol, [.int (nI lim), .ref qx])), (qx, .inl (cI, n2, .inl f2))]) hP hD [0, 3, 4, 1, 2] (by decide) rfl
  refine lv_aload_n hx hb d_Val_write_9 rfl (lv_at hl 0 rfl) ?_
  refine va_get (D := (dC, dI)) (ci := cVal) (v := .ref x) (C := R_Val) (T := F_Val) (N := 2) hx hb hts i_Val hown hK hP 0 rfl rfl 1 (by decide) (hts _ tw_27) (fun _ h9 => h9) rfl d_Val_write_10 ?_
  refine lv_iload_n hx hb d_Val_write_13 rfl (lv_at hl 1 rfl) ?_
  refine lv_iload_n hx hb d_Val_write_14 rfl (lv_at hl 2 rfl) ?_
  refine lv_if_ne (tgt := 22) hx hb d_Val_write_15 (by decide) (fun c_4 => ?_) (fun c_4 => ?_)
  · refine lv_iload_n hx hb d_Val_write_22 rfl (lv_at hl 3 rfl) ?_
    refine ps_afterV (wc := [(x, .inr (cCol, [.int (nI lim), .ref qx])), (qx, .inl (cI, n2, .inl f2))]) (wr := [0, 1, 2].filterMap (fun z9 => ([(h, .inr (cVal, [.ref k, .ref x])), (k, .inr (cCol, [.int (nI lim), .ref q_3])), (q_3, .inl (cI, ps_len lim n1 i, .inl (upd f1 i v))), (x, .inr (cCol, [.int (nI lim), .ref qx])), (qx, .inl (cI, n2, .inl f2))] : va_W)[z9]?)) hP hD hS hA [3, 4] [0, 1, 2] rfl rfl (by decide) (by decide) (ps_runVV ⟨hx, hb, hml, hown, hts⟩ (c_put l dC dI cI tys ht x qx lim n2 f2 i w hz2 hlim hn2 hi) (ps_cwV ps_gd 2 hts tw_26 k_Col_put e_Col_put ⟨Nat.le_of_ble_eq_true rfl, Nat.le_of_ble_eq_true rfl⟩) hK hP hD [3, 4] (by decide) rfl 0 cCol rfl rfl rfl hl.1 rfl (Nat.le_of_ble_eq_true rfl) d_Val_write_23 ⟨by show 0 + ps_dc lim n1 i + ps_dc lim n2 i ≤ ps_dc lim n1 i + ps_dc lim n2 i; omega, by show 0 + ps_ds lim n1 i + ps_ds lim n2 i ≤ ps_ds lim n1 i + ps_ds lim n2 i; omega⟩) (fun u_5 H locs hu_5 hP hD hS => ?_)
    obtain ⟨q_7, hu_5⟩ := hu_5
    subst hu_5
    obtain ⟨hP, hD⟩ := ps_perm (ws' := [(h, .inr (cVal, [.ref k, .ref x])), (k, .inr (cCol, [.int (nI lim), .ref q_3])), (q_3, .inl (cI, ps_len lim n1 i, .inl (upd f1 i v))), (x, .inr (cCol, [.int (nI lim), .ref q_7])), (q_7, .inl (cI, ps_len lim n2 i, .inl (upd f2 i w)))]) hP hD [0, 1, 2, 3, 4] (by decide) rfl
    exact ps_vret hx hb hr hlocks hK hP hD hS (by show 0 + ps_dc lim n1 i + ps_dc lim n2 i ≤ ps_dc lim n1 i + ps_dc lim n2 i; omega) (by show 0 + ps_ds lim n1 i + ps_ds lim n2 i ≤ ps_ds lim n1 i + ps_ds lim n2 i; omega) d_Val_write_26 (⟨q_3, q_7, by rw [if_neg c_4]; rfl⟩)
  · refine lv_iconst (v := 0) hx hb d_Val_write_18 (by decide) ?_
    refine lv_goto (tgt := 23) hx hb d_Val_write_19 (by decide) ?_
    refine ps_afterV (wc := [(x, .inr (cCol, [.int (nI lim), .ref qx])), (qx, .inl (cI, n2, .inl f2))]) (wr := [0, 1, 2].filterMap (fun z9 => ([(h, .inr (cVal, [.ref k, .ref x])), (k, .inr (cCol, [.int (nI lim), .ref q_3])), (q_3, .inl (cI, ps_len lim n1 i, .inl (upd f1 i v))), (x, .inr (cCol, [.int (nI lim), .ref qx])), (qx, .inl (cI, n2, .inl f2))] : va_W)[z9]?)) hP hD hS hA [3, 4] [0, 1, 2] rfl rfl (by decide) (by decide) (ps_runVV ⟨hx, hb, hml, hown, hts⟩ (c_put l dC dI cI tys ht x qx lim n2 f2 i 0 hz2 hlim hn2 hi) (ps_cwV ps_gd 2 hts tw_26 k_Col_put e_Col_put ⟨Nat.le_of_ble_eq_true rfl, Nat.le_of_ble_eq_true rfl⟩) hK hP hD [3, 4] (by decide) rfl 0 cCol rfl rfl rfl hl.1 rfl (Nat.le_of_ble_eq_true rfl) d_Val_write_23 ⟨by show 0 + ps_dc lim n1 i + ps_dc lim n2 i ≤ ps_dc lim n1 i + ps_dc lim n2 i; omega, by show 0 + ps_ds lim n1 i + ps_ds lim n2 i ≤ ps_ds lim n1 i + ps_ds lim n2 i; omega⟩) (fun u_8 H locs hu_8 hP hD hS => ?_)
    obtain ⟨q_10, hu_8⟩ := hu_8
    subst hu_8
    obtain ⟨hP, hD⟩ := ps_perm (ws' := [(h, .inr (cVal, [.ref k, .ref x])), (k, .inr (cCol, [.int (nI lim), .ref q_3])), (q_3, .inl (cI, ps_len lim n1 i, .inl (upd f1 i v))), (x, .inr (cCol, [.int (nI lim), .ref q_10])), (q_10, .inl (cI, ps_len lim n2 i, .inl (upd f2 i 0)))]) hP hD [0, 1, 2, 3, 4] (by decide) rfl
    exact ps_vret hx hb hr hlocks hK hP hD hS (by show 0 + ps_dc lim n1 i + ps_dc lim n2 i ≤ ps_dc lim n1 i + ps_dc lim n2 i; omega) (by show 0 + ps_ds lim n1 i + ps_ds lim n2 i ≤ ps_ds lim n1 i + ps_ds lim n2 i; omega) d_Val_write_26 (⟨q_3, q_10, by rw [if_pos c_4]; rfl⟩)

set_option maxHeartbeats 4000000 in
set_option maxRecDepth 100000 in
/-- Values.wipe -/
theorem c_vwipe (l : Launch) (dC : Nat → ClassId) (dI : Nat → Nat → Nat) (cI : ClassId) (tys : List (ClassId × FieldType)) (ht : tys[0]? = some (cI, FieldType.int)) (h k qk x qx lim n1 n2 : Nat) (f1 f2 : Nat → Int32) (a b : Nat) (hz1 : ps_Z n1 f1) (hz2 : ps_Z n2 f2) (hn1 : n1 < 2 ^ 31) (hn2 : n2 < 2 ^ 31) (ha : a < 2 ^ 31) (hb0 : b < 2 ^ 31) : ps_mV classes l y_Val_wipe w_Val_wipe ({ frames := 3, cells := 0, slots := 0, locals := 69 }) (dC, dI) tys [.ref h, .int (nI a), .int (nI b)] (pv_W cI h k qk x qx lim n1 n2 f1 f2) (fun u => u = pv_W cI h k qk x qx lim n1 n2 (ps_fil f1 a b 0) (ps_fil f2 a b 0)) := by
  refine ps_mV_of (by decide) rfl (Nat.le_of_ble_eq_true rfl) ?_
  intro p e s m below meth c A ls C0 hA hK hP hD hS hl
  obtain ⟨hx, hb, hr, hml, hts, hown, hlocks, hin⟩ := C0
  have hl : lv_has ls 3 [(0, .ref h), (1, .int (nI a)), (2, .int (nI b))] := hl
  have hP : va_P (dC, dI) classes [(h, .inr (cVal, [.ref k, .ref x])), (k, .inr (cCol, [.int (nI lim), .ref qk])), (qk, .inl (cI, n1, .inl f1)), (x, .inr (cCol, [.int (nI lim), .ref qx])), (qx, .inl (cI, n2, .inl f2))] s.heap := hP
  have hD : va_D A [(h, .inr (cVal, [.ref k, .ref x])), (k, .inr (cCol, [.int (nI lim), .ref qk])), (qk, .inl (cI, n1, .inl f1)), (x, .inr (cCol, [.int (nI lim), .ref qx])), (qx, .inl (cI, n2, .inl f2))] := hD
  refine lv_aload_n hx hb d_Val_wipe_0 rfl (lv_at hl 0 rfl) ?_
  refine va_get (D := (dC, dI)) (ci := cVal) (v := .ref k) (C := R_Val) (T := F_Val) (N := 2) hx hb hts i_Val hown hK hP 0 rfl rfl 0 (by decide) (hts _ tw_25) (fun _ h9 => h9) rfl d_Val_wipe_1 ?_
  refine lv_iload_n hx hb d_Val_wipe_4 rfl (lv_at hl 1 rfl) ?_
  refine lv_iload_n hx hb d_Val_wipe_5 rfl (lv_at hl 2 rfl) ?_
  refine ps_afterV (wc := [(k, .inr (cCol, [.int (nI lim), .ref qk])), (qk, .inl (cI, n1, .inl f1))]) (wr := [0, 3, 4].filterMap (fun z9 => ([(h, .inr (cVal, [.ref k, .ref x])), (k, .inr (cCol, [.int (nI lim), .ref qk])), (qk, .inl (cI, n1, .inl f1)), (x, .inr (cCol, [.int (nI lim), .ref qx])), (qx, .inl (cI, n2, .inl f2))] : va_W)[z9]?)) hP hD hS hA [1, 2] [0, 3, 4] rfl rfl (by decide) (by decide) (ps_runVV ⟨hx, hb, hml, hown, hts⟩ (c_wipe l dC dI cI tys ht k qk lim n1 f1 a b hz1 hn1 ha hb0) (ps_cwV ps_gd 2 hts tw_28 k_Col_wipe e_Col_wipe ⟨Nat.le_of_ble_eq_true rfl, Nat.le_of_ble_eq_true rfl⟩) hK hP hD [1, 2] (by decide) rfl 0 cCol rfl rfl rfl hl.1 rfl (Nat.le_of_ble_eq_true rfl) d_Val_wipe_6 ⟨Nat.zero_le _, Nat.zero_le _⟩) (fun u_1 H locs hu_1 hP hD hS => ?_)
  subst hu_1
  obtain ⟨hP, hD⟩ := ps_perm (ws' := [(h, .inr (cVal, [.ref k, .ref x])), (k, .inr (cCol, [.int (nI lim), .ref qk])), (qk, .inl (cI, n1, .inl (ps_fil f1 a b 0))), (x, .inr (cCol, [.int (nI lim), .ref qx])), (qx, .inl (cI, n2, .inl f2))]) hP hD [0, 3, 4, 1, 2] (by decide) rfl
  refine lv_aload_n hx hb d_Val_wipe_9 rfl (lv_at hl 0 rfl) ?_
  refine va_get (D := (dC, dI)) (ci := cVal) (v := .ref x) (C := R_Val) (T := F_Val) (N := 2) hx hb hts i_Val hown hK hP 0 rfl rfl 1 (by decide) (hts _ tw_27) (fun _ h9 => h9) rfl d_Val_wipe_10 ?_
  refine lv_iload_n hx hb d_Val_wipe_13 rfl (lv_at hl 1 rfl) ?_
  refine lv_iload_n hx hb d_Val_wipe_14 rfl (lv_at hl 2 rfl) ?_
  refine ps_afterV (wc := [(x, .inr (cCol, [.int (nI lim), .ref qx])), (qx, .inl (cI, n2, .inl f2))]) (wr := [0, 1, 2].filterMap (fun z9 => ([(h, .inr (cVal, [.ref k, .ref x])), (k, .inr (cCol, [.int (nI lim), .ref qk])), (qk, .inl (cI, n1, .inl (ps_fil f1 a b 0))), (x, .inr (cCol, [.int (nI lim), .ref qx])), (qx, .inl (cI, n2, .inl f2))] : va_W)[z9]?)) hP hD hS hA [3, 4] [0, 1, 2] rfl rfl (by decide) (by decide) (ps_runVV ⟨hx, hb, hml, hown, hts⟩ (c_wipe l dC dI cI tys ht x qx lim n2 f2 a b hz2 hn2 ha hb0) (ps_cwV ps_gd 2 hts tw_28 k_Col_wipe e_Col_wipe ⟨Nat.le_of_ble_eq_true rfl, Nat.le_of_ble_eq_true rfl⟩) hK hP hD [3, 4] (by decide) rfl 0 cCol rfl rfl rfl hl.1 rfl (Nat.le_of_ble_eq_true rfl) d_Val_wipe_15 ⟨Nat.zero_le _, Nat.zero_le _⟩) (fun u_3 H locs hu_3 hP hD hS => ?_)
  subst hu_3
  obtain ⟨hP, hD⟩ := ps_perm (ws' := [(h, .inr (cVal, [.ref k, .ref x])), (k, .inr (cCol, [.int (nI lim), .ref qk])), (qk, .inl (cI, n1, .inl (ps_fil f1 a b 0))), (x, .inr (cCol, [.int (nI lim), .ref qx])), (qx, .inl (cI, n2, .inl (ps_fil f2 a b 0)))]) hP hD [0, 1, 2, 3, 4] (by decide) rfl
  exact ps_vret hx hb hr hlocks hK hP hD hS (Nat.le_of_ble_eq_true rfl) (Nat.le_of_ble_eq_true rfl) d_Val_wipe_18 rfl

set_option maxHeartbeats 4000000 in
set_option maxRecDepth 100000 in
/-- c_rwrite -/
theorem c_rwrite (l : Launch) (dC : Nat → ClassId) (dI : Nat → Nat → Nat) (cI : ClassId) (tys : List (ClassId × FieldType)) (ht : tys[0]? = some (cI, FieldType.int)) (h k1 q1 k2 q2 k3 q3 lim n1 n2 n3 : Nat) (f1 f2 f3 : Nat → Int32) (i : Nat) (x1 x2 x3 : Int32) (hz1 : ps_Z n1 f1) (hz2 : ps_Z n2 f2) (hz3 : ps_Z n3 f3) (hlim : lim ≤ 65536) (hn1 : n1 ≤ lim) (hn2 : n2 ≤ lim) (hn3 : n3 ≤ lim) (hi : i < lim) : ps_mV classes l y_Row_write w_Row_write ({ frames := 3, cells := ps_dc lim n1 i + ps_dc lim n2 i + ps_dc lim n3 i, slots := ps_ds lim n1 i + ps_ds lim n2 i + ps_ds lim n3 i, locals := 63 }) (dC, dI) tys [.ref h, .int (nI i), .int x1, .int x2, .int x3] (pr_W cI h k1 q1 k2 q2 k3 q3 lim n1 n2 n3 f1 f2 f3) (fun u => ∃ p1 p2 p3 : Nat, u = pr_W cI h k1 p1 k2 p2 k3 p3 lim (ps_len lim n1 i) (ps_len lim n2 i) (ps_len lim n3 i) (upd f1 i x1) (upd f2 i x2) (upd f3 i x3)) := by
  refine ps_mV_of (by decide) rfl (Nat.le_of_ble_eq_true rfl) ?_
  intro p e s m below meth c A ls C0 hA hK hP hD hS hl
  obtain ⟨hx, hb, hr, hml, hts, hown, hlocks, hin⟩ := C0
  have hl : lv_has ls 5 [(0, .ref h), (1, .int (nI i)), (2, .int x1), (3, .int x2), (4, .int x3)] := hl
  have hP : va_P (dC, dI) classes [(h, .inr (cRow, [.ref k1, .ref k2, .ref k3])), (k1, .inr (cCol, [.int (nI lim), .ref q1])), (q1, .inl (cI, n1, .inl f1)), (k2, .inr (cCol, [.int (nI lim), .ref q2])), (q2, .inl (cI, n2, .inl f2)), (k3, .inr (cCol, [.int (nI lim), .ref q3])), (q3, .inl (cI, n3, .inl f3))] s.heap := hP
  have hD : va_D A [(h, .inr (cRow, [.ref k1, .ref k2, .ref k3])), (k1, .inr (cCol, [.int (nI lim), .ref q1])), (q1, .inl (cI, n1, .inl f1)), (k2, .inr (cCol, [.int (nI lim), .ref q2])), (q2, .inl (cI, n2, .inl f2)), (k3, .inr (cCol, [.int (nI lim), .ref q3])), (q3, .inl (cI, n3, .inl f3))] := hD
  refine lv_aload_n hx hb d_Row_write_0 rfl (lv_at hl 0 rfl) ?_
  refine va_get (D := (dC, dI)) (ci := cRow) (v := .ref k1) (C := R_Row) (T := F_Row) (N := 3) hx hb hts i_Row hown hK hP 0 rfl rfl 0 (by decide) (hts _ tw_29) (fun _ h9 => h9) rfl d_Row_write_1 ?_
  refine lv_iload_n hx hb d_Row_write_4 rfl (lv_at hl 1 rfl) ?_
  refine lv_iload_n hx hb d_Row_write_5 rfl (lv_at hl 2 rfl) ?_
  refine ps_afterV (wc := [(k1, .inr (cCol, [.int (nI lim), .ref q1])), (q1, .inl (cI, n1, .inl f1))]) (wr := [0, 3, 4, 5, 6].filterMap (fun z9 => ([(h, .inr (cRow, [.ref k1, .ref k2, .ref k3])), (k1, .inr (cCol, [.int (nI lim), .ref q1])), (q1, .inl (cI, n1, .inl f1)), (k2, .inr (cCol, [.int (nI lim), .ref q2])), (q2, .inl (cI, n2, .inl f2)), (k3, .inr (cCol, [.int (nI lim), .ref q3])), (q3, .inl (cI, n3, .inl f3))] : va_W)[z9]?)) hP hD hS hA [1, 2] [0, 3, 4, 5, 6] rfl rfl (by decide) (by decide) (ps_runVV ⟨hx, hb, hml, hown, hts⟩ (c_put l dC dI cI tys ht k1 q1 lim n1 f1 i x1 hz1 hlim hn1 hi) (ps_cwV ps_gd 2 hts tw_30 k_Col_put e_Col_put ⟨Nat.le_of_ble_eq_true rfl, Nat.le_of_ble_eq_true rfl⟩) hK hP hD [1, 2] (by decide) rfl 0 cCol rfl rfl rfl hl.1 rfl (Nat.le_of_ble_eq_true rfl) d_Row_write_6 ⟨by show 0 + ps_dc lim n1 i ≤ ps_dc lim n1 i + ps_dc lim n2 i + ps_dc lim n3 i; omega, by show 0 + ps_ds lim n1 i ≤ ps_ds lim n1 i + ps_ds lim n2 i + ps_ds lim n3 i; omega⟩) (fun u_1 H locs hu_1 hP hD hS => ?_)
  obtain ⟨q_3, hu_1⟩ := hu_1
  subst hu_1
  obtain ⟨hP, hD⟩ := ps_perm (ws' := [(h, .inr (cRow, [.ref k1, .ref k2, .ref k3])), (k1, .inr (cCol, [.int (nI lim), .ref q_3])), (q_3, .inl (cI, ps_len lim n1 i, .inl (upd f1 i x1))), (k2, .inr (cCol, [.int (nI lim), .ref q2])), (q2, .inl (cI, n2, .inl f2)), (k3, .inr (cCol, [.int (nI lim), .ref q3])), (q3, .inl (cI, n3, .inl f3))]) hP hD [0, 5, 6, 1, 2, 3, 4] (by decide) rfl
  refine lv_aload_n hx hb d_Row_write_9 rfl (lv_at hl 0 rfl) ?_
  refine va_get (D := (dC, dI)) (ci := cRow) (v := .ref k2) (C := R_Row) (T := F_Row) (N := 3) hx hb hts i_Row hown hK hP 0 rfl rfl 1 (by decide) (hts _ tw_31) (fun _ h9 => h9) rfl d_Row_write_10 ?_
  refine lv_iload_n hx hb d_Row_write_13 rfl (lv_at hl 1 rfl) ?_
  refine lv_iload_n hx hb d_Row_write_14 rfl (lv_at hl 3 rfl) ?_
  refine ps_afterV (wc := [(k2, .inr (cCol, [.int (nI lim), .ref q2])), (q2, .inl (cI, n2, .inl f2))]) (wr := [0, 1, 2, 5, 6].filterMap (fun z9 => ([(h, .inr (cRow, [.ref k1, .ref k2, .ref k3])), (k1, .inr (cCol, [.int (nI lim), .ref q_3])), (q_3, .inl (cI, ps_len lim n1 i, .inl (upd f1 i x1))), (k2, .inr (cCol, [.int (nI lim), .ref q2])), (q2, .inl (cI, n2, .inl f2)), (k3, .inr (cCol, [.int (nI lim), .ref q3])), (q3, .inl (cI, n3, .inl f3))] : va_W)[z9]?)) hP hD hS hA [3, 4] [0, 1, 2, 5, 6] rfl rfl (by decide) (by decide) (ps_runVV ⟨hx, hb, hml, hown, hts⟩ (c_put l dC dI cI tys ht k2 q2 lim n2 f2 i x2 hz2 hlim hn2 hi) (ps_cwV ps_gd 2 hts tw_30 k_Col_put e_Col_put ⟨Nat.le_of_ble_eq_true rfl, Nat.le_of_ble_eq_true rfl⟩) hK hP hD [3, 4] (by decide) rfl 0 cCol rfl rfl rfl hl.1 rfl (Nat.le_of_ble_eq_true rfl) d_Row_write_15 ⟨by show 0 + ps_dc lim n1 i + ps_dc lim n2 i ≤ ps_dc lim n1 i + ps_dc lim n2 i + ps_dc lim n3 i; omega, by show 0 + ps_ds lim n1 i + ps_ds lim n2 i ≤ ps_ds lim n1 i + ps_ds lim n2 i + ps_ds lim n3 i; omega⟩) (fun u_4 H locs hu_4 hP hD hS => ?_)
  obtain ⟨q_6, hu_4⟩ := hu_4
  subst hu_4
  obtain ⟨hP, hD⟩ := ps_perm (ws' := [(h, .inr (cRow, [.ref k1, .ref k2, .ref k3])), (k1, .inr (cCol, [.int (nI lim), .ref q_3])), (q_3, .inl (cI, ps_len lim n1 i, .inl (upd f1 i x1))), (k2, .inr (cCol, [.int (nI lim), .ref q_6])), (q_6, .inl (cI, ps_len lim n2 i, .inl (upd f2 i x2))), (k3, .inr (cCol, [.int (nI lim), .ref q3])), (q3, .inl (cI, n3, .inl f3))]) hP hD [0, 1, 2, 5, 6, 3, 4] (by decide) rfl
  refine lv_aload_n hx hb d_Row_write_18 rfl (lv_at hl 0 rfl) ?_
  refine va_get (D := (dC, dI)) (ci := cRow) (v := .ref k3) (C := R_Row) (T := F_Row) (N := 3) hx hb hts i_Row hown hK hP 0 rfl rfl 2 (by decide) (hts _ tw_32) (fun _ h9 => h9) rfl d_Row_write_19 ?_
  refine lv_iload_n hx hb d_Row_write_22 rfl (lv_at hl 1 rfl) ?_
  refine lv_iload hx hb d_Row_write_23 (lv_at hl 4 rfl) ?_
  refine ps_afterV (wc := [(k3, .inr (cCol, [.int (nI lim), .ref q3])), (q3, .inl (cI, n3, .inl f3))]) (wr := [0, 1, 2, 3, 4].filterMap (fun z9 => ([(h, .inr (cRow, [.ref k1, .ref k2, .ref k3])), (k1, .inr (cCol, [.int (nI lim), .ref q_3])), (q_3, .inl (cI, ps_len lim n1 i, .inl (upd f1 i x1))), (k2, .inr (cCol, [.int (nI lim), .ref q_6])), (q_6, .inl (cI, ps_len lim n2 i, .inl (upd f2 i x2))), (k3, .inr (cCol, [.int (nI lim), .ref q3])), (q3, .inl (cI, n3, .inl f3))] : va_W)[z9]?)) hP hD hS hA [5, 6] [0, 1, 2, 3, 4] rfl rfl (by decide) (by decide) (ps_runVV ⟨hx, hb, hml, hown, hts⟩ (c_put l dC dI cI tys ht k3 q3 lim n3 f3 i x3 hz3 hlim hn3 hi) (ps_cwV ps_gd 2 hts tw_30 k_Col_put e_Col_put ⟨Nat.le_of_ble_eq_true rfl, Nat.le_of_ble_eq_true rfl⟩) hK hP hD [5, 6] (by decide) rfl 0 cCol rfl rfl rfl hl.1 rfl (Nat.le_of_ble_eq_true rfl) d_Row_write_25 ⟨by show 0 + ps_dc lim n1 i + ps_dc lim n2 i + ps_dc lim n3 i ≤ ps_dc lim n1 i + ps_dc lim n2 i + ps_dc lim n3 i; omega, by show 0 + ps_ds lim n1 i + ps_ds lim n2 i + ps_ds lim n3 i ≤ ps_ds lim n1 i + ps_ds lim n2 i + ps_ds lim n3 i; omega⟩) (fun u_7 H locs hu_7 hP hD hS => ?_)
  obtain ⟨q_9, hu_7⟩ := hu_7
  subst hu_7
  obtain ⟨hP, hD⟩ := ps_perm (ws' := [(h, .inr (cRow, [.ref k1, .ref k2, .ref k3])), (k1, .inr (cCol, [.int (nI lim), .ref q_3])), (q_3, .inl (cI, ps_len lim n1 i, .inl (upd f1 i x1))), (k2, .inr (cCol, [.int (nI lim), .ref q_6])), (q_6, .inl (cI, ps_len lim n2 i, .inl (upd f2 i x2))), (k3, .inr (cCol, [.int (nI lim), .ref q_9])), (q_9, .inl (cI, ps_len lim n3 i, .inl (upd f3 i x3)))]) hP hD [0, 1, 2, 3, 4, 5, 6] (by decide) rfl
  exact ps_vret hx hb hr hlocks hK hP hD hS (by show 0 + ps_dc lim n1 i + ps_dc lim n2 i + ps_dc lim n3 i ≤ ps_dc lim n1 i + ps_dc lim n2 i + ps_dc lim n3 i; omega) (by show 0 + ps_ds lim n1 i + ps_ds lim n2 i + ps_ds lim n3 i ≤ ps_ds lim n1 i + ps_ds lim n2 i + ps_ds lim n3 i; omega) d_Row_write_28 (⟨q_3, q_6, q_9, rfl⟩)

set_option maxHeartbeats 4000000 in
set_option maxRecDepth 100000 in
/-- c_kwrite -/
theorem c_kwrite (l : Launch) (dC : Nat → ClassId) (dI : Nat → Nat → Nat) (cI : ClassId) (tys : List (ClassId × FieldType)) (ht : tys[0]? = some (cI, FieldType.int)) (h k1 q1 k2 q2 k3 q3 lim n1 n2 n3 : Nat) (f1 f2 f3 : Nat → Int32) (hv : Nat) (i : Nat) (x1 x2 x3 : Int32) (hz1 : ps_Z n1 f1) (hz2 : ps_Z n2 f2) (hz3 : ps_Z n3 f3) (hlim : lim ≤ 65536) (hn1 : n1 ≤ lim) (hn2 : n2 ≤ lim) (hn3 : n3 ≤ lim) (hi : i < lim) : ps_mV classes l y_Key_write w_Key_write ({ frames := 3, cells := ps_dc lim n1 i + ps_dc lim n2 i + ps_dc lim n3 i, slots := ps_ds lim n1 i + ps_ds lim n2 i + ps_ds lim n3 i, locals := 63 }) (dC, dI) tys [.ref h, .int (nI i), .int x1, .int x2, .int x3] (pk_W cI h hv k1 q1 k2 q2 k3 q3 lim n1 n2 n3 f1 f2 f3) (fun u => ∃ p1 p2 p3 : Nat, u = pk_W cI h hv k1 p1 k2 p2 k3 p3 lim (ps_len lim n1 i) (ps_len lim n2 i) (ps_len lim n3 i) (upd f1 i x1) (upd f2 i x2) (upd f3 i x3)) := by
  refine ps_mV_of (by decide) rfl (Nat.le_of_ble_eq_true rfl) ?_
  intro p e s m below meth c A ls C0 hA hK hP hD hS hl
  obtain ⟨hx, hb, hr, hml, hts, hown, hlocks, hin⟩ := C0
  have hl : lv_has ls 5 [(0, .ref h), (1, .int (nI i)), (2, .int x1), (3, .int x2), (4, .int x3)] := hl
  have hP : va_P (dC, dI) classes [(h, .inr (cKey, [.ref k1, .ref k2, .ref k3, .ref hv])), (k1, .inr (cCol, [.int (nI lim), .ref q1])), (q1, .inl (cI, n1, .inl f1)), (k2, .inr (cCol, [.int (nI lim), .ref q2])), (q2, .inl (cI, n2, .inl f2)), (k3, .inr (cCol, [.int (nI lim), .ref q3])), (q3, .inl (cI, n3, .inl f3))] s.heap := hP
  have hD : va_D A [(h, .inr (cKey, [.ref k1, .ref k2, .ref k3, .ref hv])), (k1, .inr (cCol, [.int (nI lim), .ref q1])), (q1, .inl (cI, n1, .inl f1)), (k2, .inr (cCol, [.int (nI lim), .ref q2])), (q2, .inl (cI, n2, .inl f2)), (k3, .inr (cCol, [.int (nI lim), .ref q3])), (q3, .inl (cI, n3, .inl f3))] := hD
  refine lv_aload_n hx hb d_Key_write_0 rfl (lv_at hl 0 rfl) ?_
  refine va_get (D := (dC, dI)) (ci := cKey) (v := .ref k1) (C := R_Key) (T := F_Key) (N := 4) hx hb hts i_Key hown hK hP 0 rfl rfl 0 (by decide) (hts _ tw_33) (fun _ h9 => h9) rfl d_Key_write_1 ?_
  refine lv_iload_n hx hb d_Key_write_4 rfl (lv_at hl 1 rfl) ?_
  refine lv_iload_n hx hb d_Key_write_5 rfl (lv_at hl 2 rfl) ?_
  refine ps_afterV (wc := [(k1, .inr (cCol, [.int (nI lim), .ref q1])), (q1, .inl (cI, n1, .inl f1))]) (wr := [0, 3, 4, 5, 6].filterMap (fun z9 => ([(h, .inr (cKey, [.ref k1, .ref k2, .ref k3, .ref hv])), (k1, .inr (cCol, [.int (nI lim), .ref q1])), (q1, .inl (cI, n1, .inl f1)), (k2, .inr (cCol, [.int (nI lim), .ref q2])), (q2, .inl (cI, n2, .inl f2)), (k3, .inr (cCol, [.int (nI lim), .ref q3])), (q3, .inl (cI, n3, .inl f3))] : va_W)[z9]?)) hP hD hS hA [1, 2] [0, 3, 4, 5, 6] rfl rfl (by decide) (by decide) (ps_runVV ⟨hx, hb, hml, hown, hts⟩ (c_put l dC dI cI tys ht k1 q1 lim n1 f1 i x1 hz1 hlim hn1 hi) (ps_cwV ps_gd 2 hts tw_34 k_Col_put e_Col_put ⟨Nat.le_of_ble_eq_true rfl, Nat.le_of_ble_eq_true rfl⟩) hK hP hD [1, 2] (by decide) rfl 0 cCol rfl rfl rfl hl.1 rfl (Nat.le_of_ble_eq_true rfl) d_Key_write_6 ⟨by show 0 + ps_dc lim n1 i ≤ ps_dc lim n1 i + ps_dc lim n2 i + ps_dc lim n3 i; omega, by show 0 + ps_ds lim n1 i ≤ ps_ds lim n1 i + ps_ds lim n2 i + ps_ds lim n3 i; omega⟩) (fun u_1 H locs hu_1 hP hD hS => ?_)
  obtain ⟨q_3, hu_1⟩ := hu_1
  subst hu_1
  obtain ⟨hP, hD⟩ := ps_perm (ws' := [(h, .inr (cKey, [.ref k1, .ref k2, .ref k3, .ref hv])), (k1, .inr (cCol, [.int (nI lim), .ref q_3])), (q_3, .inl (cI, ps_len lim n1 i, .inl (upd f1 i x1))), (k2, .inr (cCol, [.int (nI lim), .ref q2])), (q2, .inl (cI, n2, .inl f2)), (k3, .inr (cCol, [.int (nI lim), .ref q3])), (q3, .inl (cI, n3, .inl f3))]) hP hD [0, 5, 6, 1, 2, 3, 4] (by decide) rfl
  refine lv_aload_n hx hb d_Key_write_9 rfl (lv_at hl 0 rfl) ?_
  refine va_get (D := (dC, dI)) (ci := cKey) (v := .ref k2) (C := R_Key) (T := F_Key) (N := 4) hx hb hts i_Key hown hK hP 0 rfl rfl 1 (by decide) (hts _ tw_35) (fun _ h9 => h9) rfl d_Key_write_10 ?_
  refine lv_iload_n hx hb d_Key_write_13 rfl (lv_at hl 1 rfl) ?_
  refine lv_iload_n hx hb d_Key_write_14 rfl (lv_at hl 3 rfl) ?_
  refine ps_afterV (wc := [(k2, .inr (cCol, [.int (nI lim), .ref q2])), (q2, .inl (cI, n2, .inl f2))]) (wr := [0, 1, 2, 5, 6].filterMap (fun z9 => ([(h, .inr (cKey, [.ref k1, .ref k2, .ref k3, .ref hv])), (k1, .inr (cCol, [.int (nI lim), .ref q_3])), (q_3, .inl (cI, ps_len lim n1 i, .inl (upd f1 i x1))), (k2, .inr (cCol, [.int (nI lim), .ref q2])), (q2, .inl (cI, n2, .inl f2)), (k3, .inr (cCol, [.int (nI lim), .ref q3])), (q3, .inl (cI, n3, .inl f3))] : va_W)[z9]?)) hP hD hS hA [3, 4] [0, 1, 2, 5, 6] rfl rfl (by decide) (by decide) (ps_runVV ⟨hx, hb, hml, hown, hts⟩ (c_put l dC dI cI tys ht k2 q2 lim n2 f2 i x2 hz2 hlim hn2 hi) (ps_cwV ps_gd 2 hts tw_34 k_Col_put e_Col_put ⟨Nat.le_of_ble_eq_true rfl, Nat.le_of_ble_eq_true rfl⟩) hK hP hD [3, 4] (by decide) rfl 0 cCol rfl rfl rfl hl.1 rfl (Nat.le_of_ble_eq_true rfl) d_Key_write_15 ⟨by show 0 + ps_dc lim n1 i + ps_dc lim n2 i ≤ ps_dc lim n1 i + ps_dc lim n2 i + ps_dc lim n3 i; omega, by show 0 + ps_ds lim n1 i + ps_ds lim n2 i ≤ ps_ds lim n1 i + ps_ds lim n2 i + ps_ds lim n3 i; omega⟩) (fun u_4 H locs hu_4 hP hD hS => ?_)
  obtain ⟨q_6, hu_4⟩ := hu_4
  subst hu_4
  obtain ⟨hP, hD⟩ := ps_perm (ws' := [(h, .inr (cKey, [.ref k1, .ref k2, .ref k3, .ref hv])), (k1, .inr (cCol, [.int (nI lim), .ref q_3])), (q_3, .inl (cI, ps_len lim n1 i, .inl (upd f1 i x1))), (k2, .inr (cCol, [.int (nI lim), .ref q_6])), (q_6, .inl (cI, ps_len lim n2 i, .inl (upd f2 i x2))), (k3, .inr (cCol, [.int (nI lim), .ref q3])), (q3, .inl (cI, n3, .inl f3))]) hP hD [0, 1, 2, 5, 6, 3, 4] (by decide) rfl
  refine lv_aload_n hx hb d_Key_write_18 rfl (lv_at hl 0 rfl) ?_
  refine va_get (D := (dC, dI)) (ci := cKey) (v := .ref k3) (C := R_Key) (T := F_Key) (N := 4) hx hb hts i_Key hown hK hP 0 rfl rfl 2 (by decide) (hts _ tw_36) (fun _ h9 => h9) rfl d_Key_write_19 ?_
  refine lv_iload_n hx hb d_Key_write_22 rfl (lv_at hl 1 rfl) ?_
  refine lv_iload hx hb d_Key_write_23 (lv_at hl 4 rfl) ?_
  refine ps_afterV (wc := [(k3, .inr (cCol, [.int (nI lim), .ref q3])), (q3, .inl (cI, n3, .inl f3))]) (wr := [0, 1, 2, 3, 4].filterMap (fun z9 => ([(h, .inr (cKey, [.ref k1, .ref k2, .ref k3, .ref hv])), (k1, .inr (cCol, [.int (nI lim), .ref q_3])), (q_3, .inl (cI, ps_len lim n1 i, .inl (upd f1 i x1))), (k2, .inr (cCol, [.int (nI lim), .ref q_6])), (q_6, .inl (cI, ps_len lim n2 i, .inl (upd f2 i x2))), (k3, .inr (cCol, [.int (nI lim), .ref q3])), (q3, .inl (cI, n3, .inl f3))] : va_W)[z9]?)) hP hD hS hA [5, 6] [0, 1, 2, 3, 4] rfl rfl (by decide) (by decide) (ps_runVV ⟨hx, hb, hml, hown, hts⟩ (c_put l dC dI cI tys ht k3 q3 lim n3 f3 i x3 hz3 hlim hn3 hi) (ps_cwV ps_gd 2 hts tw_34 k_Col_put e_Col_put ⟨Nat.le_of_ble_eq_true rfl, Nat.le_of_ble_eq_true rfl⟩) hK hP hD [5, 6] (by decide) rfl 0 cCol rfl rfl rfl hl.1 rfl (Nat.le_of_ble_eq_true rfl) d_Key_write_25 ⟨by show 0 + ps_dc lim n1 i + ps_dc lim n2 i + ps_dc lim n3 i ≤ ps_dc lim n1 i + ps_dc lim n2 i + ps_dc lim n3 i; omega, by show 0 + ps_ds lim n1 i + ps_ds lim n2 i + ps_ds lim n3 i ≤ ps_ds lim n1 i + ps_ds lim n2 i + ps_ds lim n3 i; omega⟩) (fun u_7 H locs hu_7 hP hD hS => ?_)
  obtain ⟨q_9, hu_7⟩ := hu_7
  subst hu_7
  obtain ⟨hP, hD⟩ := ps_perm (ws' := [(h, .inr (cKey, [.ref k1, .ref k2, .ref k3, .ref hv])), (k1, .inr (cCol, [.int (nI lim), .ref q_3])), (q_3, .inl (cI, ps_len lim n1 i, .inl (upd f1 i x1))), (k2, .inr (cCol, [.int (nI lim), .ref q_6])), (q_6, .inl (cI, ps_len lim n2 i, .inl (upd f2 i x2))), (k3, .inr (cCol, [.int (nI lim), .ref q_9])), (q_9, .inl (cI, ps_len lim n3 i, .inl (upd f3 i x3)))]) hP hD [0, 1, 2, 3, 4, 5, 6] (by decide) rfl
  exact ps_vret hx hb hr hlocks hK hP hD hS (by show 0 + ps_dc lim n1 i + ps_dc lim n2 i + ps_dc lim n3 i ≤ ps_dc lim n1 i + ps_dc lim n2 i + ps_dc lim n3 i; omega) (by show 0 + ps_ds lim n1 i + ps_ds lim n2 i + ps_ds lim n3 i ≤ ps_ds lim n1 i + ps_ds lim n2 i + ps_ds lim n3 i; omega) d_Key_write_28 (⟨q_3, q_6, q_9, rfl⟩)
end
section
theorem tw_44 : (.methodLink "PageStore$Keys" 37 ⟨"PageStore$Column", "at", "(I)I"⟩ : Cond) ∈ ps_tbl := ps_t2 73 rfl rfl
theorem tw_45 : (.fieldLink "PageStore$Keys" 29 "PageStore$Keys" "values" "LPageStore$Values;" : Cond) ∈ ps_tbl := ps_t1 91 rfl rfl
theorem tw_46 : (.fieldLink "PageStore$Keys" 49 "PageStore$Values" "kinds" "LPageStore$Column;" : Cond) ∈ ps_tbl := ps_t1 65 rfl rfl
theorem tw_47 : (.methodLink "PageStore$Keys" 45 ⟨"PageStore$Keys", "isThere", "(II)Z"⟩ : Cond) ∈ ps_tbl := ps_t2 92 rfl rfl
theorem tw_48 : (.methodLink "PageStore$Keys" 41 ⟨"PageStore$Keys", "indexOf", "(IIII)I"⟩ : Cond) ∈ ps_tbl := ps_t2 91 rfl rfl
theorem tw_49 : (.instanceMethod ⟨"PageStore$Column", "at", "(I)I"⟩ : Cond) ∈ ps_tbl := ps_t1 225 rfl rfl
theorem tw_50 : (.selects "PageStore$Column" ⟨"PageStore$Column", "at", "(I)I"⟩ ⟨"PageStore$Column", "at", "(I)I"⟩ : Cond) ∈ ps_tbl := ps_t1 226 rfl rfl
theorem tw_51 : (.code ⟨"PageStore$Column", "at", "(I)I"⟩ prog_2_method_2_code 2 (some .int) : Cond) ∈ ps_tbl := ps_t1 227 rfl rfl
theorem tw_52 : (.instanceMethod ⟨"PageStore$Keys", "isThere", "(II)Z"⟩ : Cond) ∈ ps_tbl := ps_t2 94 rfl rfl
theorem tw_53 : (.selects "PageStore$Keys" ⟨"PageStore$Keys", "isThere", "(II)Z"⟩ ⟨"PageStore$Keys", "isThere", "(II)Z"⟩ : Cond) ∈ ps_tbl := ps_ts (y := ⟨"PageStore$Keys", "isThere", "(II)Z"⟩) (n := 4) 11 rfl rfl
theorem tw_54 : (.initialized "PageStore$Keys" : Cond) ∈ ps_tbl := ps_t1 5 rfl rfl
theorem tw_55 : (.code ⟨"PageStore$Keys", "isThere", "(II)Z"⟩ prog_3_method_7_code 3 (some .boolean) : Cond) ∈ ps_tbl := ps_t2 95 rfl rfl
theorem tw_56 : (.instanceMethod ⟨"PageStore$Keys", "indexOf", "(IIII)I"⟩ : Cond) ∈ ps_tbl := ps_t2 70 rfl rfl
theorem tw_57 : (.selects "PageStore$Keys" ⟨"PageStore$Keys", "indexOf", "(IIII)I"⟩ ⟨"PageStore$Keys", "indexOf", "(IIII)I"⟩ : Cond) ∈ ps_tbl := ps_t2 71 rfl rfl
theorem tw_58 : (.code ⟨"PageStore$Keys", "indexOf", "(IIII)I"⟩ prog_3_method_3_code 6 (some .int) : Cond) ∈ ps_tbl := ps_t2 72 rfl rfl
theorem k_Col_at : ps_cdV ps_tbl y_Col_at prog_2_method_2_code 2 (some .int) := ⟨tw_49, tw_50, tw_39, tw_51⟩
theorem k_Key_isThere : ps_cdV ps_tbl y_Key_isThere prog_3_method_7_code 3 (some .boolean) := ⟨tw_52, tw_53, tw_54, tw_55⟩
theorem k_Key_indexOf : ps_cdV ps_tbl y_Key_indexOf prog_3_method_3_code 6 (some .int) := ⟨tw_56, tw_57, tw_54, tw_58⟩
set_option maxHeartbeats 4000000 in
set_option maxRecDepth 100000 in
/-- Keys.isThere -/
theorem c_kis (l : Launch) (dC : Nat → ClassId) (dI : Nat → Nat → Nat) (cI : ClassId) (tys : List (ClassId × FieldType)) (ht : tys[0]? = some (cI, FieldType.int)) (h hv k1 q1 k2 q2 k3 q3 kv qv xv lim n1 n2 n3 nv : Nat) (f1 f2 f3 fv : Nat → Int32) (i : Nat) (d : Int32) (hz1 : ps_Z n1 f1) (hz2 : ps_Z n2 f2) (hz3 : ps_Z n3 f3) (hzv : ps_Z nv fv) (hn1 : n1 < 2 ^ 31) (hn2 : n2 < 2 ^ 31) (hn3 : n3 < 2 ^ 31) (hnv : nv < 2 ^ 31) (hi : i < 2 ^ 31) : ps_mI classes l y_Key_isThere w_Key_isThere ({ frames := 1, cells := 0, slots := 0, locals := 21 }) (dC, dI) tys [.ref h, .int (nI i), .int d] (pq_W cI h hv k1 q1 k2 q2 k3 q3 kv qv xv lim n1 n2 n3 nv f1 f2 f3 fv) (fun r u => u = pq_W cI h hv k1 q1 k2 q2 k3 q3 kv qv xv lim n1 n2 n3 nv f1 f2 f3 fv ∧ r = (if f1 i = d ∧ ¬ fv i = -1 then 1 else 0)) := by
  refine ps_mI_of (by decide) rfl (Nat.le_of_ble_eq_true rfl) ?_
  intro p e s m below meth c A ls C0 hA hK hP hD hS hl
  obtain ⟨hx, hb, hr, hml, hts, hown, hlocks, hin⟩ := C0
  have hl : lv_has ls 3 [(0, .ref h), (1, .int (nI i)), (2, .int d)] := hl
  have hP : va_P (dC, dI) classes [(h, .inr (cKey, [.ref k1, .ref k2, .ref k3, .ref hv])), (k1, .inr (cCol, [.int (nI lim), .ref q1])), (q1, .inl (cI, n1, .inl f1)), (k2, .inr (cCol, [.int (nI lim), .ref q2])), (q2, .inl (cI, n2, .inl f2)), (k3, .inr (cCol, [.int (nI lim), .ref q3])), (q3, .inl (cI, n3, .inl f3)), (hv, .inr (cVal, [.ref kv, .ref xv])), (kv, .inr (cCol, [.int (nI lim), .ref qv])), (qv, .inl (cI, nv, .inl fv))] s.heap := hP
  have hD : va_D A [(h, .inr (cKey, [.ref k1, .ref k2, .ref k3, .ref hv])), (k1, .inr (cCol, [.int (nI lim), .ref q1])), (q1, .inl (cI, n1, .inl f1)), (k2, .inr (cCol, [.int (nI lim), .ref q2])), (q2, .inl (cI, n2, .inl f2)), (k3, .inr (cCol, [.int (nI lim), .ref q3])), (q3, .inl (cI, n3, .inl f3)), (hv, .inr (cVal, [.ref kv, .ref xv])), (kv, .inr (cCol, [.int (nI lim), .ref qv])), (qv, .inl (cI, nv, .inl fv))] := hD
  refine lv_aload_n hx hb d_Key_isThere_0 rfl (lv_at hl 0 rfl) ?_
  refine va_get (D := (dC, dI)) (ci := cKey) (v := .ref k1) (C := R_Key) (T := F_Key) (N := 4) hx hb hts i_Key hown hK hP 0 rfl rfl 0 (by decide) (hts _ tw_33) (fun _ h9 => h9) rfl d_Key_isThere_1 ?_
  refine lv_iload_n hx hb d_Key_isThere_4 rfl (lv_at hl 1 rfl) ?_
  refine ps_readI (wc := [(k1, .inr (cCol, [.int (nI lim), .ref q1])), (q1, .inl (cI, n1, .inl f1))]) hP hD hS hA [1, 2] rfl (fun _ _ h => h.1) (ps_runVI ⟨hx, hb, hml, hown, hts⟩ (c_at l dC dI cI tys ht k1 q1 lim n1 f1 i hz1 hn1 hi) (ps_cwV ps_gd 1 hts tw_44 k_Col_at e_Col_at ⟨Nat.le_of_ble_eq_true rfl, Nat.le_of_ble_eq_true rfl⟩) hK hP hD [1, 2] (by decide) rfl 0 cCol rfl rfl rfl hl.1 rfl (Nat.le_of_ble_eq_true rfl) d_Key_isThere_5 ⟨Nat.zero_le _, Nat.zero_le _⟩) (fun r_1 H locs hr_1 hP hS => ?_)
  obtain ⟨-, hr_1⟩ := hr_1
  subst hr_1
  refine lv_iload_n hx hb d_Key_isThere_8 rfl (lv_at hl 2 rfl) ?_
  refine lv_icmp_ne (tgt := 31) hx hb d_Key_isThere_9 (by decide) (fun c_2 => ?_) (fun c_2 => ?_)
  · refine lv_iconst (v := 0) hx hb d_Key_isThere_31 (by decide) ?_
    exact ps_zret hx hb hr hlocks hK hP hD hS rfl (Nat.le_of_ble_eq_true rfl) (Nat.le_of_ble_eq_true rfl) d_Key_isThere_32 (⟨rfl, (if_neg (fun q => c_2 q.1)).symm⟩)
  · refine lv_aload_n hx hb d_Key_isThere_12 rfl (lv_at hl 0 rfl) ?_
    refine va_get (D := (dC, dI)) (ci := cKey) (v := .ref hv) (C := R_Key) (T := F_Key) (N := 4) hx hb hts i_Key hown hK hP 0 rfl rfl 3 (by decide) (hts _ tw_45) (fun _ h9 => h9) rfl d_Key_isThere_13 ?_
    refine va_get (D := (dC, dI)) (ci := cVal) (v := .ref kv) (C := R_Val) (T := F_Val) (N := 2) hx hb hts i_Val hown hK hP 7 rfl rfl 0 (by decide) (hts _ tw_46) (fun _ h9 => h9) rfl d_Key_isThere_16 ?_
    refine lv_iload_n hx hb d_Key_isThere_19 rfl (lv_at hl 1 rfl) ?_
    refine ps_readI (wc := [(kv, .inr (cCol, [.int (nI lim), .ref qv])), (qv, .inl (cI, nv, .inl fv))]) hP hD hS hA [8, 9] rfl (fun _ _ h => h.1) (ps_runVI ⟨hx, hb, hml, hown, hts⟩ (c_at l dC dI cI tys ht kv qv lim nv fv i hzv hnv hi) (ps_cwV ps_gd 1 hts tw_44 k_Col_at e_Col_at ⟨Nat.le_of_ble_eq_true rfl, Nat.le_of_ble_eq_true rfl⟩) hK hP hD [8, 9] (by decide) rfl 0 cCol rfl rfl rfl hl.1 rfl (Nat.le_of_ble_eq_true rfl) d_Key_isThere_20 ⟨Nat.zero_le _, Nat.zero_le _⟩) (fun r_3 H locs hr_3 hP hS => ?_)
    obtain ⟨-, hr_3⟩ := hr_3
    subst hr_3
    refine lv_iconst (v := (-1)) hx hb d_Key_isThere_23 (by decide) ?_
    refine lv_icmp_eq (tgt := 31) hx hb d_Key_isThere_24 (by decide) (fun c_4 => ?_) (fun c_4 => ?_)
    · refine lv_iconst (v := 0) hx hb d_Key_isThere_31 (by decide) ?_
      exact ps_zret hx hb hr hlocks hK hP hD hS rfl (Nat.le_of_ble_eq_true rfl) (Nat.le_of_ble_eq_true rfl) d_Key_isThere_32 (⟨rfl, (if_neg (fun q => q.2 c_4)).symm⟩)
    · refine lv_iconst (v := 1) hx hb d_Key_isThere_27 (by decide) ?_
      refine lv_goto (tgt := 32) hx hb d_Key_isThere_28 (by decide) ?_
      exact ps_zret hx hb hr hlocks hK hP hD hS rfl (Nat.le_of_ble_eq_true rfl) (Nat.le_of_ble_eq_true rfl) d_Key_isThere_32 (⟨rfl, (if_pos ⟨c_2, c_4⟩).symm⟩)

set_option maxHeartbeats 4000000 in
set_option maxRecDepth 100000 in
/-- Keys.indexOf -/
theorem c_kof (l : Launch) (dC : Nat → ClassId) (dI : Nat → Nat → Nat) (cI : ClassId) (tys : List (ClassId × FieldType)) (ht : tys[0]? = some (cI, FieldType.int)) (h hv k1 q1 k2 q2 k3 q3 kv qv xv lim n1 n2 n3 nv : Nat) (f1 f2 f3 fv : Nat → Int32) (d k x : Int32) (E : Nat) (hz1 : ps_Z n1 f1) (hz2 : ps_Z n2 f2) (hz3 : ps_Z n3 f3) (hzv : ps_Z nv fv) (hn1 : n1 < 2 ^ 31) (hn2 : n2 < 2 ^ 31) (hn3 : n3 < 2 ^ 31) (hnv : nv < 2 ^ 31) (hE : E < 2 ^ 31) : ps_mI classes l y_Key_indexOf w_Key_indexOf ({ frames := 1, cells := 0, slots := 0, locals := 21 }) (dC, dI) tys [.ref h, .int d, .int k, .int x, .int (nI E)] (pq_W cI h hv k1 q1 k2 q2 k3 q3 kv qv xv lim n1 n2 n3 nv f1 f2 f3 fv) (fun r u => u = pq_W cI h hv k1 q1 k2 q2 k3 q3 kv qv xv lim n1 n2 n3 nv f1 f2 f3 fv ∧ ps_fst (fun j => f3 j = x ∧ f2 j = k ∧ f1 j = d) 0 E r) := by
  refine ps_mI_of (by decide) rfl (Nat.le_of_ble_eq_true rfl) ?_
  intro p e s m below meth c A ls C0 hA hK hP hD hS hl
  obtain ⟨hx, hb, hr, hml, hts, hown, hlocks, hin⟩ := C0
  have hl : lv_has ls 6 [(0, .ref h), (1, .int d), (2, .int k), (3, .int x), (4, .int (nI E))] := hl
  have hP : va_P (dC, dI) classes [(h, .inr (cKey, [.ref k1, .ref k2, .ref k3, .ref hv])), (k1, .inr (cCol, [.int (nI lim), .ref q1])), (q1, .inl (cI, n1, .inl f1)), (k2, .inr (cCol, [.int (nI lim), .ref q2])), (q2, .inl (cI, n2, .inl f2)), (k3, .inr (cCol, [.int (nI lim), .ref q3])), (q3, .inl (cI, n3, .inl f3)), (hv, .inr (cVal, [.ref kv, .ref xv])), (kv, .inr (cCol, [.int (nI lim), .ref qv])), (qv, .inl (cI, nv, .inl fv))] s.heap := hP
  have hD : va_D A [(h, .inr (cKey, [.ref k1, .ref k2, .ref k3, .ref hv])), (k1, .inr (cCol, [.int (nI lim), .ref q1])), (q1, .inl (cI, n1, .inl f1)), (k2, .inr (cCol, [.int (nI lim), .ref q2])), (q2, .inl (cI, n2, .inl f2)), (k3, .inr (cCol, [.int (nI lim), .ref q3])), (q3, .inl (cI, n3, .inl f3)), (hv, .inr (cVal, [.ref kv, .ref xv])), (kv, .inr (cCol, [.int (nI lim), .ref qv])), (qv, .inl (cI, nv, .inl fv))] := hD
  refine lv_iconst (v := nI 0) hx hb d_Key_indexOf_0 (by decide) ?_
  refine lv_istore (lv' := [(5, .int (nI 0)), (0, .ref h), (1, .int d), (2, .int k), (3, .int x), (4, .int (nI E))]) hx hb d_Key_indexOf_1 hl (by decide) rfl (fun ls hl => ?_)
  refine ps_loop (α := Nat) (fun i => 0) (fun i => 0) (fun i => E - i) (fun i H locs ls => lv_has ls 6 [(5, .int (nI i)), (0, .ref h), (1, .int d), (2, .int k), (3, .int x), (4, .int (nI E))] ∧ va_P (dC, dI) classes [(h, .inr (cKey, [.ref k1, .ref k2, .ref k3, .ref hv])), (k1, .inr (cCol, [.int (nI lim), .ref q1])), (q1, .inl (cI, n1, .inl f1)), (k2, .inr (cCol, [.int (nI lim), .ref q2])), (q2, .inl (cI, n2, .inl f2)), (k3, .inr (cCol, [.int (nI lim), .ref q3])), (q3, .inl (cI, n3, .inl f3)), (hv, .inr (cVal, [.ref kv, .ref xv])), (kv, .inr (cCol, [.int (nI lim), .ref qv])), (qv, .inl (cI, nv, .inl fv))] H ∧ va_D A [(h, .inr (cKey, [.ref k1, .ref k2, .ref k3, .ref hv])), (k1, .inr (cCol, [.int (nI lim), .ref q1])), (q1, .inl (cI, n1, .inl f1)), (k2, .inr (cCol, [.int (nI lim), .ref q2])), (q2, .inl (cI, n2, .inl f2)), (k3, .inr (cCol, [.int (nI lim), .ref q3])), (q3, .inl (cI, n3, .inl f3)), (hv, .inr (cVal, [.ref kv, .ref xv])), (kv, .inr (cCol, [.int (nI lim), .ref qv])), (qv, .inl (cI, nv, .inl fv))] ∧ va_S A s.heap H locs ∧ i ≤ E ∧ ps_not (fun j => f3 j = x ∧ f2 j = k ∧ f1 j = d) 0 i) ?_ 0 _ _ ls ⟨lv_sub hl [0, 1, 2, 3, 4, 5] rfl, hP, hD, hS, Nat.zero_le _, ps_not0⟩
  intro i H locs ls hI ih
  obtain ⟨hl, hP, hD, hS, hiE, hno⟩ := hI
  refine lv_iload hx hb d_Key_indexOf_3 (lv_at hl 0 rfl) ?_
  refine lv_iload hx hb d_Key_indexOf_5 (lv_at hl 5 rfl) ?_
  refine lv_icmp_ge (tgt := 58) hx hb d_Key_indexOf_7 (by decide) (fun c_1 => ?_) (fun c_1 => ?_)
  · have c_1 : E ≤ i := (nI_leI (by omega) (by omega)).mp c_1
    refine lv_iconst (v := (-1)) hx hb d_Key_indexOf_58 (by decide) ?_
    exact ps_iret hx hb hr hlocks hK hP hD hS (Nat.le_of_ble_eq_true rfl) (Nat.le_of_ble_eq_true rfl) d_Key_indexOf_59 (⟨rfl, ps_fst_n (by omega) hno⟩)
  · have c_1 : ¬ E ≤ i := fun q => c_1 ((nI_leI (by omega) (by omega)).mpr q)
    refine lv_aload_n hx hb d_Key_indexOf_10 rfl (lv_at hl 1 rfl) ?_
    refine va_get (D := (dC, dI)) (ci := cKey) (v := .ref k3) (C := R_Key) (T := F_Key) (N := 4) hx hb hts i_Key hown hK hP 0 rfl rfl 2 (by decide) (hts _ tw_36) (fun _ h9 => h9) rfl d_Key_indexOf_11 ?_
    refine lv_iload hx hb d_Key_indexOf_14 (lv_at hl 0 rfl) ?_
    refine ps_readI (wc := [(k3, .inr (cCol, [.int (nI lim), .ref q3])), (q3, .inl (cI, n3, .inl f3))]) hP hD hS hA [5, 6] rfl (fun _ _ h => h.1) (ps_runVI ⟨hx, hb, hml, hown, hts⟩ (c_at l dC dI cI tys ht k3 q3 lim n3 f3 i hz3 hn3 (by omega)) (ps_cwV ps_gd 1 hts tw_44 k_Col_at e_Col_at ⟨Nat.le_of_ble_eq_true rfl, Nat.le_of_ble_eq_true rfl⟩) hK hP hD [5, 6] (by decide) rfl 0 cCol rfl rfl rfl hl.1 rfl (Nat.le_of_ble_eq_true rfl) d_Key_indexOf_16 ⟨Nat.zero_le _, Nat.zero_le _⟩) (fun r_2 H locs hr_2 hP hS => ?_)
    obtain ⟨-, hr_2⟩ := hr_2
    subst hr_2
    refine lv_iload_n hx hb d_Key_indexOf_19 rfl (lv_at hl 4 rfl) ?_
    refine lv_icmp_ne (tgt := 52) hx hb d_Key_indexOf_20 (by decide) (fun c_3 => ?_) (fun c_3 => ?_)
    · refine lv_iinc (v := nI (i + 1)) (lv' := [(5, .int (nI (i + 1))), (0, .ref h), (1, .int d), (2, .int k), (3, .int x), (4, .int (nI E))]) hx hb d_Key_indexOf_52 hl (k := 0) rfl (nI_1 i) (by decide) rfl (fun ls hl => ?_)
      refine lv_goto (tgt := 3) hx hb d_Key_indexOf_55 (by decide) ?_
      exact ih (i + 1) _ _ ls (by omega) ⟨lv_sub hl [0, 1, 2, 3, 4, 5] rfl, hP, hD, hS, by omega, ps_nots hno (fun q => c_3 q.1)⟩
    · refine lv_aload_n hx hb d_Key_indexOf_23 rfl (lv_at hl 1 rfl) ?_
      refine va_get (D := (dC, dI)) (ci := cKey) (v := .ref k2) (C := R_Key) (T := F_Key) (N := 4) hx hb hts i_Key hown hK hP 0 rfl rfl 1 (by decide) (hts _ tw_35) (fun _ h9 => h9) rfl d_Key_indexOf_24 ?_
      refine lv_iload hx hb d_Key_indexOf_27 (lv_at hl 0 rfl) ?_
      refine ps_readI (wc := [(k2, .inr (cCol, [.int (nI lim), .ref q2])), (q2, .inl (cI, n2, .inl f2))]) hP hD hS hA [3, 4] rfl (fun _ _ h => h.1) (ps_runVI ⟨hx, hb, hml, hown, hts⟩ (c_at l dC dI cI tys ht k2 q2 lim n2 f2 i hz2 hn2 (by omega)) (ps_cwV ps_gd 1 hts tw_44 k_Col_at e_Col_at ⟨Nat.le_of_ble_eq_true rfl, Nat.le_of_ble_eq_true rfl⟩) hK hP hD [3, 4] (by decide) rfl 0 cCol rfl rfl rfl hl.1 rfl (Nat.le_of_ble_eq_true rfl) d_Key_indexOf_29 ⟨Nat.zero_le _, Nat.zero_le _⟩) (fun r_4 H locs hr_4 hP hS => ?_)
      obtain ⟨-, hr_4⟩ := hr_4
      subst hr_4
      refine lv_iload_n hx hb d_Key_indexOf_32 rfl (lv_at hl 3 rfl) ?_
      refine lv_icmp_ne (tgt := 52) hx hb d_Key_indexOf_33 (by decide) (fun c_5 => ?_) (fun c_5 => ?_)
      · refine lv_iinc (v := nI (i + 1)) (lv' := [(5, .int (nI (i + 1))), (0, .ref h), (1, .int d), (2, .int k), (3, .int x), (4, .int (nI E))]) hx hb d_Key_indexOf_52 hl (k := 0) rfl (nI_1 i) (by decide) rfl (fun ls hl => ?_)
        refine lv_goto (tgt := 3) hx hb d_Key_indexOf_55 (by decide) ?_
        exact ih (i + 1) _ _ ls (by omega) ⟨lv_sub hl [0, 1, 2, 3, 4, 5] rfl, hP, hD, hS, by omega, ps_nots hno (fun q => c_5 q.2.1)⟩
      · refine lv_aload_n hx hb d_Key_indexOf_36 rfl (lv_at hl 1 rfl) ?_
        refine va_get (D := (dC, dI)) (ci := cKey) (v := .ref k1) (C := R_Key) (T := F_Key) (N := 4) hx hb hts i_Key hown hK hP 0 rfl rfl 0 (by decide) (hts _ tw_33) (fun _ h9 => h9) rfl d_Key_indexOf_37 ?_
        refine lv_iload hx hb d_Key_indexOf_40 (lv_at hl 0 rfl) ?_
        refine ps_readI (wc := [(k1, .inr (cCol, [.int (nI lim), .ref q1])), (q1, .inl (cI, n1, .inl f1))]) hP hD hS hA [1, 2] rfl (fun _ _ h => h.1) (ps_runVI ⟨hx, hb, hml, hown, hts⟩ (c_at l dC dI cI tys ht k1 q1 lim n1 f1 i hz1 hn1 (by omega)) (ps_cwV ps_gd 1 hts tw_44 k_Col_at e_Col_at ⟨Nat.le_of_ble_eq_true rfl, Nat.le_of_ble_eq_true rfl⟩) hK hP hD [1, 2] (by decide) rfl 0 cCol rfl rfl rfl hl.1 rfl (Nat.le_of_ble_eq_true rfl) d_Key_indexOf_42 ⟨Nat.zero_le _, Nat.zero_le _⟩) (fun r_6 H locs hr_6 hP hS => ?_)
        obtain ⟨-, hr_6⟩ := hr_6
        subst hr_6
        refine lv_iload_n hx hb d_Key_indexOf_45 rfl (lv_at hl 2 rfl) ?_
        refine lv_icmp_ne (tgt := 52) hx hb d_Key_indexOf_46 (by decide) (fun c_7 => ?_) (fun c_7 => ?_)
        · refine lv_iinc (v := nI (i + 1)) (lv' := [(5, .int (nI (i + 1))), (0, .ref h), (1, .int d), (2, .int k), (3, .int x), (4, .int (nI E))]) hx hb d_Key_indexOf_52 hl (k := 0) rfl (nI_1 i) (by decide) rfl (fun ls hl => ?_)
          refine lv_goto (tgt := 3) hx hb d_Key_indexOf_55 (by decide) ?_
          exact ih (i + 1) _ _ ls (by omega) ⟨lv_sub hl [0, 1, 2, 3, 4, 5] rfl, hP, hD, hS, by omega, ps_nots hno (fun q => c_7 q.2.2)⟩
        · refine lv_iload hx hb d_Key_indexOf_49 (lv_at hl 0 rfl) ?_
          exact ps_iret hx hb hr hlocks hK hP hD hS (Nat.le_of_ble_eq_true rfl) (Nat.le_of_ble_eq_true rfl) d_Key_indexOf_51 (⟨rfl, ps_fst_y (Nat.zero_le _) (by omega) ⟨c_3, c_5, c_7⟩ hno⟩)

set_option maxHeartbeats 4000000 in
set_option maxRecDepth 100000 in
/-- Keys.firstThere -/
theorem c_kfirst (l : Launch) (dC : Nat → ClassId) (dI : Nat → Nat → Nat) (cI : ClassId) (tys : List (ClassId × FieldType)) (ht : tys[0]? = some (cI, FieldType.int)) (h hv k1 q1 k2 q2 k3 q3 kv qv xv lim n1 n2 n3 nv : Nat) (f1 f2 f3 fv : Nat → Int32) (d : Int32) (a E : Nat) (hz1 : ps_Z n1 f1) (hz2 : ps_Z n2 f2) (hz3 : ps_Z n3 f3) (hzv : ps_Z nv fv) (hn1 : n1 < 2 ^ 31) (hn2 : n2 < 2 ^ 31) (hn3 : n3 < 2 ^ 31) (hnv : nv < 2 ^ 31) (hE : E < 2 ^ 31) (ha : a < 2 ^ 31) : ps_mI classes l y_Key_firstThere w_Key_firstThere ({ frames := 2, cells := 0, slots := 0, locals := 43 }) (dC, dI) tys [.ref h, .int d, .int (nI a), .int (nI E)] (pq_W cI h hv k1 q1 k2 q2 k3 q3 kv qv xv lim n1 n2 n3 nv f1 f2 f3 fv) (fun r u => u = pq_W cI h hv k1 q1 k2 q2 k3 q3 kv qv xv lim n1 n2 n3 nv f1 f2 f3 fv ∧ ps_fst (fun j => f1 j = d ∧ ¬ fv j = -1) a E r) := by
  refine ps_mI_of (by decide) rfl (Nat.le_of_ble_eq_true rfl) ?_
  intro p e s m below meth c A ls C0 hA hK hP hD hS hl
  obtain ⟨hx, hb, hr, hml, hts, hown, hlocks, hin⟩ := C0
  have hl : lv_has ls 5 [(0, .ref h), (1, .int d), (2, .int (nI a)), (3, .int (nI E))] := hl
  have hP : va_P (dC, dI) classes [(h, .inr (cKey, [.ref k1, .ref k2, .ref k3, .ref hv])), (k1, .inr (cCol, [.int (nI lim), .ref q1])), (q1, .inl (cI, n1, .inl f1)), (k2, .inr (cCol, [.int (nI lim), .ref q2])), (q2, .inl (cI, n2, .inl f2)), (k3, .inr (cCol, [.int (nI lim), .ref q3])), (q3, .inl (cI, n3, .inl f3)), (hv, .inr (cVal, [.ref kv, .ref xv])), (kv, .inr (cCol, [.int (nI lim), .ref qv])), (qv, .inl (cI, nv, .inl fv))] s.heap := hP
  have hD : va_D A [(h, .inr (cKey, [.ref k1, .ref k2, .ref k3, .ref hv])), (k1, .inr (cCol, [.int (nI lim), .ref q1])), (q1, .inl (cI, n1, .inl f1)), (k2, .inr (cCol, [.int (nI lim), .ref q2])), (q2, .inl (cI, n2, .inl f2)), (k3, .inr (cCol, [.int (nI lim), .ref q3])), (q3, .inl (cI, n3, .inl f3)), (hv, .inr (cVal, [.ref kv, .ref xv])), (kv, .inr (cCol, [.int (nI lim), .ref qv])), (qv, .inl (cI, nv, .inl fv))] := hD
  refine lv_iload_n hx hb d_Key_firstThere_0 rfl (lv_at hl 2 rfl) ?_
  refine lv_istore (lv' := [(4, .int (nI a)), (0, .ref h), (1, .int d), (2, .int (nI a)), (3, .int (nI E))]) hx hb d_Key_firstThere_1 hl (by decide) rfl (fun ls hl => ?_)
  refine ps_loop (α := Nat) (fun i => 0) (fun i => 0) (fun i => E - i) (fun i H locs ls => lv_has ls 5 [(4, .int (nI i)), (0, .ref h), (1, .int d), (2, .int (nI a)), (3, .int (nI E))] ∧ va_P (dC, dI) classes [(h, .inr (cKey, [.ref k1, .ref k2, .ref k3, .ref hv])), (k1, .inr (cCol, [.int (nI lim), .ref q1])), (q1, .inl (cI, n1, .inl f1)), (k2, .inr (cCol, [.int (nI lim), .ref q2])), (q2, .inl (cI, n2, .inl f2)), (k3, .inr (cCol, [.int (nI lim), .ref q3])), (q3, .inl (cI, n3, .inl f3)), (hv, .inr (cVal, [.ref kv, .ref xv])), (kv, .inr (cCol, [.int (nI lim), .ref qv])), (qv, .inl (cI, nv, .inl fv))] H ∧ va_D A [(h, .inr (cKey, [.ref k1, .ref k2, .ref k3, .ref hv])), (k1, .inr (cCol, [.int (nI lim), .ref q1])), (q1, .inl (cI, n1, .inl f1)), (k2, .inr (cCol, [.int (nI lim), .ref q2])), (q2, .inl (cI, n2, .inl f2)), (k3, .inr (cCol, [.int (nI lim), .ref q3])), (q3, .inl (cI, n3, .inl f3)), (hv, .inr (cVal, [.ref kv, .ref xv])), (kv, .inr (cCol, [.int (nI lim), .ref qv])), (qv, .inl (cI, nv, .inl fv))] ∧ va_S A s.heap H locs ∧ a ≤ i ∧ i < 2 ^ 31 ∧ ps_not (fun j => f1 j = d ∧ ¬ fv j = -1) a i) ?_ a _ _ ls ⟨lv_sub hl [0, 1, 2, 3, 4] rfl, hP, hD, hS, Nat.le_refl _, ha, ps_not0⟩
  intro i H locs ls hI ih
  obtain ⟨hl, hP, hD, hS, hai, hi31, hno⟩ := hI
  refine lv_iload hx hb d_Key_firstThere_3 (lv_at hl 0 rfl) ?_
  refine lv_iload_n hx hb d_Key_firstThere_5 rfl (lv_at hl 4 rfl) ?_
  refine lv_icmp_ge (tgt := 28) hx hb d_Key_firstThere_6 (by decide) (fun c_1 => ?_) (fun c_1 => ?_)
  · have c_1 : E ≤ i := (nI_leI (by omega) (by omega)).mp c_1
    refine lv_iconst (v := (-1)) hx hb d_Key_firstThere_28 (by decide) ?_
    exact ps_iret hx hb hr hlocks hK hP hD hS (Nat.le_of_ble_eq_true rfl) (Nat.le_of_ble_eq_true rfl) d_Key_firstThere_29 (⟨rfl, ps_fst_n (by omega) hno⟩)
  · have c_1 : ¬ E ≤ i := fun q => c_1 ((nI_leI (by omega) (by omega)).mpr q)
    refine lv_aload_n hx hb d_Key_firstThere_9 rfl (lv_at hl 1 rfl) ?_
    refine lv_iload hx hb d_Key_firstThere_10 (lv_at hl 0 rfl) ?_
    refine lv_iload_n hx hb d_Key_firstThere_12 rfl (lv_at hl 2 rfl) ?_
    refine ps_readI (wc := [(h, .inr (cKey, [.ref k1, .ref k2, .ref k3, .ref hv])), (k1, .inr (cCol, [.int (nI lim), .ref q1])), (q1, .inl (cI, n1, .inl f1)), (k2, .inr (cCol, [.int (nI lim), .ref q2])), (q2, .inl (cI, n2, .inl f2)), (k3, .inr (cCol, [.int (nI lim), .ref q3])), (q3, .inl (cI, n3, .inl f3)), (hv, .inr (cVal, [.ref kv, .ref xv])), (kv, .inr (cCol, [.int (nI lim), .ref qv])), (qv, .inl (cI, nv, .inl fv))]) hP hD hS hA [0, 1, 2, 3, 4, 5, 6, 7, 8, 9] rfl (fun _ _ h => h.1) (ps_runVI ⟨hx, hb, hml, hown, hts⟩ (c_kis l dC dI cI tys ht h hv k1 q1 k2 q2 k3 q3 kv qv xv lim n1 n2 n3 nv f1 f2 f3 fv i d hz1 hz2 hz3 hzv hn1 hn2 hn3 hnv (by omega)) (ps_cwV ps_gd 2 hts tw_47 k_Key_isThere e_Key_isThere ⟨Nat.le_of_ble_eq_true rfl, Nat.le_of_ble_eq_true rfl⟩) hK hP hD [0, 1, 2, 3, 4, 5, 6, 7, 8, 9] (by decide) rfl 0 cKey rfl rfl rfl hl.1 rfl (Nat.le_of_ble_eq_true rfl) d_Key_firstThere_13 ⟨Nat.zero_le _, Nat.zero_le _⟩) (fun r_2 H locs hr_2 hP hS => ?_)
    obtain ⟨-, hr_2⟩ := hr_2
    subst hr_2
    refine lv_if_eq (tgt := 22) hx hb d_Key_firstThere_16 (by decide) (fun c_3 => ?_) (fun c_3 => ?_)
    · have c_3 := ps_ite0 c_3
      refine lv_iinc (v := nI (i + 1)) (lv' := [(4, .int (nI (i + 1))), (0, .ref h), (1, .int d), (2, .int (nI a)), (3, .int (nI E))]) hx hb d_Key_firstThere_22 hl (k := 0) rfl (nI_1 i) (by decide) rfl (fun ls hl => ?_)
      refine lv_goto (tgt := 3) hx hb d_Key_firstThere_25 (by decide) ?_
      exact ih (i + 1) _ _ ls (by omega) ⟨lv_sub hl [0, 1, 2, 3, 4] rfl, hP, hD, hS, by omega, by omega, ps_nots hno c_3⟩
    · have c_3 := ps_ite1 c_3
      refine lv_iload hx hb d_Key_firstThere_19 (lv_at hl 0 rfl) ?_
      exact ps_iret hx hb hr hlocks hK hP hD hS (Nat.le_of_ble_eq_true rfl) (Nat.le_of_ble_eq_true rfl) d_Key_firstThere_21 (⟨rfl, ps_fst_y hai (by omega) c_3 hno⟩)

set_option maxHeartbeats 4000000 in
set_option maxRecDepth 100000 in
/-- Keys.howManyThere -/
theorem c_khow (l : Launch) (dC : Nat → ClassId) (dI : Nat → Nat → Nat) (cI : ClassId) (tys : List (ClassId × FieldType)) (ht : tys[0]? = some (cI, FieldType.int)) (h hv k1 q1 k2 q2 k3 q3 kv qv xv lim n1 n2 n3 nv : Nat) (f1 f2 f3 fv : Nat → Int32) (d : Int32) (E : Nat) (hz1 : ps_Z n1 f1) (hz2 : ps_Z n2 f2) (hz3 : ps_Z n3 f3) (hzv : ps_Z nv fv) (hn1 : n1 < 2 ^ 31) (hn2 : n2 < 2 ^ 31) (hn3 : n3 < 2 ^ 31) (hnv : nv < 2 ^ 31) (hE : E < 2 ^ 31) : ps_mI classes l y_Key_howManyThere w_Key_howManyThere ({ frames := 2, cells := 0, slots := 0, locals := 43 }) (dC, dI) tys [.ref h, .int d, .int (nI E)] (pq_W cI h hv k1 q1 k2 q2 k3 q3 kv qv xv lim n1 n2 n3 nv f1 f2 f3 fv) (fun r u => u = pq_W cI h hv k1 q1 k2 q2 k3 q3 kv qv xv lim n1 n2 n3 nv f1 f2 f3 fv ∧ r = nI (ps_cnt (fun j => decide (f1 j = d ∧ ¬ fv j = -1)) E)) := by
  refine ps_mI_of (by decide) rfl (Nat.le_of_ble_eq_true rfl) ?_
  intro p e s m below meth c A ls C0 hA hK hP hD hS hl
  obtain ⟨hx, hb, hr, hml, hts, hown, hlocks, hin⟩ := C0
  have hl : lv_has ls 5 [(0, .ref h), (1, .int d), (2, .int (nI E))] := hl
  have hP : va_P (dC, dI) classes [(h, .inr (cKey, [.ref k1, .ref k2, .ref k3, .ref hv])), (k1, .inr (cCol, [.int (nI lim), .ref q1])), (q1, .inl (cI, n1, .inl f1)), (k2, .inr (cCol, [.int (nI lim), .ref q2])), (q2, .inl (cI, n2, .inl f2)), (k3, .inr (cCol, [.int (nI lim), .ref q3])), (q3, .inl (cI, n3, .inl f3)), (hv, .inr (cVal, [.ref kv, .ref xv])), (kv, .inr (cCol, [.int (nI lim), .ref qv])), (qv, .inl (cI, nv, .inl fv))] s.heap := hP
  have hD : va_D A [(h, .inr (cKey, [.ref k1, .ref k2, .ref k3, .ref hv])), (k1, .inr (cCol, [.int (nI lim), .ref q1])), (q1, .inl (cI, n1, .inl f1)), (k2, .inr (cCol, [.int (nI lim), .ref q2])), (q2, .inl (cI, n2, .inl f2)), (k3, .inr (cCol, [.int (nI lim), .ref q3])), (q3, .inl (cI, n3, .inl f3)), (hv, .inr (cVal, [.ref kv, .ref xv])), (kv, .inr (cCol, [.int (nI lim), .ref qv])), (qv, .inl (cI, nv, .inl fv))] := hD
  refine lv_iconst (v := nI 0) hx hb d_Key_howManyThere_0 (by decide) ?_
  refine lv_istore_n (lv' := [(3, .int (nI 0)), (0, .ref h), (1, .int d), (2, .int (nI E))]) hx hb d_Key_howManyThere_1 rfl hl (by decide) rfl (fun ls hl => ?_)
  refine lv_iconst (v := nI 0) hx hb d_Key_howManyThere_2 (by decide) ?_
  refine lv_istore (lv' := [(4, .int (nI 0)), (3, .int (nI 0)), (0, .ref h), (1, .int d), (2, .int (nI E))]) hx hb d_Key_howManyThere_3 hl (by decide) rfl (fun ls hl => ?_)
  refine ps_loop (α := Nat) (fun i => 0) (fun i => 0) (fun i => E - i) (fun i H locs ls => lv_has ls 5 [(4, .int (nI i)), (3, .int (nI (ps_cnt (fun j => decide (f1 j = d ∧ ¬ fv j = -1)) i))), (0, .ref h), (1, .int d), (2, .int (nI E))] ∧ va_P (dC, dI) classes [(h, .inr (cKey, [.ref k1, .ref k2, .ref k3, .ref hv])), (k1, .inr (cCol, [.int (nI lim), .ref q1])), (q1, .inl (cI, n1, .inl f1)), (k2, .inr (cCol, [.int (nI lim), .ref q2])), (q2, .inl (cI, n2, .inl f2)), (k3, .inr (cCol, [.int (nI lim), .ref q3])), (q3, .inl (cI, n3, .inl f3)), (hv, .inr (cVal, [.ref kv, .ref xv])), (kv, .inr (cCol, [.int (nI lim), .ref qv])), (qv, .inl (cI, nv, .inl fv))] H ∧ va_D A [(h, .inr (cKey, [.ref k1, .ref k2, .ref k3, .ref hv])), (k1, .inr (cCol, [.int (nI lim), .ref q1])), (q1, .inl (cI, n1, .inl f1)), (k2, .inr (cCol, [.int (nI lim), .ref q2])), (q2, .inl (cI, n2, .inl f2)), (k3, .inr (cCol, [.int (nI lim), .ref q3])), (q3, .inl (cI, n3, .inl f3)), (hv, .inr (cVal, [.ref kv, .ref xv])), (kv, .inr (cCol, [.int (nI lim), .ref qv])), (qv, .inl (cI, nv, .inl fv))] ∧ va_S A s.heap H locs ∧ i ≤ E) ?_ 0 _ _ ls ⟨lv_sub hl [0, 1, 2, 3, 4] rfl, hP, hD, hS, Nat.zero_le _⟩
  intro i H locs ls hI ih
  obtain ⟨hl, hP, hD, hS, hiE⟩ := hI
  refine lv_iload hx hb d_Key_howManyThere_5 (lv_at hl 0 rfl) ?_
  refine lv_iload_n hx hb d_Key_howManyThere_7 rfl (lv_at hl 4 rfl) ?_
  refine lv_icmp_ge (tgt := 30) hx hb d_Key_howManyThere_8 (by decide) (fun c_1 => ?_) (fun c_1 => ?_)
  · have c_1 : E ≤ i := (nI_leI (by omega) (by omega)).mp c_1
    refine lv_iload_n hx hb d_Key_howManyThere_30 rfl (lv_at hl 1 rfl) ?_
    have hi : i = E := by omega
    subst hi
    exact ps_iret hx hb hr hlocks hK hP hD hS (Nat.le_of_ble_eq_true rfl) (Nat.le_of_ble_eq_true rfl) d_Key_howManyThere_31 (⟨rfl, rfl⟩)
  · have c_1 : ¬ E ≤ i := fun q => c_1 ((nI_leI (by omega) (by omega)).mpr q)
    refine lv_aload_n hx hb d_Key_howManyThere_11 rfl (lv_at hl 2 rfl) ?_
    refine lv_iload hx hb d_Key_howManyThere_12 (lv_at hl 0 rfl) ?_
    refine lv_iload_n hx hb d_Key_howManyThere_14 rfl (lv_at hl 3 rfl) ?_
    refine ps_readI (wc := [(h, .inr (cKey, [.ref k1, .ref k2, .ref k3, .ref hv])), (k1, .inr (cCol, [.int (nI lim), .ref q1])), (q1, .inl (cI, n1, .inl f1)), (k2, .inr (cCol, [.int (nI lim), .ref q2])), (q2, .inl (cI, n2, .inl f2)), (k3, .inr (cCol, [.int (nI lim), .ref q3])), (q3, .inl (cI, n3, .inl f3)), (hv, .inr (cVal, [.ref kv, .ref xv])), (kv, .inr (cCol, [.int (nI lim), .ref qv])), (qv, .inl (cI, nv, .inl fv))]) hP hD hS hA [0, 1, 2, 3, 4, 5, 6, 7, 8, 9] rfl (fun _ _ h => h.1) (ps_runVI ⟨hx, hb, hml, hown, hts⟩ (c_kis l dC dI cI tys ht h hv k1 q1 k2 q2 k3 q3 kv qv xv lim n1 n2 n3 nv f1 f2 f3 fv i d hz1 hz2 hz3 hzv hn1 hn2 hn3 hnv (by omega)) (ps_cwV ps_gd 2 hts tw_47 k_Key_isThere e_Key_isThere ⟨Nat.le_of_ble_eq_true rfl, Nat.le_of_ble_eq_true rfl⟩) hK hP hD [0, 1, 2, 3, 4, 5, 6, 7, 8, 9] (by decide) rfl 0 cKey rfl rfl rfl hl.1 rfl (Nat.le_of_ble_eq_true rfl) d_Key_howManyThere_15 ⟨Nat.zero_le _, Nat.zero_le _⟩) (fun r_2 H locs hr_2 hP hS => ?_)
    obtain ⟨-, hr_2⟩ := hr_2
    subst hr_2
    refine lv_if_eq (tgt := 24) hx hb d_Key_howManyThere_18 (by decide) (fun c_3 => ?_) (fun c_3 => ?_)
    · have c_3 := ps_ite0 c_3
      rw [show ps_cnt (fun j => decide (f1 j = d ∧ ¬ fv j = -1)) i = ps_cnt (fun j => decide (f1 j = d ∧ ¬ fv j = -1)) (i + 1) from (ps_cnt_n (decide_eq_false c_3)).symm] at hl
      refine lv_iinc (v := nI (i + 1)) (lv' := [(4, .int (nI (i + 1))), (3, .int (nI (ps_cnt (fun j => decide (f1 j = d ∧ ¬ fv j = -1)) (i + 1)))), (0, .ref h), (1, .int d), (2, .int (nI E))]) hx hb d_Key_howManyThere_24 hl (k := 0) rfl (nI_1 i) (by decide) rfl (fun ls hl => ?_)
      refine lv_goto (tgt := 5) hx hb d_Key_howManyThere_27 (by decide) ?_
      exact ih (i + 1) _ _ ls (by omega) ⟨lv_sub hl [0, 1, 2, 3, 4] rfl, hP, hD, hS, by omega⟩
    · have c_3 := ps_ite1 c_3
      refine lv_iinc (v := nI (ps_cnt (fun j => decide (f1 j = d ∧ ¬ fv j = -1)) (i + 1))) (lv' := [(3, .int (nI (ps_cnt (fun j => decide (f1 j = d ∧ ¬ fv j = -1)) (i + 1)))), (4, .int (nI i)), (0, .ref h), (1, .int d), (2, .int (nI E))]) hx hb d_Key_howManyThere_21 hl (k := 1) rfl (by rw [ps_cnt_y (decide_eq_true c_3)]; exact nI_1 _) (by decide) rfl (fun ls hl => ?_)
      refine lv_iinc (v := nI (i + 1)) (lv' := [(4, .int (nI (i + 1))), (3, .int (nI (ps_cnt (fun j => decide (f1 j = d ∧ ¬ fv j = -1)) (i + 1)))), (0, .ref h), (1, .int d), (2, .int (nI E))]) hx hb d_Key_howManyThere_24 hl (k := 1) rfl (nI_1 i) (by decide) rfl (fun ls hl => ?_)
      refine lv_goto (tgt := 5) hx hb d_Key_howManyThere_27 (by decide) ?_
      exact ih (i + 1) _ _ ls (by omega) ⟨lv_sub hl [0, 1, 2, 3, 4] rfl, hP, hD, hS, by omega⟩

set_option maxHeartbeats 4000000 in
set_option maxRecDepth 100000 in
/-- Keys.indexIfThere -/
theorem c_kift (l : Launch) (dC : Nat → ClassId) (dI : Nat → Nat → Nat) (cI : ClassId) (tys : List (ClassId × FieldType)) (ht : tys[0]? = some (cI, FieldType.int)) (h hv k1 q1 k2 q2 k3 q3 kv qv xv lim n1 n2 n3 nv : Nat) (f1 f2 f3 fv : Nat → Int32) (d k x : Int32) (E : Nat) (hz1 : ps_Z n1 f1) (hz2 : ps_Z n2 f2) (hz3 : ps_Z n3 f3) (hzv : ps_Z nv fv) (hn1 : n1 < 2 ^ 31) (hn2 : n2 < 2 ^ 31) (hn3 : n3 < 2 ^ 31) (hnv : nv < 2 ^ 31) (hE : E < 2 ^ 31) : ps_mI classes l y_Key_indexIfThere w_Key_indexIfThere ({ frames := 2, cells := 0, slots := 0, locals := 46 }) (dC, dI) tys [.ref h, .int d, .int k, .int x, .int (nI E)] (pq_W cI h hv k1 q1 k2 q2 k3 q3 kv qv xv lim n1 n2 n3 nv f1 f2 f3 fv) (fun r u => u = pq_W cI h hv k1 q1 k2 q2 k3 q3 kv qv xv lim n1 n2 n3 nv f1 f2 f3 fv ∧ ∃ z : Int32, ps_fst (fun j => f3 j = x ∧ f2 j = k ∧ f1 j = d) 0 E z ∧ ((∃ j : Nat, z = nI j ∧ j < E ∧ f1 j = d ∧ ¬ fv j = -1 ∧ r = nI j) ∨ ((z = -1 ∨ ∃ j : Nat, z = nI j ∧ j < E ∧ fv j = -1) ∧ r = -1))) := by
  refine ps_mI_of (by decide) rfl (Nat.le_of_ble_eq_true rfl) ?_
  intro p e s m below meth c A ls C0 hA hK hP hD hS hl
  obtain ⟨hx, hb, hr, hml, hts, hown, hlocks, hin⟩ := C0
  have hl : lv_has ls 6 [(0, .ref h), (1, .int d), (2, .int k), (3, .int x), (4, .int (nI E))] := hl
  have hP : va_P (dC, dI) classes [(h, .inr (cKey, [.ref k1, .ref k2, .ref k3, .ref hv])), (k1, .inr (cCol, [.int (nI lim), .ref q1])), (q1, .inl (cI, n1, .inl f1)), (k2, .inr (cCol, [.int (nI lim), .ref q2])), (q2, .inl (cI, n2, .inl f2)), (k3, .inr (cCol, [.int (nI lim), .ref q3])), (q3, .inl (cI, n3, .inl f3)), (hv, .inr (cVal, [.ref kv, .ref xv])), (kv, .inr (cCol, [.int (nI lim), .ref qv])), (qv, .inl (cI, nv, .inl fv))] s.heap := hP
  have hD : va_D A [(h, .inr (cKey, [.ref k1, .ref k2, .ref k3, .ref hv])), (k1, .inr (cCol, [.int (nI lim), .ref q1])), (q1, .inl (cI, n1, .inl f1)), (k2, .inr (cCol, [.int (nI lim), .ref q2])), (q2, .inl (cI, n2, .inl f2)), (k3, .inr (cCol, [.int (nI lim), .ref q3])), (q3, .inl (cI, n3, .inl f3)), (hv, .inr (cVal, [.ref kv, .ref xv])), (kv, .inr (cCol, [.int (nI lim), .ref qv])), (qv, .inl (cI, nv, .inl fv))] := hD
  refine lv_aload_n hx hb d_Key_indexIfThere_0 rfl (lv_at hl 0 rfl) ?_
  refine lv_iload_n hx hb d_Key_indexIfThere_1 rfl (lv_at hl 1 rfl) ?_
  refine lv_iload_n hx hb d_Key_indexIfThere_2 rfl (lv_at hl 2 rfl) ?_
  refine lv_iload_n hx hb d_Key_indexIfThere_3 rfl (lv_at hl 3 rfl) ?_
  refine lv_iload hx hb d_Key_indexIfThere_4 (lv_at hl 4 rfl) ?_
  refine ps_readI (wc := [(h, .inr (cKey, [.ref k1, .ref k2, .ref k3, .ref hv])), (k1, .inr (cCol, [.int (nI lim), .ref q1])), (q1, .inl (cI, n1, .inl f1)), (k2, .inr (cCol, [.int (nI lim), .ref q2])), (q2, .inl (cI, n2, .inl f2)), (k3, .inr (cCol, [.int (nI lim), .ref q3])), (q3, .inl (cI, n3, .inl f3)), (hv, .inr (cVal, [.ref kv, .ref xv])), (kv, .inr (cCol, [.int (nI lim), .ref qv])), (qv, .inl (cI, nv, .inl fv))]) hP hD hS hA [0, 1, 2, 3, 4, 5, 6, 7, 8, 9] rfl (fun _ _ h => h.1) (ps_runVI ⟨hx, hb, hml, hown, hts⟩ (c_kof l dC dI cI tys ht h hv k1 q1 k2 q2 k3 q3 kv qv xv lim n1 n2 n3 nv f1 f2 f3 fv d k x E hz1 hz2 hz3 hzv hn1 hn2 hn3 hnv hE) (ps_cwV ps_gd 4 hts tw_48 k_Key_indexOf e_Key_indexOf ⟨Nat.le_of_ble_eq_true rfl, Nat.le_of_ble_eq_true rfl⟩) hK hP hD [0, 1, 2, 3, 4, 5, 6, 7, 8, 9] (by decide) rfl 0 cKey rfl rfl rfl hl.1 rfl (Nat.le_of_ble_eq_true rfl) d_Key_indexIfThere_6 ⟨Nat.zero_le _, Nat.zero_le _⟩) (fun r_1 H locs hr_1 hP hS => ?_)
  obtain ⟨-, hr_1⟩ := hr_1
  refine lv_istore (lv' := [(5, .int r_1), (0, .ref h), (1, .int d), (2, .int k), (3, .int x), (4, .int (nI E))]) hx hb d_Key_indexIfThere_9 hl (by decide) rfl (fun ls hl => ?_)
  refine lv_iload hx hb d_Key_indexIfThere_11 (lv_at hl 0 rfl) ?_
  refine lv_iconst (v := (-1)) hx hb d_Key_indexIfThere_13 (by decide) ?_
  refine lv_icmp_eq (tgt := 32) hx hb d_Key_indexIfThere_14 (by decide) (fun c_2 => ?_) (fun c_2 => ?_)
  · refine lv_iconst (v := (-1)) hx hb d_Key_indexIfThere_32 (by decide) ?_
    exact ps_iret hx hb hr hlocks hK hP hD hS (Nat.le_of_ble_eq_true rfl) (Nat.le_of_ble_eq_true rfl) d_Key_indexIfThere_33 (⟨rfl, _, hr_1, Or.inr ⟨Or.inl c_2, rfl⟩⟩)
  · obtain ⟨j, -, hjE, hjM, hjn, hj⟩ := ps_fst_some hr_1 c_2
    have hr_1 : ps_fst (fun j => f3 j = x ∧ f2 j = k ∧ f1 j = d) 0 E r_1 := hr_1
    subst hj
    refine lv_aload_n hx hb d_Key_indexIfThere_17 rfl (lv_at hl 1 rfl) ?_
    refine lv_iload hx hb d_Key_indexIfThere_18 (lv_at hl 0 rfl) ?_
    refine lv_iload_n hx hb d_Key_indexIfThere_20 rfl (lv_at hl 2 rfl) ?_
    refine ps_readI (wc := [(h, .inr (cKey, [.ref k1, .ref k2, .ref k3, .ref hv])), (k1, .inr (cCol, [.int (nI lim), .ref q1])), (q1, .inl (cI, n1, .inl f1)), (k2, .inr (cCol, [.int (nI lim), .ref q2])), (q2, .inl (cI, n2, .inl f2)), (k3, .inr (cCol, [.int (nI lim), .ref q3])), (q3, .inl (cI, n3, .inl f3)), (hv, .inr (cVal, [.ref kv, .ref xv])), (kv, .inr (cCol, [.int (nI lim), .ref qv])), (qv, .inl (cI, nv, .inl fv))]) hP hD hS hA [0, 1, 2, 3, 4, 5, 6, 7, 8, 9] rfl (fun _ _ h => h.1) (ps_runVI ⟨hx, hb, hml, hown, hts⟩ (c_kis l dC dI cI tys ht h hv k1 q1 k2 q2 k3 q3 kv qv xv lim n1 n2 n3 nv f1 f2 f3 fv j d hz1 hz2 hz3 hzv hn1 hn2 hn3 hnv (by omega)) (ps_cwV ps_gd 2 hts tw_47 k_Key_isThere e_Key_isThere ⟨Nat.le_of_ble_eq_true rfl, Nat.le_of_ble_eq_true rfl⟩) hK hP hD [0, 1, 2, 3, 4, 5, 6, 7, 8, 9] (by decide) rfl 0 cKey rfl rfl rfl hl.1 rfl (Nat.le_of_ble_eq_true rfl) d_Key_indexIfThere_21 ⟨Nat.zero_le _, Nat.zero_le _⟩) (fun r_3 H locs hr_3 hP hS => ?_)
    obtain ⟨-, hr_3⟩ := hr_3
    subst hr_3
    refine lv_if_eq (tgt := 32) hx hb d_Key_indexIfThere_24 (by decide) (fun c_4 => ?_) (fun c_4 => ?_)
    · have c_4 := ps_ite0 c_4
      refine lv_iconst (v := (-1)) hx hb d_Key_indexIfThere_32 (by decide) ?_
      exact ps_iret hx hb hr hlocks hK hP hD hS (Nat.le_of_ble_eq_true rfl) (Nat.le_of_ble_eq_true rfl) d_Key_indexIfThere_33 (⟨rfl, _, hr_1, Or.inr ⟨Or.inr ⟨j, rfl, hjE, Classical.byContradiction (fun q => c_4 ⟨hjM.2.2, q⟩)⟩, rfl⟩⟩)
    · have c_4 := ps_ite1 c_4
      refine lv_iload hx hb d_Key_indexIfThere_27 (lv_at hl 0 rfl) ?_
      refine lv_goto (tgt := 33) hx hb d_Key_indexIfThere_29 (by decide) ?_
      exact ps_iret hx hb hr hlocks hK hP hD hS (Nat.le_of_ble_eq_true rfl) (Nat.le_of_ble_eq_true rfl) d_Key_indexIfThere_33 (⟨rfl, _, hr_1, Or.inl ⟨j, rfl, hjE, c_4.1, c_4.2, rfl⟩⟩)
end
section
theorem tw_59 : (.fieldLink "PageStore$Memories" 21 "PageStore$Memories" "indexes" "LPageStore$Column;" : Cond) ∈ ps_tbl := ps_t1 115 rfl rfl
theorem tw_60 : (.methodLink "PageStore$Memories" 38 ⟨"PageStore$Column", "at", "(I)I"⟩ : Cond) ∈ ps_tbl := ps_t2 23 rfl rfl
theorem tw_61 : (.fieldLink "PageStore$Memories" 15 "PageStore$Memories" "whose" "LPageStore$Column;" : Cond) ∈ ps_tbl := ps_t1 113 rfl rfl
theorem tw_62 : (.methodLink "PageStore$Memories" 31 ⟨"PageStore$Column", "put", "(II)V"⟩ : Cond) ∈ ps_tbl := ps_t2 33 rfl rfl
theorem tw_63 : (.fieldLink "PageStore$Memories" 27 "PageStore$Memories" "old" "LPageStore$Values;" : Cond) ∈ ps_tbl := ps_t1 117 rfl rfl
theorem tw_64 : (.fieldLink "PageStore$Memories" 35 "PageStore$Values" "kinds" "LPageStore$Column;" : Cond) ∈ ps_tbl := ps_t1 64 rfl rfl
theorem tw_65 : (.fieldLink "PageStore$Memories" 42 "PageStore$Values" "numbers" "LPageStore$Column;" : Cond) ∈ ps_tbl := ps_t1 68 rfl rfl
theorem tw_66 : (.methodLink "PageStore$Memories" 45 ⟨"PageStore$Values", "write", "(III)V"⟩ : Cond) ∈ ps_tbl := ps_t2 34 rfl rfl
theorem tw_67 : (.instanceMethod ⟨"PageStore$Values", "write", "(III)V"⟩ : Cond) ∈ ps_tbl := ps_t2 35 rfl rfl
theorem tw_68 : (.selects "PageStore$Values" ⟨"PageStore$Values", "write", "(III)V"⟩ ⟨"PageStore$Values", "write", "(III)V"⟩ : Cond) ∈ ps_tbl := ps_t2 36 rfl rfl
theorem tw_69 : (.initialized "PageStore$Values" : Cond) ∈ ps_tbl := ps_t1 4 rfl rfl
theorem tw_70 : (.code ⟨"PageStore$Values", "write", "(III)V"⟩ prog_6_method_2_code 4 none : Cond) ∈ ps_tbl := ps_t2 37 rfl rfl
theorem k_Val_write : ps_cdV ps_tbl y_Val_write prog_6_method_2_code 4 none := ⟨tw_67, tw_68, tw_69, tw_70⟩
set_option maxHeartbeats 4000000 in
set_option maxRecDepth 100000 in
/-- Memories.hold -/
theorem c_mhold (l : Launch) (dC : Nat → ClassId) (dI : Nat → Nat → Nat) (cI : ClassId) (tys : List (ClassId × FieldType)) (ht : tys[0]? = some (cI, FieldType.int)) (h ho k1 q1 k2 q2 lim n1 n2 : Nat) (f1 f2 : Nat → Int32) (o x : Int32) (a E : Nat) (hz1 : ps_Z n1 f1) (hz2 : ps_Z n2 f2) (hn1 : n1 < 2 ^ 31) (hn2 : n2 < 2 ^ 31) (hE : E < 2 ^ 31) (ha : a < 2 ^ 31) : ps_mI classes l y_Mem_hold w_Mem_hold ({ frames := 1, cells := 0, slots := 0, locals := 21 }) (dC, dI) tys [.ref h, .int o, .int x, .int (nI a), .int (nI E)] (pm_W cI h ho k1 q1 k2 q2 lim n1 n2 f1 f2) (fun r u => u = pm_W cI h ho k1 q1 k2 q2 lim n1 n2 f1 f2 ∧ ((r = 0 ∧ ps_not (fun j => f2 j = x ∧ f1 j = o) a E) ∨ (r = 1 ∧ ∃ j, a ≤ j ∧ j < E ∧ (fun j => f2 j = x ∧ f1 j = o) j))) := by
  refine ps_mI_of (by decide) rfl (Nat.le_of_ble_eq_true rfl) ?_
  intro p e s m below meth c A ls C0 hA hK hP hD hS hl
  obtain ⟨hx, hb, hr, hml, hts, hown, hlocks, hin⟩ := C0
  have hl : lv_has ls 6 [(0, .ref h), (1, .int o), (2, .int x), (3, .int (nI a)), (4, .int (nI E))] := hl
  have hP : va_P (dC, dI) classes [(h, .inr (cMem, [.ref k1, .ref k2, .ref ho])), (k1, .inr (cCol, [.int (nI lim), .ref q1])), (q1, .inl (cI, n1, .inl f1)), (k2, .inr (cCol, [.int (nI lim), .ref q2])), (q2, .inl (cI, n2, .inl f2))] s.heap := hP
  have hD : va_D A [(h, .inr (cMem, [.ref k1, .ref k2, .ref ho])), (k1, .inr (cCol, [.int (nI lim), .ref q1])), (q1, .inl (cI, n1, .inl f1)), (k2, .inr (cCol, [.int (nI lim), .ref q2])), (q2, .inl (cI, n2, .inl f2))] := hD
  refine lv_iload_n hx hb d_Mem_hold_0 rfl (lv_at hl 3 rfl) ?_
  refine lv_istore (lv' := [(5, .int (nI a)), (0, .ref h), (1, .int o), (2, .int x), (3, .int (nI a)), (4, .int (nI E))]) hx hb d_Mem_hold_1 hl (by decide) rfl (fun ls hl => ?_)
  refine ps_loop (α := Nat) (fun i => 0) (fun i => 0) (fun i => E - i) (fun i H locs ls => lv_has ls 6 [(5, .int (nI i)), (0, .ref h), (1, .int o), (2, .int x), (3, .int (nI a)), (4, .int (nI E))] ∧ va_P (dC, dI) classes [(h, .inr (cMem, [.ref k1, .ref k2, .ref ho])), (k1, .inr (cCol, [.int (nI lim), .ref q1])), (q1, .inl (cI, n1, .inl f1)), (k2, .inr (cCol, [.int (nI lim), .ref q2])), (q2, .inl (cI, n2, .inl f2))] H ∧ va_D A [(h, .inr (cMem, [.ref k1, .ref k2, .ref ho])), (k1, .inr (cCol, [.int (nI lim), .ref q1])), (q1, .inl (cI, n1, .inl f1)), (k2, .inr (cCol, [.int (nI lim), .ref q2])), (q2, .inl (cI, n2, .inl f2))] ∧ va_S A s.heap H locs ∧ a ≤ i ∧ i < 2 ^ 31 ∧ ps_not (fun j => f2 j = x ∧ f1 j = o) a i) ?_ a _ _ ls ⟨lv_sub hl [0, 1, 2, 3, 4, 5] rfl, hP, hD, hS, Nat.le_refl _, ha, ps_not0⟩
  intro i H locs ls hI ih
  obtain ⟨hl, hP, hD, hS, hai, hi31, hno⟩ := hI
  refine lv_iload hx hb d_Mem_hold_3 (lv_at hl 0 rfl) ?_
  refine lv_iload hx hb d_Mem_hold_5 (lv_at hl 5 rfl) ?_
  refine lv_icmp_ge (tgt := 44) hx hb d_Mem_hold_7 (by decide) (fun c_1 => ?_) (fun c_1 => ?_)
  · have c_1 : E ≤ i := (nI_leI (by omega) (by omega)).mp c_1
    refine lv_iconst (v := 0) hx hb d_Mem_hold_44 (by decide) ?_
    exact ps_zret hx hb hr hlocks hK hP hD hS rfl (Nat.le_of_ble_eq_true rfl) (Nat.le_of_ble_eq_true rfl) d_Mem_hold_45 (⟨rfl, Or.inl ⟨rfl, fun j h1 h2 => hno j h1 (by omega)⟩⟩)
  · have c_1 : ¬ E ≤ i := fun q => c_1 ((nI_leI (by omega) (by omega)).mpr q)
    refine lv_aload_n hx hb d_Mem_hold_10 rfl (lv_at hl 1 rfl) ?_
    refine va_get (D := (dC, dI)) (ci := cMem) (v := .ref k2) (C := R_Mem) (T := F_Mem) (N := 3) hx hb hts i_Mem hown hK hP 0 rfl rfl 1 (by decide) (hts _ tw_59) (fun _ h9 => h9) rfl d_Mem_hold_11 ?_
    refine lv_iload hx hb d_Mem_hold_14 (lv_at hl 0 rfl) ?_
    refine ps_readI (wc := [(k2, .inr (cCol, [.int (nI lim), .ref q2])), (q2, .inl (cI, n2, .inl f2))]) hP hD hS hA [3, 4] rfl (fun _ _ h => h.1) (ps_runVI ⟨hx, hb, hml, hown, hts⟩ (c_at l dC dI cI tys ht k2 q2 lim n2 f2 i hz2 hn2 (by omega)) (ps_cwV ps_gd 1 hts tw_60 k_Col_at e_Col_at ⟨Nat.le_of_ble_eq_true rfl, Nat.le_of_ble_eq_true rfl⟩) hK hP hD [3, 4] (by decide) rfl 0 cCol rfl rfl rfl hl.1 rfl (Nat.le_of_ble_eq_true rfl) d_Mem_hold_16 ⟨Nat.zero_le _, Nat.zero_le _⟩) (fun r_2 H locs hr_2 hP hS => ?_)
    obtain ⟨-, hr_2⟩ := hr_2
    subst hr_2
    refine lv_iload_n hx hb d_Mem_hold_19 rfl (lv_at hl 3 rfl) ?_
    refine lv_icmp_ne (tgt := 38) hx hb d_Mem_hold_20 (by decide) (fun c_3 => ?_) (fun c_3 => ?_)
    · refine lv_iinc (v := nI (i + 1)) (lv' := [(5, .int (nI (i + 1))), (0, .ref h), (1, .int o), (2, .int x), (3, .int (nI a)), (4, .int (nI E))]) hx hb d_Mem_hold_38 hl (k := 0) rfl (nI_1 i) (by decide) rfl (fun ls hl => ?_)
      refine lv_goto (tgt := 3) hx hb d_Mem_hold_41 (by decide) ?_
      exact ih (i + 1) _ _ ls (by omega) ⟨lv_sub hl [0, 1, 2, 3, 4, 5] rfl, hP, hD, hS, by omega, by omega, ps_nots hno (fun q => c_3 q.1)⟩
    · refine lv_aload_n hx hb d_Mem_hold_23 rfl (lv_at hl 1 rfl) ?_
      refine va_get (D := (dC, dI)) (ci := cMem) (v := .ref k1) (C := R_Mem) (T := F_Mem) (N := 3) hx hb hts i_Mem hown hK hP 0 rfl rfl 0 (by decide) (hts _ tw_61) (fun _ h9 => h9) rfl d_Mem_hold_24 ?_
      refine lv_iload hx hb d_Mem_hold_27 (lv_at hl 0 rfl) ?_
      refine ps_readI (wc := [(k1, .inr (cCol, [.int (nI lim), .ref q1])), (q1, .inl (cI, n1, .inl f1))]) hP hD hS hA [1, 2] rfl (fun _ _ h => h.1) (ps_runVI ⟨hx, hb, hml, hown, hts⟩ (c_at l dC dI cI tys ht k1 q1 lim n1 f1 i hz1 hn1 (by omega)) (ps_cwV ps_gd 1 hts tw_60 k_Col_at e_Col_at ⟨Nat.le_of_ble_eq_true rfl, Nat.le_of_ble_eq_true rfl⟩) hK hP hD [1, 2] (by decide) rfl 0 cCol rfl rfl rfl hl.1 rfl (Nat.le_of_ble_eq_true rfl) d_Mem_hold_29 ⟨Nat.zero_le _, Nat.zero_le _⟩) (fun r_4 H locs hr_4 hP hS => ?_)
      obtain ⟨-, hr_4⟩ := hr_4
      subst hr_4
      refine lv_iload_n hx hb d_Mem_hold_32 rfl (lv_at hl 2 rfl) ?_
      refine lv_icmp_ne (tgt := 38) hx hb d_Mem_hold_33 (by decide) (fun c_5 => ?_) (fun c_5 => ?_)
      · refine lv_iinc (v := nI (i + 1)) (lv' := [(5, .int (nI (i + 1))), (0, .ref h), (1, .int o), (2, .int x), (3, .int (nI a)), (4, .int (nI E))]) hx hb d_Mem_hold_38 hl (k := 0) rfl (nI_1 i) (by decide) rfl (fun ls hl => ?_)
        refine lv_goto (tgt := 3) hx hb d_Mem_hold_41 (by decide) ?_
        exact ih (i + 1) _ _ ls (by omega) ⟨lv_sub hl [0, 1, 2, 3, 4, 5] rfl, hP, hD, hS, by omega, by omega, ps_nots hno (fun q => c_5 q.2)⟩
      · refine lv_iconst (v := 1) hx hb d_Mem_hold_36 (by decide) ?_
        exact ps_zret hx hb hr hlocks hK hP hD hS rfl (Nat.le_of_ble_eq_true rfl) (Nat.le_of_ble_eq_true rfl) d_Mem_hold_37 (⟨rfl, Or.inr ⟨rfl, i, hai, by omega, c_3, c_5⟩⟩)

set_option maxHeartbeats 4000000 in
set_option maxRecDepth 100000 in
/-- Memories.write -/
theorem c_mwrite (l : Launch) (dC : Nat → ClassId) (dI : Nat → Nat → Nat) (cI : ClassId) (tys : List (ClassId × FieldType)) (ht : tys[0]? = some (cI, FieldType.int)) (h k1 q1 k2 q2 ho k3 q3 k4 q4 hv kv qv xv qx lim vl n1 n2 n3 n4 nv nx : Nat) (f1 f2 f3 f4 fv fx : Nat → Int32) (m0 : Nat) (o : Int32) (i : Nat) (hz1 : ps_Z n1 f1) (hn1 : n1 ≤ lim) (hz2 : ps_Z n2 f2) (hn2 : n2 ≤ lim) (hz3 : ps_Z n3 f3) (hn3 : n3 ≤ lim) (hz4 : ps_Z n4 f4) (hn4 : n4 ≤ lim) (hzv : ps_Z nv fv) (hzx : ps_Z nx fx) (hnv : nv < 2 ^ 31) (hnx : nx < 2 ^ 31) (hlim : lim ≤ 65536) (hm : m0 < lim) (hi : i < 2 ^ 31) : ps_mV classes l y_Mem_write w_Mem_write ({ frames := 4, cells := ps_dc lim n1 m0 + ps_dc lim n2 m0 + (ps_dc lim n3 m0 + ps_dc lim n4 m0), slots := ps_ds lim n1 m0 + ps_ds lim n2 m0 + (ps_ds lim n3 m0 + ps_ds lim n4 m0), locals := 86 }) (dC, dI) tys [.ref h, .int (nI m0), .int o, .int (nI i), .ref hv] (pn_W cI h k1 q1 k2 q2 ho k3 q3 k4 q4 hv kv qv xv qx lim vl n1 n2 n3 n4 nv nx f1 f2 f3 f4 fv fx) (fun u => ∃ p1 p2 p3 p4 : Nat, u = pn_W cI h k1 p1 k2 p2 ho k3 p3 k4 p4 hv kv qv xv qx lim vl (ps_len lim n1 m0) (ps_len lim n2 m0) (ps_len lim n3 m0) (ps_len lim n4 m0) nv nx (upd f1 m0 o) (upd f2 m0 (nI i)) (upd f3 m0 (fv i)) (upd f4 m0 (if fv i = 0 then 0 else fx i)) fv fx) := by
  refine ps_mV_of (by decide) rfl (Nat.le_of_ble_eq_true rfl) ?_
  intro p e s m below meth c A ls C0 hA hK hP hD hS hl
  obtain ⟨hx, hb, hr, hml, hts, hown, hlocks, hin⟩ := C0
  have hl : lv_has ls 5 [(0, .ref h), (1, .int (nI m0)), (2, .int o), (3, .int (nI i)), (4, .ref hv)] := hl
  have hP : va_P (dC, dI) classes [(h, .inr (cMem, [.ref k1, .ref k2, .ref ho])), (k1, .inr (cCol, [.int (nI lim), .ref q1])), (q1, .inl (cI, n1, .inl f1)), (k2, .inr (cCol, [.int (nI lim), .ref q2])), (q2, .inl (cI, n2, .inl f2)), (ho, .inr (cVal, [.ref k3, .ref k4])), (k3, .inr (cCol, [.int (nI lim), .ref q3])), (q3, .inl (cI, n3, .inl f3)), (k4, .inr (cCol, [.int (nI lim), .ref q4])), (q4, .inl (cI, n4, .inl f4)), (hv, .inr (cVal, [.ref kv, .ref xv])), (kv, .inr (cCol, [.int (nI vl), .ref qv])), (qv, .inl (cI, nv, .inl fv)), (xv, .inr (cCol, [.int (nI vl), .ref qx])), (qx, .inl (cI, nx, .inl fx))] s.heap := hP
  have hD : va_D A [(h, .inr (cMem, [.ref k1, .ref k2, .ref ho])), (k1, .inr (cCol, [.int (nI lim), .ref q1])), (q1, .inl (cI, n1, .inl f1)), (k2, .inr (cCol, [.int (nI lim), .ref q2])), (q2, .inl (cI, n2, .inl f2)), (ho, .inr (cVal, [.ref k3, .ref k4])), (k3, .inr (cCol, [.int (nI lim), .ref q3])), (q3, .inl (cI, n3, .inl f3)), (k4, .inr (cCol, [.int (nI lim), .ref q4])), (q4, .inl (cI, n4, .inl f4)), (hv, .inr (cVal, [.ref kv, .ref xv])), (kv, .inr (cCol, [.int (nI vl), .ref qv])), (qv, .inl (cI, nv, .inl fv)), (xv, .inr (cCol, [.int (nI vl), .ref qx])), (qx, .inl (cI, nx, .inl fx))] := hD
  refine lv_aload_n hx hb d_Mem_write_0 rfl (lv_at hl 0 rfl) ?_
  refine va_get (D := (dC, dI)) (ci := cMem) (v := .ref k1) (C := R_Mem) (T := F_Mem) (N := 3) hx hb hts i_Mem hown hK hP 0 rfl rfl 0 (by decide) (hts _ tw_61) (fun _ h9 => h9) rfl d_Mem_write_1 ?_
  refine lv_iload_n hx hb d_Mem_write_4 rfl (lv_at hl 1 rfl) ?_
  refine lv_iload_n hx hb d_Mem_write_5 rfl (lv_at hl 2 rfl) ?_
  refine ps_afterV (wc := [(k1, .inr (cCol, [.int (nI lim), .ref q1])), (q1, .inl (cI, n1, .inl f1))]) (wr := [0, 3, 4, 5, 6, 7, 8, 9, 10, 11, 12, 13, 14].filterMap (fun z9 => ([(h, .inr (cMem, [.ref k1, .ref k2, .ref ho])), (k1, .inr (cCol, [.int (nI lim), .ref q1])), (q1, .inl (cI, n1, .inl f1)), (k2, .inr (cCol, [.int (nI lim), .ref q2])), (q2, .inl (cI, n2, .inl f2)), (ho, .inr (cVal, [.ref k3, .ref k4])), (k3, .inr (cCol, [.int (nI lim), .ref q3])), (q3, .inl (cI, n3, .inl f3)), (k4, .inr (cCol, [.int (nI lim), .ref q4])), (q4, .inl (cI, n4, .inl f4)), (hv, .inr (cVal, [.ref kv, .ref xv])), (kv, .inr (cCol, [.int (nI vl), .ref qv])), (qv, .inl (cI, nv, .inl fv)), (xv, .inr (cCol, [.int (nI vl), .ref qx])), (qx, .inl (cI, nx, .inl fx))] : va_W)[z9]?)) hP hD hS hA [1, 2] [0, 3, 4, 5, 6, 7, 8, 9, 10, 11, 12, 13, 14] rfl rfl (by decide) (by decide) (ps_runVV ⟨hx, hb, hml, hown, hts⟩ (c_put l dC dI cI tys ht k1 q1 lim n1 f1 m0 o hz1 hlim hn1 hm) (ps_cwV ps_gd 2 hts tw_62 k_Col_put e_Col_put ⟨Nat.le_of_ble_eq_true rfl, Nat.le_of_ble_eq_true rfl⟩) hK hP hD [1, 2] (by decide) rfl 0 cCol rfl rfl rfl hl.1 rfl (Nat.le_of_ble_eq_true rfl) d_Mem_write_6 ⟨by show 0 + ps_dc lim n1 m0 ≤ ps_dc lim n1 m0 + ps_dc lim n2 m0 + (ps_dc lim n3 m0 + ps_dc lim n4 m0); omega, by show 0 + ps_ds lim n1 m0 ≤ ps_ds lim n1 m0 + ps_ds lim n2 m0 + (ps_ds lim n3 m0 + ps_ds lim n4 m0); omega⟩) (fun u_1 H locs hu_1 hP hD hS => ?_)
  obtain ⟨q_3, hu_1⟩ := hu_1
  subst hu_1
  obtain ⟨hP, hD⟩ := ps_perm (ws' := [(h, .inr (cMem, [.ref k1, .ref k2, .ref ho])), (k1, .inr (cCol, [.int (nI lim), .ref q_3])), (q_3, .inl (cI, ps_len lim n1 m0, .inl (upd f1 m0 o))), (k2, .inr (cCol, [.int (nI lim), .ref q2])), (q2, .inl (cI, n2, .inl f2)), (ho, .inr (cVal, [.ref k3, .ref k4])), (k3, .inr (cCol, [.int (nI lim), .ref q3])), (q3, .inl (cI, n3, .inl f3)), (k4, .inr (cCol, [.int (nI lim), .ref q4])), (q4, .inl (cI, n4, .inl f4)), (hv, .inr (cVal, [.ref kv, .ref xv])), (kv, .inr (cCol, [.int (nI vl), .ref qv])), (qv, .inl (cI, nv, .inl fv)), (xv, .inr (cCol, [.int (nI vl), .ref qx])), (qx, .inl (cI, nx, .inl fx))]) hP hD [0, 13, 14, 1, 2, 3, 4, 5, 6, 7, 8, 9, 10, 11, 12] (by decide) rfl
  refine lv_aload_n hx hb d_Mem_write_9 rfl (lv_at hl 0 rfl) ?_
  refine va_get (D := (dC, dI)) (ci := cMem) (v := .ref k2) (C := R_Mem) (T := F_Mem) (N := 3) hx hb hts i_Mem hown hK hP 0 rfl rfl 1 (by decide) (hts _ tw_59) (fun _ h9 => h9) rfl d_Mem_write_10 ?_
  refine lv_iload_n hx hb d_Mem_write_13 rfl (lv_at hl 1 rfl) ?_
  refine lv_iload_n hx hb d_Mem_write_14 rfl (lv_at hl 3 rfl) ?_
  refine ps_afterV (wc := [(k2, .inr (cCol, [.int (nI lim), .ref q2])), (q2, .inl (cI, n2, .inl f2))]) (wr := [0, 1, 2, 5, 6, 7, 8, 9, 10, 11, 12, 13, 14].filterMap (fun z9 => ([(h, .inr (cMem, [.ref k1, .ref k2, .ref ho])), (k1, .inr (cCol, [.int (nI lim), .ref q_3])), (q_3, .inl (cI, ps_len lim n1 m0, .inl (upd f1 m0 o))), (k2, .inr (cCol, [.int (nI lim), .ref q2])), (q2, .inl (cI, n2, .inl f2)), (ho, .inr (cVal, [.ref k3, .ref k4])), (k3, .inr (cCol, [.int (nI lim), .ref q3])), (q3, .inl (cI, n3, .inl f3)), (k4, .inr (cCol, [.int (nI lim), .ref q4])), (q4, .inl (cI, n4, .inl f4)), (hv, .inr (cVal, [.ref kv, .ref xv])), (kv, .inr (cCol, [.int (nI vl), .ref qv])), (qv, .inl (cI, nv, .inl fv)), (xv, .inr (cCol, [.int (nI vl), .ref qx])), (qx, .inl (cI, nx, .inl fx))] : va_W)[z9]?)) hP hD hS hA [3, 4] [0, 1, 2, 5, 6, 7, 8, 9, 10, 11, 12, 13, 14] rfl rfl (by decide) (by decide) (ps_runVV ⟨hx, hb, hml, hown, hts⟩ (c_put l dC dI cI tys ht k2 q2 lim n2 f2 m0 (nI i) hz2 hlim hn2 hm) (ps_cwV ps_gd 2 hts tw_62 k_Col_put e_Col_put ⟨Nat.le_of_ble_eq_true rfl, Nat.le_of_ble_eq_true rfl⟩) hK hP hD [3, 4] (by decide) rfl 0 cCol rfl rfl rfl hl.1 rfl (Nat.le_of_ble_eq_true rfl) d_Mem_write_15 ⟨by show 0 + ps_dc lim n1 m0 + ps_dc lim n2 m0 ≤ ps_dc lim n1 m0 + ps_dc lim n2 m0 + (ps_dc lim n3 m0 + ps_dc lim n4 m0); omega, by show 0 + ps_ds lim n1 m0 + ps_ds lim n2 m0 ≤ ps_ds lim n1 m0 + ps_ds lim n2 m0 + (ps_ds lim n3 m0 + ps_ds lim n4 m0); omega⟩) (fun u_4 H locs hu_4 hP hD hS => ?_)
  obtain ⟨q_6, hu_4⟩ := hu_4
  subst hu_4
  obtain ⟨hP, hD⟩ := ps_perm (ws' := [(h, .inr (cMem, [.ref k1, .ref k2, .ref ho])), (k1, .inr (cCol, [.int (nI lim), .ref q_3])), (q_3, .inl (cI, ps_len lim n1 m0, .inl (upd f1 m0 o))), (k2, .inr (cCol, [.int (nI lim), .ref q_6])), (q_6, .inl (cI, ps_len lim n2 m0, .inl (upd f2 m0 (nI i)))), (ho, .inr (cVal, [.ref k3, .ref k4])), (k3, .inr (cCol, [.int (nI lim), .ref q3])), (q3, .inl (cI, n3, .inl f3)), (k4, .inr (cCol, [.int (nI lim), .ref q4])), (q4, .inl (cI, n4, .inl f4)), (hv, .inr (cVal, [.ref kv, .ref xv])), (kv, .inr (cCol, [.int (nI vl), .ref qv])), (qv, .inl (cI, nv, .inl fv)), (xv, .inr (cCol, [.int (nI vl), .ref qx])), (qx, .inl (cI, nx, .inl fx))]) hP hD [0, 1, 2, 13, 14, 3, 4, 5, 6, 7, 8, 9, 10, 11, 12] (by decide) rfl
  refine lv_aload_n hx hb d_Mem_write_18 rfl (lv_at hl 0 rfl) ?_
  refine va_get (D := (dC, dI)) (ci := cMem) (v := .ref ho) (C := R_Mem) (T := F_Mem) (N := 3) hx hb hts i_Mem hown hK hP 0 rfl rfl 2 (by decide) (hts _ tw_63) (fun _ h9 => h9) rfl d_Mem_write_19 ?_
  refine lv_iload_n hx hb d_Mem_write_22 rfl (lv_at hl 1 rfl) ?_
  refine lv_aload hx hb d_Mem_write_23 (lv_at hl 4 rfl) ?_
  refine va_get (D := (dC, dI)) (ci := cVal) (v := .ref kv) (C := R_Val) (T := F_Val) (N := 2) hx hb hts i_Val hown hK hP 10 rfl rfl 0 (by decide) (hts _ tw_64) (fun _ h9 => h9) rfl d_Mem_write_25 ?_
  refine lv_iload_n hx hb d_Mem_write_28 rfl (lv_at hl 3 rfl) ?_
  refine ps_readI (wc := [(kv, .inr (cCol, [.int (nI vl), .ref qv])), (qv, .inl (cI, nv, .inl fv))]) hP hD hS hA [11, 12] rfl (fun _ _ h => h.1) (ps_runVI ⟨hx, hb, hml, hown, hts⟩ (c_at l dC dI cI tys ht kv qv vl nv fv i hzv hnv hi) (ps_cwV ps_gd 1 hts tw_60 k_Col_at e_Col_at ⟨Nat.le_of_ble_eq_true rfl, Nat.le_of_ble_eq_true rfl⟩) hK hP hD [11, 12] (by decide) rfl 0 cCol rfl rfl rfl hl.1 rfl (Nat.le_of_ble_eq_true rfl) d_Mem_write_29 ⟨by show 0 + ps_dc lim n1 m0 + ps_dc lim n2 m0 + 0 ≤ ps_dc lim n1 m0 + ps_dc lim n2 m0 + (ps_dc lim n3 m0 + ps_dc lim n4 m0); omega, by show 0 + ps_ds lim n1 m0 + ps_ds lim n2 m0 + 0 ≤ ps_ds lim n1 m0 + ps_ds lim n2 m0 + (ps_ds lim n3 m0 + ps_ds lim n4 m0); omega⟩) (fun r_7 H locs hr_7 hP hS => ?_)
  obtain ⟨-, hr_7⟩ := hr_7
  subst hr_7
  refine lv_aload hx hb d_Mem_write_32 (lv_at hl 4 rfl) ?_
  refine va_get (D := (dC, dI)) (ci := cVal) (v := .ref xv) (C := R_Val) (T := F_Val) (N := 2) hx hb hts i_Val hown hK hP 10 rfl rfl 1 (by decide) (hts _ tw_65) (fun _ h9 => h9) rfl d_Mem_write_34 ?_
  refine lv_iload_n hx hb d_Mem_write_37 rfl (lv_at hl 3 rfl) ?_
  refine ps_readI (wc := [(xv, .inr (cCol, [.int (nI vl), .ref qx])), (qx, .inl (cI, nx, .inl fx))]) hP hD hS hA [13, 14] rfl (fun _ _ h => h.1) (ps_runVI ⟨hx, hb, hml, hown, hts⟩ (c_at l dC dI cI tys ht xv qx vl nx fx i hzx hnx hi) (ps_cwV ps_gd 1 hts tw_60 k_Col_at e_Col_at ⟨Nat.le_of_ble_eq_true rfl, Nat.le_of_ble_eq_true rfl⟩) hK hP hD [13, 14] (by decide) rfl 0 cCol rfl rfl rfl hl.1 rfl (Nat.le_of_ble_eq_true rfl) d_Mem_write_38 ⟨by show 0 + ps_dc lim n1 m0 + ps_dc lim n2 m0 + 0 + 0 ≤ ps_dc lim n1 m0 + ps_dc lim n2 m0 + (ps_dc lim n3 m0 + ps_dc lim n4 m0); omega, by show 0 + ps_ds lim n1 m0 + ps_ds lim n2 m0 + 0 + 0 ≤ ps_ds lim n1 m0 + ps_ds lim n2 m0 + (ps_ds lim n3 m0 + ps_ds lim n4 m0); omega⟩) (fun r_8 H locs hr_8 hP hS => ?_)
  obtain ⟨-, hr_8⟩ := hr_8
  subst hr_8
  refine ps_afterV (wc := [(ho, .inr (cVal, [.ref k3, .ref k4])), (k3, .inr (cCol, [.int (nI lim), .ref q3])), (q3, .inl (cI, n3, .inl f3)), (k4, .inr (cCol, [.int (nI lim), .ref q4])), (q4, .inl (cI, n4, .inl f4))]) (wr := [0, 1, 2, 3, 4, 10, 11, 12, 13, 14].filterMap (fun z9 => ([(h, .inr (cMem, [.ref k1, .ref k2, .ref ho])), (k1, .inr (cCol, [.int (nI lim), .ref q_3])), (q_3, .inl (cI, ps_len lim n1 m0, .inl (upd f1 m0 o))), (k2, .inr (cCol, [.int (nI lim), .ref q_6])), (q_6, .inl (cI, ps_len lim n2 m0, .inl (upd f2 m0 (nI i)))), (ho, .inr (cVal, [.ref k3, .ref k4])), (k3, .inr (cCol, [.int (nI lim), .ref q3])), (q3, .inl (cI, n3, .inl f3)), (k4, .inr (cCol, [.int (nI lim), .ref q4])), (q4, .inl (cI, n4, .inl f4)), (hv, .inr (cVal, [.ref kv, .ref xv])), (kv, .inr (cCol, [.int (nI vl), .ref qv])), (qv, .inl (cI, nv, .inl fv)), (xv, .inr (cCol, [.int (nI vl), .ref qx])), (qx, .inl (cI, nx, .inl fx))] : va_W)[z9]?)) hP hD hS hA [5, 6, 7, 8, 9] [0, 1, 2, 3, 4, 10, 11, 12, 13, 14] rfl rfl (by decide) (by decide) (ps_runVV ⟨hx, hb, hml, hown, hts⟩ (c_vwrite l dC dI cI tys ht ho k3 q3 k4 q4 lim n3 n4 f3 f4 m0 (fv i) (fx i) hz3 hz4 hlim hn3 hn4 hm) (ps_cwV ps_gd 3 hts tw_66 k_Val_write e_Val_write ⟨Nat.le_of_ble_eq_true rfl, Nat.le_of_ble_eq_true rfl⟩) hK hP hD [5, 6, 7, 8, 9] (by decide) rfl 0 cVal rfl rfl rfl hl.1 rfl (Nat.le_of_ble_eq_true rfl) d_Mem_write_41 ⟨by show 0 + ps_dc lim n1 m0 + ps_dc lim n2 m0 + 0 + 0 + (ps_dc lim n3 m0 + ps_dc lim n4 m0) ≤ ps_dc lim n1 m0 + ps_dc lim n2 m0 + (ps_dc lim n3 m0 + ps_dc lim n4 m0); omega, by show 0 + ps_ds lim n1 m0 + ps_ds lim n2 m0 + 0 + 0 + (ps_ds lim n3 m0 + ps_ds lim n4 m0) ≤ ps_ds lim n1 m0 + ps_ds lim n2 m0 + (ps_ds lim n3 m0 + ps_ds lim n4 m0); omega⟩) (fun u_9 H locs hu_9 hP hD hS => ?_)
  obtain ⟨q_11, q_12, hu_9⟩ := hu_9
  subst hu_9
  obtain ⟨hP, hD⟩ := ps_perm (ws' := [(h, .inr (cMem, [.ref k1, .ref k2, .ref ho])), (k1, .inr (cCol, [.int (nI lim), .ref q_3])), (q_3, .inl (cI, ps_len lim n1 m0, .inl (upd f1 m0 o))), (k2, .inr (cCol, [.int (nI lim), .ref q_6])), (q_6, .inl (cI, ps_len lim n2 m0, .inl (upd f2 m0 (nI i)))), (ho, .inr (cVal, [.ref k3, .ref k4])), (k3, .inr (cCol, [.int (nI lim), .ref q_11])), (q_11, .inl (cI, ps_len lim n3 m0, .inl (upd f3 m0 (fv i)))), (k4, .inr (cCol, [.int (nI lim), .ref q_12])), (q_12, .inl (cI, ps_len lim n4 m0, .inl (upd f4 m0 (if fv i = 0 then 0 else fx i)))), (hv, .inr (cVal, [.ref kv, .ref xv])), (kv, .inr (cCol, [.int (nI vl), .ref qv])), (qv, .inl (cI, nv, .inl fv)), (xv, .inr (cCol, [.int (nI vl), .ref qx])), (qx, .inl (cI, nx, .inl fx))]) hP hD [0, 1, 2, 3, 4, 10, 11, 12, 13, 14, 5, 6, 7, 8, 9] (by decide) rfl
  exact ps_vret hx hb hr hlocks hK hP hD hS (by show 0 + ps_dc lim n1 m0 + ps_dc lim n2 m0 + 0 + 0 + (ps_dc lim n3 m0 + ps_dc lim n4 m0) ≤ ps_dc lim n1 m0 + ps_dc lim n2 m0 + (ps_dc lim n3 m0 + ps_dc lim n4 m0); omega) (by show 0 + ps_ds lim n1 m0 + ps_ds lim n2 m0 + 0 + 0 + (ps_ds lim n3 m0 + ps_ds lim n4 m0) ≤ ps_ds lim n1 m0 + ps_ds lim n2 m0 + (ps_ds lim n3 m0 + ps_ds lim n4 m0); omega) d_Mem_write_44 (⟨q_3, q_6, q_11, q_12, rfl⟩)
end
section
theorem tw_71 : (.methodLink "PageStore$Column" 1 ⟨"java/lang/Object", "<init>", "()V"⟩ : Cond) ∈ ps_tbl := ps_t1 24 rfl rfl
theorem tw_72 : (.instanceMethod ⟨"java/lang/Object", "<init>", "()V"⟩ : Cond) ∈ ps_tbl := ps_t1 17 rfl rfl
theorem tw_73 : (.code ⟨"java/lang/Object", "<init>", "()V"⟩ ⟨#[0xb1]⟩ 1 none : Cond) ∈ ps_tbl := ps_t1 18 rfl rfl
theorem tw_74 : (.methodLink "PageStore$Values" 3 ⟨"java/lang/Object", "<init>", "()V"⟩ : Cond) ∈ ps_tbl := ps_t1 60 rfl rfl
theorem tw_75 : (.classLink "PageStore$Values" 9 "PageStore$Column" : Cond) ∈ ps_tbl := ps_t1 61 rfl rfl
theorem tw_76 : (.instantiable "PageStore$Column" 2 : Cond) ∈ ps_tbl := ps_t1 20 rfl rfl
theorem tw_77 : (.methodLink "PageStore$Values" 11 ⟨"PageStore$Column", "<init>", "(I)V"⟩ : Cond) ∈ ps_tbl := ps_t1 62 rfl rfl
theorem tw_78 : (.methodLink "PageStore$Rows" 3 ⟨"java/lang/Object", "<init>", "()V"⟩ : Cond) ∈ ps_tbl := ps_t1 38 rfl rfl
theorem tw_79 : (.classLink "PageStore$Rows" 9 "PageStore$Column" : Cond) ∈ ps_tbl := ps_t1 39 rfl rfl
theorem tw_80 : (.methodLink "PageStore$Rows" 11 ⟨"PageStore$Column", "<init>", "(I)V"⟩ : Cond) ∈ ps_tbl := ps_t1 40 rfl rfl
theorem tw_81 : (.methodLink "PageStore$Keys" 3 ⟨"java/lang/Object", "<init>", "()V"⟩ : Cond) ∈ ps_tbl := ps_t1 81 rfl rfl
theorem tw_82 : (.classLink "PageStore$Keys" 9 "PageStore$Column" : Cond) ∈ ps_tbl := ps_t1 82 rfl rfl
theorem tw_83 : (.methodLink "PageStore$Keys" 11 ⟨"PageStore$Column", "<init>", "(I)V"⟩ : Cond) ∈ ps_tbl := ps_t1 83 rfl rfl
theorem tw_84 : (.classLink "PageStore$Keys" 26 "PageStore$Values" : Cond) ∈ ps_tbl := ps_t1 84 rfl rfl
theorem tw_85 : (.instantiable "PageStore$Values" 2 : Cond) ∈ ps_tbl := ps_t1 55 rfl rfl
theorem tw_86 : (.methodLink "PageStore$Keys" 28 ⟨"PageStore$Values", "<init>", "(I)V"⟩ : Cond) ∈ ps_tbl := ps_t1 85 rfl rfl
theorem tw_87 : (.methodLink "PageStore$Memories" 3 ⟨"java/lang/Object", "<init>", "()V"⟩ : Cond) ∈ ps_tbl := ps_t1 107 rfl rfl
theorem tw_88 : (.classLink "PageStore$Memories" 9 "PageStore$Column" : Cond) ∈ ps_tbl := ps_t1 108 rfl rfl
theorem tw_89 : (.constant "PageStore$Memories" 11 40000 : Cond) ∈ ps_tbl := ps_t1 109 rfl rfl
theorem tw_90 : (.methodLink "PageStore$Memories" 12 ⟨"PageStore$Column", "<init>", "(I)V"⟩ : Cond) ∈ ps_tbl := ps_t1 110 rfl rfl
theorem tw_91 : (.classLink "PageStore$Memories" 24 "PageStore$Values" : Cond) ∈ ps_tbl := ps_t1 111 rfl rfl
theorem tw_92 : (.methodLink "PageStore$Memories" 26 ⟨"PageStore$Values", "<init>", "(I)V"⟩ : Cond) ∈ ps_tbl := ps_t1 112 rfl rfl
theorem tw_93 : (.instanceMethod ⟨"PageStore$Column", "<init>", "(I)V"⟩ : Cond) ∈ ps_tbl := ps_t1 22 rfl rfl
theorem tw_94 : (.code ⟨"PageStore$Column", "<init>", "(I)V"⟩ prog_2_method_1_code 2 none : Cond) ∈ ps_tbl := ps_t1 23 rfl rfl
theorem tw_95 : (.instanceMethod ⟨"PageStore$Values", "<init>", "(I)V"⟩ : Cond) ∈ ps_tbl := ps_t1 58 rfl rfl
theorem tw_96 : (.code ⟨"PageStore$Values", "<init>", "(I)V"⟩ prog_6_method_1_code 2 none : Cond) ∈ ps_tbl := ps_t1 59 rfl rfl
theorem k_Col_init : ps_cdI ps_tbl y_Col_init prog_2_method_1_code 2 := ⟨tw_93, tw_39, tw_94⟩
theorem k_Val_init : ps_cdI ps_tbl y_Val_init prog_6_method_1_code 2 := ⟨tw_95, tw_69, tw_96⟩
set_option maxHeartbeats 4000000 in
set_option maxRecDepth 100000 in
/-- Column(lim) -/
theorem c_cinit (l : Launch) (dC : Nat → ClassId) (dI : Nat → Nat → Nat) (cI : ClassId) (tys : List (ClassId × FieldType)) (ht : tys[0]? = some (cI, FieldType.int)) (h lim : Nat) : ps_mV classes l y_Col_init w_Col_init ({ frames := 1, cells := 1, slots := 16, locals := 12 }) (dC, dI) tys [.ref h, .int (nI lim)] ([(h, .inr (cCol, [.int 0, .null]))]) (fun u => ∃ q : Nat, u = pc_W cI h q lim 16 (fun _ => 0)) := by
  refine ps_mV_of (by decide) rfl (Nat.le_of_ble_eq_true rfl) ?_
  intro p e s m below meth c A ls C0 hA hK hP hD hS hl
  obtain ⟨hx, hb, hr, hml, hts, hown, hlocks, hin⟩ := C0
  have hl : lv_has ls 2 [(0, .ref h), (1, .int (nI lim))] := hl
  have hP : va_P (dC, dI) classes [(h, .inr (cCol, [.int 0, .null]))] s.heap := hP
  have hD : va_D A [(h, .inr (cCol, [.int 0, .null]))] := hD
  refine lv_aload_n hx hb d_Col_init_0 rfl (lv_at hl 0 rfl) ?_
  refine W.objInit hx hb hown (hts _ tw_71) (hts _ tw_72) (hts _ tw_73) rfl (by rw [hml]; exact hl.1) rfl d_Col_init_1 (Nat.le_of_ble_eq_true rfl) (Nat.le_of_ble_eq_true rfl) ?_
  refine W.eq (g2 := F0 m 4 ls []) rfl ?_
  refine lv_aload_n hx hb d_Col_init_4 rfl (lv_at hl 0 rfl) ?_
  refine lv_bipush (v := nI 16) hx hb d_Col_init_5 (by decide) ?_
  refine ps_newi hx hb (hts _ tw_1) hK 0 ht hP hD hS hA (N := 16) (by decide) (Nat.le_of_ble_eq_true rfl) (Nat.le_of_ble_eq_true rfl) d_Col_init_7 (fun o_1 H hP hD hS => ?_)
  have hP : va_P (dC, dI) classes [(h, .inr (cCol, [.int 0, .null])), (o_1, .inl (cI, 16, .inl (fun _ => 0)))] H := hP
  have hD : va_D A [(h, .inr (cCol, [.int 0, .null])), (o_1, .inl (cI, 16, .inl (fun _ => 0)))] := hD
  refine va_put (D := (dC, dI)) (ci := cCol) (v := .ref o_1) (ty := .array .int) (C := R_Col) (T := F_Col) (N := 2) hx hb hts i_Col t_Col t_Col_ok n_Col hown hK hP hD hS 0 rfl rfl 1 (by decide) (hts _ tw_10) (fun _ h9 => h9) rfl (by decide +kernel) rfl rfl (Nat.le_of_ble_eq_true rfl) d_Col_init_9 (fun H locs hP hD hS => ?_)
  have hP : va_P (dC, dI) classes [(h, .inr (cCol, [.int 0, .ref o_1])), (o_1, .inl (cI, 16, .inl (fun _ => 0)))] H := hP
  have hD : va_D A [(h, .inr (cCol, [.int 0, .ref o_1])), (o_1, .inl (cI, 16, .inl (fun _ => 0)))] := hD
  refine lv_aload_n hx hb d_Col_init_12 rfl (lv_at hl 0 rfl) ?_
  refine lv_iload_n hx hb d_Col_init_13 rfl (lv_at hl 1 rfl) ?_
  refine va_putF (D := (dC, dI)) (ci := cCol) (v := .int (nI lim)) (ty := .int) (C := R_Col) (T := F_Col) (N := 2) hx hb hts i_Col t_Col t_Col_ok n_Col hown hK hP hD hS 0 rfl rfl 0 (by decide) (hts _ tw_11) (fun _ h9 => h9) rfl hin rfl (by decide +kernel) rfl rfl (Nat.le_of_ble_eq_true rfl) d_Col_init_14 (fun H locs hP hD hS => ?_)
  have hP : va_P (dC, dI) classes [(h, .inr (cCol, [.int (nI lim), .ref o_1])), (o_1, .inl (cI, 16, .inl (fun _ => 0)))] H := hP
  have hD : va_D A [(h, .inr (cCol, [.int (nI lim), .ref o_1])), (o_1, .inl (cI, 16, .inl (fun _ => 0)))] := hD
  exact ps_vret hx hb hr hlocks hK hP hD hS (Nat.le_of_ble_eq_true rfl) (Nat.le_of_ble_eq_true rfl) d_Col_init_17 (⟨o_1, rfl⟩)

set_option maxHeartbeats 4000000 in
set_option maxRecDepth 100000 in
/-- Values(lim) -/
theorem c_vinit (l : Launch) (dC : Nat → ClassId) (dI : Nat → Nat → Nat) (cI : ClassId) (tys : List (ClassId × FieldType)) (ht : tys[0]? = some (cI, FieldType.int)) (h lim : Nat) : ps_mV classes l y_Val_init w_Val_init ({ frames := 2, cells := 4, slots := 36, locals := 33 }) (dC, dI) tys [.ref h, .int (nI lim)] ([(h, .inr (cVal, [.null, .null]))]) (fun u => ∃ k q x y : Nat, u = pv_W cI h k q x y lim 16 16 (fun _ => 0) (fun _ => 0)) := by
  refine ps_mV_of (by decide) rfl (Nat.le_of_ble_eq_true rfl) ?_
  intro p e s m below meth c A ls C0 hA hK hP hD hS hl
  obtain ⟨hx, hb, hr, hml, hts, hown, hlocks, hin⟩ := C0
  have hl : lv_has ls 2 [(0, .ref h), (1, .int (nI lim))] := hl
  have hP : va_P (dC, dI) classes [(h, .inr (cVal, [.null, .null]))] s.heap := hP
  have hD : va_D A [(h, .inr (cVal, [.null, .null]))] := hD
  refine lv_aload_n hx hb d_Val_init_0 rfl (lv_at hl 0 rfl) ?_
  refine W.objInit hx hb hown (hts _ tw_74) (hts _ tw_72) (hts _ tw_73) rfl (by rw [hml]; exact hl.1) rfl d_Val_init_1 (Nat.le_of_ble_eq_true rfl) (Nat.le_of_ble_eq_true rfl) ?_
  refine W.eq (g2 := F0 m 4 ls []) rfl ?_
  refine lv_aload_n hx hb d_Val_init_4 rfl (lv_at hl 0 rfl) ?_
  refine va_new (ci := cCol) (fs := [.int 0, .null]) (C := R_Col) (T := F_Col) (N := 2) hx hb hts i_Col t_Col t_Col_ok hown (hts _ tw_75) (hts _ tw_76) (hts _ tw_39) hK hP hD hS hA rfl z_Col (Nat.le_of_ble_eq_true rfl) (Nat.le_of_ble_eq_true rfl) d_Val_init_5 (fun o_1 H hP hD hS => ?_)
  have hP : va_P (dC, dI) classes [(h, .inr (cVal, [.null, .null])), (o_1, .inr (cCol, [.int 0, .null]))] H := hP
  have hD : va_D A [(h, .inr (cVal, [.null, .null])), (o_1, .inr (cCol, [.int 0, .null]))] := hD
  refine lv_dup hx hb d_Val_init_8 rfl ?_
  refine lv_iload_n hx hb d_Val_init_9 rfl (lv_at hl 1 rfl) ?_
  refine ps_afterV (wc := [(o_1, .inr (cCol, [.int 0, .null]))]) (wr := [0].filterMap (fun z9 => ([(h, .inr (cVal, [.null, .null])), (o_1, .inr (cCol, [.int 0, .null]))] : va_W)[z9]?)) hP hD hS hA [1] [0] rfl rfl (by decide) (by decide) (ps_runIV ⟨hx, hb, hml, hown, hts⟩ (c_cinit l dC dI cI tys ht o_1 lim) (ps_cwI ps_gd 1 hts tw_77 k_Col_init rfl e_Col_init ⟨Nat.le_of_ble_eq_true rfl, Nat.le_of_ble_eq_true rfl⟩) hK hP hD [1] (by decide) rfl rfl hl.1 rfl (Nat.le_of_ble_eq_true rfl) d_Val_init_10 ⟨Nat.le_of_ble_eq_true rfl, Nat.le_of_ble_eq_true rfl⟩) (fun u_2 H locs hu_2 hP hD hS => ?_)
  obtain ⟨q_4, hu_2⟩ := hu_2
  subst hu_2
  obtain ⟨hP, hD⟩ := ps_perm (ws' := [(h, .inr (cVal, [.null, .null])), (o_1, .inr (cCol, [.int (nI lim), .ref q_4])), (q_4, .inl (cI, 16, .inl (fun _ => 0)))]) hP hD [0, 1, 2] (by decide) rfl
  refine va_putF (D := (dC, dI)) (ci := cVal) (v := .ref o_1) (ty := .object "PageStore$Column") (C := R_Val) (T := F_Val) (N := 2) hx hb hts i_Val t_Val t_Val_ok n_Val hown hK hP hD hS 0 rfl rfl 0 (by decide) (hts _ tw_25) (fun _ h9 => h9) rfl hin rfl (by decide +kernel) rfl rfl (Nat.le_of_ble_eq_true rfl) d_Val_init_13 (fun H locs hP hD hS => ?_)
  have hP : va_P (dC, dI) classes [(h, .inr (cVal, [.ref o_1, .null])), (o_1, .inr (cCol, [.int (nI lim), .ref q_4])), (q_4, .inl (cI, 16, .inl (fun _ => 0)))] H := hP
  have hD : va_D A [(h, .inr (cVal, [.ref o_1, .null])), (o_1, .inr (cCol, [.int (nI lim), .ref q_4])), (q_4, .inl (cI, 16, .inl (fun _ => 0)))] := hD
  refine lv_aload_n hx hb d_Val_init_16 rfl (lv_at hl 0 rfl) ?_
  refine va_new (ci := cCol) (fs := [.int 0, .null]) (C := R_Col) (T := F_Col) (N := 2) hx hb hts i_Col t_Col t_Col_ok hown (hts _ tw_75) (hts _ tw_76) (hts _ tw_39) hK hP hD hS hA rfl z_Col (Nat.le_of_ble_eq_true rfl) (Nat.le_of_ble_eq_true rfl) d_Val_init_17 (fun o_5 H hP hD hS => ?_)
  have hP : va_P (dC, dI) classes [(h, .inr (cVal, [.ref o_1, .null])), (o_1, .inr (cCol, [.int (nI lim), .ref q_4])), (q_4, .inl (cI, 16, .inl (fun _ => 0))), (o_5, .inr (cCol, [.int 0, .null]))] H := hP
  have hD : va_D A [(h, .inr (cVal, [.ref o_1, .null])), (o_1, .inr (cCol, [.int (nI lim), .ref q_4])), (q_4, .inl (cI, 16, .inl (fun _ => 0))), (o_5, .inr (cCol, [.int 0, .null]))] := hD
  refine lv_dup hx hb d_Val_init_20 rfl ?_
  refine lv_iload_n hx hb d_Val_init_21 rfl (lv_at hl 1 rfl) ?_
  refine ps_afterV (wc := [(o_5, .inr (cCol, [.int 0, .null]))]) (wr := [0, 1, 2].filterMap (fun z9 => ([(h, .inr (cVal, [.ref o_1, .null])), (o_1, .inr (cCol, [.int (nI lim), .ref q_4])), (q_4, .inl (cI, 16, .inl (fun _ => 0))), (o_5, .inr (cCol, [.int 0, .null]))] : va_W)[z9]?)) hP hD hS hA [3] [0, 1, 2] rfl rfl (by decide) (by decide) (ps_runIV ⟨hx, hb, hml, hown, hts⟩ (c_cinit l dC dI cI tys ht o_5 lim) (ps_cwI ps_gd 1 hts tw_77 k_Col_init rfl e_Col_init ⟨Nat.le_of_ble_eq_true rfl, Nat.le_of_ble_eq_true rfl⟩) hK hP hD [3] (by decide) rfl rfl hl.1 rfl (Nat.le_of_ble_eq_true rfl) d_Val_init_22 ⟨Nat.le_of_ble_eq_true rfl, Nat.le_of_ble_eq_true rfl⟩) (fun u_6 H locs hu_6 hP hD hS => ?_)
  obtain ⟨q_8, hu_6⟩ := hu_6
  subst hu_6
  obtain ⟨hP, hD⟩ := ps_perm (ws' := [(h, .inr (cVal, [.ref o_1, .null])), (o_1, .inr (cCol, [.int (nI lim), .ref q_4])), (q_4, .inl (cI, 16, .inl (fun _ => 0))), (o_5, .inr (cCol, [.int (nI lim), .ref q_8])), (q_8, .inl (cI, 16, .inl (fun _ => 0)))]) hP hD [0, 1, 2, 3, 4] (by decide) rfl
  refine va_putF (D := (dC, dI)) (ci := cVal) (v := .ref o_5) (ty := .object "PageStore$Column") (C := R_Val) (T := F_Val) (N := 2) hx hb hts i_Val t_Val t_Val_ok n_Val hown hK hP hD hS 0 rfl rfl 1 (by decide) (hts _ tw_27) (fun _ h9 => h9) rfl hin rfl (by decide +kernel) rfl rfl (Nat.le_of_ble_eq_true rfl) d_Val_init_25 (fun H locs hP hD hS => ?_)
  have hP : va_P (dC, dI) classes [(h, .inr (cVal, [.ref o_1, .ref o_5])), (o_1, .inr (cCol, [.int (nI lim), .ref q_4])), (q_4, .inl (cI, 16, .inl (fun _ => 0))), (o_5, .inr (cCol, [.int (nI lim), .ref q_8])), (q_8, .inl (cI, 16, .inl (fun _ => 0)))] H := hP
  have hD : va_D A [(h, .inr (cVal, [.ref o_1, .ref o_5])), (o_1, .inr (cCol, [.int (nI lim), .ref q_4])), (q_4, .inl (cI, 16, .inl (fun _ => 0))), (o_5, .inr (cCol, [.int (nI lim), .ref q_8])), (q_8, .inl (cI, 16, .inl (fun _ => 0)))] := hD
  exact ps_vret hx hb hr hlocks hK hP hD hS (Nat.le_of_ble_eq_true rfl) (Nat.le_of_ble_eq_true rfl) d_Val_init_28 (⟨o_1, q_4, o_5, q_8, rfl⟩)

set_option maxHeartbeats 4000000 in
set_option maxRecDepth 100000 in
/-- c_rinit -/
theorem c_rinit (l : Launch) (dC : Nat → ClassId) (dI : Nat → Nat → Nat) (cI : ClassId) (tys : List (ClassId × FieldType)) (ht : tys[0]? = some (cI, FieldType.int)) (h : Nat) : ps_mV classes l y_Row_init w_Row_init ({ frames := 2, cells := 6, slots := 54, locals := 33 }) (dC, dI) tys [.ref h] ([(h, .inr (cRow, [.null, .null, .null]))]) (fun u => ∃ k1 q1 k2 q2 k3 q3 : Nat, u = pr_W cI h k1 q1 k2 q2 k3 q3 16385 16 16 16 (fun _ => 0) (fun _ => 0) (fun _ => 0)) := by
  refine ps_mV_of (by decide) rfl (Nat.le_of_ble_eq_true rfl) ?_
  intro p e s m below meth c A ls C0 hA hK hP hD hS hl
  obtain ⟨hx, hb, hr, hml, hts, hown, hlocks, hin⟩ := C0
  have hl : lv_has ls 1 [(0, .ref h)] := hl
  have hP : va_P (dC, dI) classes [(h, .inr (cRow, [.null, .null, .null]))] s.heap := hP
  have hD : va_D A [(h, .inr (cRow, [.null, .null, .null]))] := hD
  refine lv_aload_n hx hb d_Row_init_0 rfl (lv_at hl 0 rfl) ?_
  refine W.objInit hx hb hown (hts _ tw_78) (hts _ tw_72) (hts _ tw_73) rfl (by rw [hml]; exact hl.1) rfl d_Row_init_1 (Nat.le_of_ble_eq_true rfl) (Nat.le_of_ble_eq_true rfl) ?_
  refine W.eq (g2 := F0 m 4 ls []) rfl ?_
  refine lv_aload_n hx hb d_Row_init_4 rfl (lv_at hl 0 rfl) ?_
  refine va_new (ci := cCol) (fs := [.int 0, .null]) (C := R_Col) (T := F_Col) (N := 2) hx hb hts i_Col t_Col t_Col_ok hown (hts _ tw_79) (hts _ tw_76) (hts _ tw_39) hK hP hD hS hA rfl z_Col (Nat.le_of_ble_eq_true rfl) (Nat.le_of_ble_eq_true rfl) d_Row_init_5 (fun o_1 H hP hD hS => ?_)
  have hP : va_P (dC, dI) classes [(h, .inr (cRow, [.null, .null, .null])), (o_1, .inr (cCol, [.int 0, .null]))] H := hP
  have hD : va_D A [(h, .inr (cRow, [.null, .null, .null])), (o_1, .inr (cCol, [.int 0, .null]))] := hD
  refine lv_dup hx hb d_Row_init_8 rfl ?_
  refine lv_sipush (v := nI 16385) hx hb d_Row_init_9 (by decide) ?_
  refine ps_afterV (wc := [(o_1, .inr (cCol, [.int 0, .null]))]) (wr := [0].filterMap (fun z9 => ([(h, .inr (cRow, [.null, .null, .null])), (o_1, .inr (cCol, [.int 0, .null]))] : va_W)[z9]?)) hP hD hS hA [1] [0] rfl rfl (by decide) (by decide) (ps_runIV ⟨hx, hb, hml, hown, hts⟩ (c_cinit l dC dI cI tys ht o_1 16385) (ps_cwI ps_gd 1 hts tw_80 k_Col_init rfl e_Col_init ⟨Nat.le_of_ble_eq_true rfl, Nat.le_of_ble_eq_true rfl⟩) hK hP hD [1] (by decide) rfl rfl hl.1 rfl (Nat.le_of_ble_eq_true rfl) d_Row_init_12 ⟨Nat.le_of_ble_eq_true rfl, Nat.le_of_ble_eq_true rfl⟩) (fun u_2 H locs hu_2 hP hD hS => ?_)
  obtain ⟨q_4, hu_2⟩ := hu_2
  subst hu_2
  obtain ⟨hP, hD⟩ := ps_perm (ws' := [(h, .inr (cRow, [.null, .null, .null])), (o_1, .inr (cCol, [.int (nI 16385), .ref q_4])), (q_4, .inl (cI, 16, .inl (fun _ => 0)))]) hP hD [0, 1, 2] (by decide) rfl
  refine va_putF (D := (dC, dI)) (ci := cRow) (v := .ref o_1) (ty := .object "PageStore$Column") (C := R_Row) (T := F_Row) (N := 3) hx hb hts i_Row t_Row t_Row_ok n_Row hown hK hP hD hS 0 rfl rfl 0 (by decide) (hts _ tw_29) (fun _ h9 => h9) rfl hin rfl (by decide +kernel) rfl rfl (Nat.le_of_ble_eq_true rfl) d_Row_init_15 (fun H locs hP hD hS => ?_)
  have hP : va_P (dC, dI) classes [(h, .inr (cRow, [.ref o_1, .null, .null])), (o_1, .inr (cCol, [.int (nI 16385), .ref q_4])), (q_4, .inl (cI, 16, .inl (fun _ => 0)))] H := hP
  have hD : va_D A [(h, .inr (cRow, [.ref o_1, .null, .null])), (o_1, .inr (cCol, [.int (nI 16385), .ref q_4])), (q_4, .inl (cI, 16, .inl (fun _ => 0)))] := hD
  refine lv_aload_n hx hb d_Row_init_18 rfl (lv_at hl 0 rfl) ?_
  refine va_new (ci := cCol) (fs := [.int 0, .null]) (C := R_Col) (T := F_Col) (N := 2) hx hb hts i_Col t_Col t_Col_ok hown (hts _ tw_79) (hts _ tw_76) (hts _ tw_39) hK hP hD hS hA rfl z_Col (Nat.le_of_ble_eq_true rfl) (Nat.le_of_ble_eq_true rfl) d_Row_init_19 (fun o_5 H hP hD hS => ?_)
  have hP : va_P (dC, dI) classes [(h, .inr (cRow, [.ref o_1, .null, .null])), (o_1, .inr (cCol, [.int (nI 16385), .ref q_4])), (q_4, .inl (cI, 16, .inl (fun _ => 0))), (o_5, .inr (cCol, [.int 0, .null]))] H := hP
  have hD : va_D A [(h, .inr (cRow, [.ref o_1, .null, .null])), (o_1, .inr (cCol, [.int (nI 16385), .ref q_4])), (q_4, .inl (cI, 16, .inl (fun _ => 0))), (o_5, .inr (cCol, [.int 0, .null]))] := hD
  refine lv_dup hx hb d_Row_init_22 rfl ?_
  refine lv_sipush (v := nI 16385) hx hb d_Row_init_23 (by decide) ?_
  refine ps_afterV (wc := [(o_5, .inr (cCol, [.int 0, .null]))]) (wr := [0, 1, 2].filterMap (fun z9 => ([(h, .inr (cRow, [.ref o_1, .null, .null])), (o_1, .inr (cCol, [.int (nI 16385), .ref q_4])), (q_4, .inl (cI, 16, .inl (fun _ => 0))), (o_5, .inr (cCol, [.int 0, .null]))] : va_W)[z9]?)) hP hD hS hA [3] [0, 1, 2] rfl rfl (by decide) (by decide) (ps_runIV ⟨hx, hb, hml, hown, hts⟩ (c_cinit l dC dI cI tys ht o_5 16385) (ps_cwI ps_gd 1 hts tw_80 k_Col_init rfl e_Col_init ⟨Nat.le_of_ble_eq_true rfl, Nat.le_of_ble_eq_true rfl⟩) hK hP hD [3] (by decide) rfl rfl hl.1 rfl (Nat.le_of_ble_eq_true rfl) d_Row_init_26 ⟨Nat.le_of_ble_eq_true rfl, Nat.le_of_ble_eq_true rfl⟩) (fun u_6 H locs hu_6 hP hD hS => ?_)
  obtain ⟨q_8, hu_6⟩ := hu_6
  subst hu_6
  obtain ⟨hP, hD⟩ := ps_perm (ws' := [(h, .inr (cRow, [.ref o_1, .null, .null])), (o_1, .inr (cCol, [.int (nI 16385), .ref q_4])), (q_4, .inl (cI, 16, .inl (fun _ => 0))), (o_5, .inr (cCol, [.int (nI 16385), .ref q_8])), (q_8, .inl (cI, 16, .inl (fun _ => 0)))]) hP hD [0, 1, 2, 3, 4] (by decide) rfl
  refine va_putF (D := (dC, dI)) (ci := cRow) (v := .ref o_5) (ty := .object "PageStore$Column") (C := R_Row) (T := F_Row) (N := 3) hx hb hts i_Row t_Row t_Row_ok n_Row hown hK hP hD hS 0 rfl rfl 1 (by decide) (hts _ tw_31) (fun _ h9 => h9) rfl hin rfl (by decide +kernel) rfl rfl (Nat.le_of_ble_eq_true rfl) d_Row_init_29 (fun H locs hP hD hS => ?_)
  have hP : va_P (dC, dI) classes [(h, .inr (cRow, [.ref o_1, .ref o_5, .null])), (o_1, .inr (cCol, [.int (nI 16385), .ref q_4])), (q_4, .inl (cI, 16, .inl (fun _ => 0))), (o_5, .inr (cCol, [.int (nI 16385), .ref q_8])), (q_8, .inl (cI, 16, .inl (fun _ => 0)))] H := hP
  have hD : va_D A [(h, .inr (cRow, [.ref o_1, .ref o_5, .null])), (o_1, .inr (cCol, [.int (nI 16385), .ref q_4])), (q_4, .inl (cI, 16, .inl (fun _ => 0))), (o_5, .inr (cCol, [.int (nI 16385), .ref q_8])), (q_8, .inl (cI, 16, .inl (fun _ => 0)))] := hD
  refine lv_aload_n hx hb d_Row_init_32 rfl (lv_at hl 0 rfl) ?_
  refine va_new (ci := cCol) (fs := [.int 0, .null]) (C := R_Col) (T := F_Col) (N := 2) hx hb hts i_Col t_Col t_Col_ok hown (hts _ tw_79) (hts _ tw_76) (hts _ tw_39) hK hP hD hS hA rfl z_Col (Nat.le_of_ble_eq_true rfl) (Nat.le_of_ble_eq_true rfl) d_Row_init_33 (fun o_9 H hP hD hS => ?_)
  have hP : va_P (dC, dI) classes [(h, .inr (cRow, [.ref o_1, .ref o_5, .null])), (o_1, .inr (cCol, [.int (nI 16385), .ref q_4])), (q_4, .inl (cI, 16, .inl (fun _ => 0))), (o_5, .inr (cCol, [.int (nI 16385), .ref q_8])), (q_8, .inl (cI, 16, .inl (fun _ => 0))), (o_9, .inr (cCol, [.int 0, .null]))] H := hP
  have hD : va_D A [(h, .inr (cRow, [.ref o_1, .ref o_5, .null])), (o_1, .inr (cCol, [.int (nI 16385), .ref q_4])), (q_4, .inl (cI, 16, .inl (fun _ => 0))), (o_5, .inr (cCol, [.int (nI 16385), .ref q_8])), (q_8, .inl (cI, 16, .inl (fun _ => 0))), (o_9, .inr (cCol, [.int 0, .null]))] := hD
  refine lv_dup hx hb d_Row_init_36 rfl ?_
  refine lv_sipush (v := nI 16385) hx hb d_Row_init_37 (by decide) ?_
  refine ps_afterV (wc := [(o_9, .inr (cCol, [.int 0, .null]))]) (wr := [0, 1, 2, 3, 4].filterMap (fun z9 => ([(h, .inr (cRow, [.ref o_1, .ref o_5, .null])), (o_1, .inr (cCol, [.int (nI 16385), .ref q_4])), (q_4, .inl (cI, 16, .inl (fun _ => 0))), (o_5, .inr (cCol, [.int (nI 16385), .ref q_8])), (q_8, .inl (cI, 16, .inl (fun _ => 0))), (o_9, .inr (cCol, [.int 0, .null]))] : va_W)[z9]?)) hP hD hS hA [5] [0, 1, 2, 3, 4] rfl rfl (by decide) (by decide) (ps_runIV ⟨hx, hb, hml, hown, hts⟩ (c_cinit l dC dI cI tys ht o_9 16385) (ps_cwI ps_gd 1 hts tw_80 k_Col_init rfl e_Col_init ⟨Nat.le_of_ble_eq_true rfl, Nat.le_of_ble_eq_true rfl⟩) hK hP hD [5] (by decide) rfl rfl hl.1 rfl (Nat.le_of_ble_eq_true rfl) d_Row_init_40 ⟨Nat.le_of_ble_eq_true rfl, Nat.le_of_ble_eq_true rfl⟩) (fun u_10 H locs hu_10 hP hD hS => ?_)
  obtain ⟨q_12, hu_10⟩ := hu_10
  subst hu_10
  obtain ⟨hP, hD⟩ := ps_perm (ws' := [(h, .inr (cRow, [.ref o_1, .ref o_5, .null])), (o_1, .inr (cCol, [.int (nI 16385), .ref q_4])), (q_4, .inl (cI, 16, .inl (fun _ => 0))), (o_5, .inr (cCol, [.int (nI 16385), .ref q_8])), (q_8, .inl (cI, 16, .inl (fun _ => 0))), (o_9, .inr (cCol, [.int (nI 16385), .ref q_12])), (q_12, .inl (cI, 16, .inl (fun _ => 0)))]) hP hD [0, 1, 2, 3, 4, 5, 6] (by decide) rfl
  refine va_putF (D := (dC, dI)) (ci := cRow) (v := .ref o_9) (ty := .object "PageStore$Column") (C := R_Row) (T := F_Row) (N := 3) hx hb hts i_Row t_Row t_Row_ok n_Row hown hK hP hD hS 0 rfl rfl 2 (by decide) (hts _ tw_32) (fun _ h9 => h9) rfl hin rfl (by decide +kernel) rfl rfl (Nat.le_of_ble_eq_true rfl) d_Row_init_43 (fun H locs hP hD hS => ?_)
  have hP : va_P (dC, dI) classes [(h, .inr (cRow, [.ref o_1, .ref o_5, .ref o_9])), (o_1, .inr (cCol, [.int (nI 16385), .ref q_4])), (q_4, .inl (cI, 16, .inl (fun _ => 0))), (o_5, .inr (cCol, [.int (nI 16385), .ref q_8])), (q_8, .inl (cI, 16, .inl (fun _ => 0))), (o_9, .inr (cCol, [.int (nI 16385), .ref q_12])), (q_12, .inl (cI, 16, .inl (fun _ => 0)))] H := hP
  have hD : va_D A [(h, .inr (cRow, [.ref o_1, .ref o_5, .ref o_9])), (o_1, .inr (cCol, [.int (nI 16385), .ref q_4])), (q_4, .inl (cI, 16, .inl (fun _ => 0))), (o_5, .inr (cCol, [.int (nI 16385), .ref q_8])), (q_8, .inl (cI, 16, .inl (fun _ => 0))), (o_9, .inr (cCol, [.int (nI 16385), .ref q_12])), (q_12, .inl (cI, 16, .inl (fun _ => 0)))] := hD
  exact ps_vret hx hb hr hlocks hK hP hD hS (Nat.le_of_ble_eq_true rfl) (Nat.le_of_ble_eq_true rfl) d_Row_init_46 (⟨o_1, q_4, o_5, q_8, o_9, q_12, rfl⟩)

set_option maxHeartbeats 4000000 in
set_option maxRecDepth 100000 in
/-- c_kinit -/
theorem c_kinit (l : Launch) (dC : Nat → ClassId) (dI : Nat → Nat → Nat) (cI : ClassId) (tys : List (ClassId × FieldType)) (ht : tys[0]? = some (cI, FieldType.int)) (h : Nat) : ps_mV classes l y_Key_init w_Key_init ({ frames := 3, cells := 11, slots := 92, locals := 54 }) (dC, dI) tys [.ref h] ([(h, .inr (cKey, [.null, .null, .null, .null]))]) (fun u => ∃ k1 q1 k2 q2 k3 q3 hv k4 q4 k5 q5 : Nat, u = [(h, .inr (cKey, [.ref k1, .ref k2, .ref k3, .ref hv])), (k1, .inr (cCol, [.int (nI 16384), .ref q1])), (q1, .inl (cI, 16, .inl (fun _ => 0))), (k2, .inr (cCol, [.int (nI 16384), .ref q2])), (q2, .inl (cI, 16, .inl (fun _ => 0))), (k3, .inr (cCol, [.int (nI 16384), .ref q3])), (q3, .inl (cI, 16, .inl (fun _ => 0))), (hv, .inr (cVal, [.ref k4, .ref k5])), (k4, .inr (cCol, [.int (nI 16384), .ref q4])), (q4, .inl (cI, 16, .inl (fun _ => 0))), (k5, .inr (cCol, [.int (nI 16384), .ref q5])), (q5, .inl (cI, 16, .inl (fun _ => 0)))]) := by
  refine ps_mV_of (by decide) rfl (Nat.le_of_ble_eq_true rfl) ?_
  intro p e s m below meth c A ls C0 hA hK hP hD hS hl
  obtain ⟨hx, hb, hr, hml, hts, hown, hlocks, hin⟩ := C0
  have hl : lv_has ls 1 [(0, .ref h)] := hl
  have hP : va_P (dC, dI) classes [(h, .inr (cKey, [.null, .null, .null, .null]))] s.heap := hP
  have hD : va_D A [(h, .inr (cKey, [.null, .null, .null, .null]))] := hD
  refine lv_aload_n hx hb d_Key_init_0 rfl (lv_at hl 0 rfl) ?_
  refine W.objInit hx hb hown (hts _ tw_81) (hts _ tw_72) (hts _ tw_73) rfl (by rw [hml]; exact hl.1) rfl d_Key_init_1 (Nat.le_of_ble_eq_true rfl) (Nat.le_of_ble_eq_true rfl) ?_
  refine W.eq (g2 := F0 m 4 ls []) rfl ?_
  refine lv_aload_n hx hb d_Key_init_4 rfl (lv_at hl 0 rfl) ?_
  refine va_new (ci := cCol) (fs := [.int 0, .null]) (C := R_Col) (T := F_Col) (N := 2) hx hb hts i_Col t_Col t_Col_ok hown (hts _ tw_82) (hts _ tw_76) (hts _ tw_39) hK hP hD hS hA rfl z_Col (Nat.le_of_ble_eq_true rfl) (Nat.le_of_ble_eq_true rfl) d_Key_init_5 (fun o_1 H hP hD hS => ?_)
  have hP : va_P (dC, dI) classes [(h, .inr (cKey, [.null, .null, .null, .null])), (o_1, .inr (cCol, [.int 0, .null]))] H := hP
  have hD : va_D A [(h, .inr (cKey, [.null, .null, .null, .null])), (o_1, .inr (cCol, [.int 0, .null]))] := hD
  refine lv_dup hx hb d_Key_init_8 rfl ?_
  refine lv_sipush (v := nI 16384) hx hb d_Key_init_9 (by decide) ?_
  refine ps_afterV (wc := [(o_1, .inr (cCol, [.int 0, .null]))]) (wr := [0].filterMap (fun z9 => ([(h, .inr (cKey, [.null, .null, .null, .null])), (o_1, .inr (cCol, [.int 0, .null]))] : va_W)[z9]?)) hP hD hS hA [1] [0] rfl rfl (by decide) (by decide) (ps_runIV ⟨hx, hb, hml, hown, hts⟩ (c_cinit l dC dI cI tys ht o_1 16384) (ps_cwI ps_gd 1 hts tw_83 k_Col_init rfl e_Col_init ⟨Nat.le_of_ble_eq_true rfl, Nat.le_of_ble_eq_true rfl⟩) hK hP hD [1] (by decide) rfl rfl hl.1 rfl (Nat.le_of_ble_eq_true rfl) d_Key_init_12 ⟨Nat.le_of_ble_eq_true rfl, Nat.le_of_ble_eq_true rfl⟩) (fun u_2 H locs hu_2 hP hD hS => ?_)
  obtain ⟨q_4, hu_2⟩ := hu_2
  subst hu_2
  obtain ⟨hP, hD⟩ := ps_perm (ws' := [(h, .inr (cKey, [.null, .null, .null, .null])), (o_1, .inr (cCol, [.int (nI 16384), .ref q_4])), (q_4, .inl (cI, 16, .inl (fun _ => 0)))]) hP hD [0, 1, 2] (by decide) rfl
  refine va_putF (D := (dC, dI)) (ci := cKey) (v := .ref o_1) (ty := .object "PageStore$Column") (C := R_Key) (T := F_Key) (N := 4) hx hb hts i_Key t_Key t_Key_ok n_Key hown hK hP hD hS 0 rfl rfl 0 (by decide) (hts _ tw_33) (fun _ h9 => h9) rfl hin rfl (by decide +kernel) rfl rfl (Nat.le_of_ble_eq_true rfl) d_Key_init_15 (fun H locs hP hD hS => ?_)
  have hP : va_P (dC, dI) classes [(h, .inr (cKey, [.ref o_1, .null, .null, .null])), (o_1, .inr (cCol, [.int (nI 16384), .ref q_4])), (q_4, .inl (cI, 16, .inl (fun _ => 0)))] H := hP
  have hD : va_D A [(h, .inr (cKey, [.ref o_1, .null, .null, .null])), (o_1, .inr (cCol, [.int (nI 16384), .ref q_4])), (q_4, .inl (cI, 16, .inl (fun _ => 0)))] := hD
  refine lv_aload_n hx hb d_Key_init_18 rfl (lv_at hl 0 rfl) ?_
  refine va_new (ci := cCol) (fs := [.int 0, .null]) (C := R_Col) (T := F_Col) (N := 2) hx hb hts i_Col t_Col t_Col_ok hown (hts _ tw_82) (hts _ tw_76) (hts _ tw_39) hK hP hD hS hA rfl z_Col (Nat.le_of_ble_eq_true rfl) (Nat.le_of_ble_eq_true rfl) d_Key_init_19 (fun o_5 H hP hD hS => ?_)
  have hP : va_P (dC, dI) classes [(h, .inr (cKey, [.ref o_1, .null, .null, .null])), (o_1, .inr (cCol, [.int (nI 16384), .ref q_4])), (q_4, .inl (cI, 16, .inl (fun _ => 0))), (o_5, .inr (cCol, [.int 0, .null]))] H := hP
  have hD : va_D A [(h, .inr (cKey, [.ref o_1, .null, .null, .null])), (o_1, .inr (cCol, [.int (nI 16384), .ref q_4])), (q_4, .inl (cI, 16, .inl (fun _ => 0))), (o_5, .inr (cCol, [.int 0, .null]))] := hD
  refine lv_dup hx hb d_Key_init_22 rfl ?_
  refine lv_sipush (v := nI 16384) hx hb d_Key_init_23 (by decide) ?_
  refine ps_afterV (wc := [(o_5, .inr (cCol, [.int 0, .null]))]) (wr := [0, 1, 2].filterMap (fun z9 => ([(h, .inr (cKey, [.ref o_1, .null, .null, .null])), (o_1, .inr (cCol, [.int (nI 16384), .ref q_4])), (q_4, .inl (cI, 16, .inl (fun _ => 0))), (o_5, .inr (cCol, [.int 0, .null]))] : va_W)[z9]?)) hP hD hS hA [3] [0, 1, 2] rfl rfl (by decide) (by decide) (ps_runIV ⟨hx, hb, hml, hown, hts⟩ (c_cinit l dC dI cI tys ht o_5 16384) (ps_cwI ps_gd 1 hts tw_83 k_Col_init rfl e_Col_init ⟨Nat.le_of_ble_eq_true rfl, Nat.le_of_ble_eq_true rfl⟩) hK hP hD [3] (by decide) rfl rfl hl.1 rfl (Nat.le_of_ble_eq_true rfl) d_Key_init_26 ⟨Nat.le_of_ble_eq_true rfl, Nat.le_of_ble_eq_true rfl⟩) (fun u_6 H locs hu_6 hP hD hS => ?_)
  obtain ⟨q_8, hu_6⟩ := hu_6
  subst hu_6
  obtain ⟨hP, hD⟩ := ps_perm (ws' := [(h, .inr (cKey, [.ref o_1, .null, .null, .null])), (o_1, .inr (cCol, [.int (nI 16384), .ref q_4])), (q_4, .inl (cI, 16, .inl (fun _ => 0))), (o_5, .inr (cCol, [.int (nI 16384), .ref q_8])), (q_8, .inl (cI, 16, .inl (fun _ => 0)))]) hP hD [0, 1, 2, 3, 4] (by decide) rfl
  refine va_putF (D := (dC, dI)) (ci := cKey) (v := .ref o_5) (ty := .object "PageStore$Column") (C := R_Key) (T := F_Key) (N := 4) hx hb hts i_Key t_Key t_Key_ok n_Key hown hK hP hD hS 0 rfl rfl 1 (by decide) (hts _ tw_35) (fun _ h9 => h9) rfl hin rfl (by decide +kernel) rfl rfl (Nat.le_of_ble_eq_true rfl) d_Key_init_29 (fun H locs hP hD hS => ?_)
  have hP : va_P (dC, dI) classes [(h, .inr (cKey, [.ref o_1, .ref o_5, .null, .null])), (o_1, .inr (cCol, [.int (nI 16384), .ref q_4])), (q_4, .inl (cI, 16, .inl (fun _ => 0))), (o_5, .inr (cCol, [.int (nI 16384), .ref q_8])), (q_8, .inl (cI, 16, .inl (fun _ => 0)))] H := hP
  have hD : va_D A [(h, .inr (cKey, [.ref o_1, .ref o_5, .null, .null])), (o_1, .inr (cCol, [.int (nI 16384), .ref q_4])), (q_4, .inl (cI, 16, .inl (fun _ => 0))), (o_5, .inr (cCol, [.int (nI 16384), .ref q_8])), (q_8, .inl (cI, 16, .inl (fun _ => 0)))] := hD
  refine lv_aload_n hx hb d_Key_init_32 rfl (lv_at hl 0 rfl) ?_
  refine va_new (ci := cCol) (fs := [.int 0, .null]) (C := R_Col) (T := F_Col) (N := 2) hx hb hts i_Col t_Col t_Col_ok hown (hts _ tw_82) (hts _ tw_76) (hts _ tw_39) hK hP hD hS hA rfl z_Col (Nat.le_of_ble_eq_true rfl) (Nat.le_of_ble_eq_true rfl) d_Key_init_33 (fun o_9 H hP hD hS => ?_)
  have hP : va_P (dC, dI) classes [(h, .inr (cKey, [.ref o_1, .ref o_5, .null, .null])), (o_1, .inr (cCol, [.int (nI 16384), .ref q_4])), (q_4, .inl (cI, 16, .inl (fun _ => 0))), (o_5, .inr (cCol, [.int (nI 16384), .ref q_8])), (q_8, .inl (cI, 16, .inl (fun _ => 0))), (o_9, .inr (cCol, [.int 0, .null]))] H := hP
  have hD : va_D A [(h, .inr (cKey, [.ref o_1, .ref o_5, .null, .null])), (o_1, .inr (cCol, [.int (nI 16384), .ref q_4])), (q_4, .inl (cI, 16, .inl (fun _ => 0))), (o_5, .inr (cCol, [.int (nI 16384), .ref q_8])), (q_8, .inl (cI, 16, .inl (fun _ => 0))), (o_9, .inr (cCol, [.int 0, .null]))] := hD
  refine lv_dup hx hb d_Key_init_36 rfl ?_
  refine lv_sipush (v := nI 16384) hx hb d_Key_init_37 (by decide) ?_
  refine ps_afterV (wc := [(o_9, .inr (cCol, [.int 0, .null]))]) (wr := [0, 1, 2, 3, 4].filterMap (fun z9 => ([(h, .inr (cKey, [.ref o_1, .ref o_5, .null, .null])), (o_1, .inr (cCol, [.int (nI 16384), .ref q_4])), (q_4, .inl (cI, 16, .inl (fun _ => 0))), (o_5, .inr (cCol, [.int (nI 16384), .ref q_8])), (q_8, .inl (cI, 16, .inl (fun _ => 0))), (o_9, .inr (cCol, [.int 0, .null]))] : va_W)[z9]?)) hP hD hS hA [5] [0, 1, 2, 3, 4] rfl rfl (by decide) (by decide) (ps_runIV ⟨hx, hb, hml, hown, hts⟩ (c_cinit l dC dI cI tys ht o_9 16384) (ps_cwI ps_gd 1 hts tw_83 k_Col_init rfl e_Col_init ⟨Nat.le_of_ble_eq_true rfl, Nat.le_of_ble_eq_true rfl⟩) hK hP hD [5] (by decide) rfl rfl hl.1 rfl (Nat.le_of_ble_eq_true rfl) d_Key_init_40 ⟨Nat.le_of_ble_eq_true rfl, Nat.le_of_ble_eq_true rfl⟩) (fun u_10 H locs hu_10 hP hD hS => ?_)
  obtain ⟨q_12, hu_10⟩ := hu_10
  subst hu_10
  obtain ⟨hP, hD⟩ := ps_perm (ws' := [(h, .inr (cKey, [.ref o_1, .ref o_5, .null, .null])), (o_1, .inr (cCol, [.int (nI 16384), .ref q_4])), (q_4, .inl (cI, 16, .inl (fun _ => 0))), (o_5, .inr (cCol, [.int (nI 16384), .ref q_8])), (q_8, .inl (cI, 16, .inl (fun _ => 0))), (o_9, .inr (cCol, [.int (nI 16384), .ref q_12])), (q_12, .inl (cI, 16, .inl (fun _ => 0)))]) hP hD [0, 1, 2, 3, 4, 5, 6] (by decide) rfl
  refine va_putF (D := (dC, dI)) (ci := cKey) (v := .ref o_9) (ty := .object "PageStore$Column") (C := R_Key) (T := F_Key) (N := 4) hx hb hts i_Key t_Key t_Key_ok n_Key hown hK hP hD hS 0 rfl rfl 2 (by decide) (hts _ tw_36) (fun _ h9 => h9) rfl hin rfl (by decide +kernel) rfl rfl (Nat.le_of_ble_eq_true rfl) d_Key_init_43 (fun H locs hP hD hS => ?_)
  have hP : va_P (dC, dI) classes [(h, .inr (cKey, [.ref o_1, .ref o_5, .ref o_9, .null])), (o_1, .inr (cCol, [.int (nI 16384), .ref q_4])), (q_4, .inl (cI, 16, .inl (fun _ => 0))), (o_5, .inr (cCol, [.int (nI 16384), .ref q_8])), (q_8, .inl (cI, 16, .inl (fun _ => 0))), (o_9, .inr (cCol, [.int (nI 16384), .ref q_12])), (q_12, .inl (cI, 16, .inl (fun _ => 0)))] H := hP
  have hD : va_D A [(h, .inr (cKey, [.ref o_1, .ref o_5, .ref o_9, .null])), (o_1, .inr (cCol, [.int (nI 16384), .ref q_4])), (q_4, .inl (cI, 16, .inl (fun _ => 0))), (o_5, .inr (cCol, [.int (nI 16384), .ref q_8])), (q_8, .inl (cI, 16, .inl (fun _ => 0))), (o_9, .inr (cCol, [.int (nI 16384), .ref q_12])), (q_12, .inl (cI, 16, .inl (fun _ => 0)))] := hD
  refine lv_aload_n hx hb d_Key_init_46 rfl (lv_at hl 0 rfl) ?_
  refine va_new (ci := cVal) (fs := [.null, .null]) (C := R_Val) (T := F_Val) (N := 2) hx hb hts i_Val t_Val t_Val_ok hown (hts _ tw_84) (hts _ tw_85) (hts _ tw_69) hK hP hD hS hA rfl z_Val (Nat.le_of_ble_eq_true rfl) (Nat.le_of_ble_eq_true rfl) d_Key_init_47 (fun o_13 H hP hD hS => ?_)
  have hP : va_P (dC, dI) classes [(h, .inr (cKey, [.ref o_1, .ref o_5, .ref o_9, .null])), (o_1, .inr (cCol, [.int (nI 16384), .ref q_4])), (q_4, .inl (cI, 16, .inl (fun _ => 0))), (o_5, .inr (cCol, [.int (nI 16384), .ref q_8])), (q_8, .inl (cI, 16, .inl (fun _ => 0))), (o_9, .inr (cCol, [.int (nI 16384), .ref q_12])), (q_12, .inl (cI, 16, .inl (fun _ => 0))), (o_13, .inr (cVal, [.null, .null]))] H := hP
  have hD : va_D A [(h, .inr (cKey, [.ref o_1, .ref o_5, .ref o_9, .null])), (o_1, .inr (cCol, [.int (nI 16384), .ref q_4])), (q_4, .inl (cI, 16, .inl (fun _ => 0))), (o_5, .inr (cCol, [.int (nI 16384), .ref q_8])), (q_8, .inl (cI, 16, .inl (fun _ => 0))), (o_9, .inr (cCol, [.int (nI 16384), .ref q_12])), (q_12, .inl (cI, 16, .inl (fun _ => 0))), (o_13, .inr (cVal, [.null, .null]))] := hD
  refine lv_dup hx hb d_Key_init_50 rfl ?_
  refine lv_sipush (v := nI 16384) hx hb d_Key_init_51 (by decide) ?_
  refine ps_afterV (wc := [(o_13, .inr (cVal, [.null, .null]))]) (wr := [0, 1, 2, 3, 4, 5, 6].filterMap (fun z9 => ([(h, .inr (cKey, [.ref o_1, .ref o_5, .ref o_9, .null])), (o_1, .inr (cCol, [.int (nI 16384), .ref q_4])), (q_4, .inl (cI, 16, .inl (fun _ => 0))), (o_5, .inr (cCol, [.int (nI 16384), .ref q_8])), (q_8, .inl (cI, 16, .inl (fun _ => 0))), (o_9, .inr (cCol, [.int (nI 16384), .ref q_12])), (q_12, .inl (cI, 16, .inl (fun _ => 0))), (o_13, .inr (cVal, [.null, .null]))] : va_W)[z9]?)) hP hD hS hA [7] [0, 1, 2, 3, 4, 5, 6] rfl rfl (by decide) (by decide) (ps_runIV ⟨hx, hb, hml, hown, hts⟩ (c_vinit l dC dI cI tys ht o_13 16384) (ps_cwI ps_gd 1 hts tw_86 k_Val_init rfl e_Val_init ⟨Nat.le_of_ble_eq_true rfl, Nat.le_of_ble_eq_true rfl⟩) hK hP hD [7] (by decide) rfl rfl hl.1 rfl (Nat.le_of_ble_eq_true rfl) d_Key_init_54 ⟨Nat.le_of_ble_eq_true rfl, Nat.le_of_ble_eq_true rfl⟩) (fun u_14 H locs hu_14 hP hD hS => ?_)
  obtain ⟨q_16, q_17, q_18, q_19, hu_14⟩ := hu_14
  subst hu_14
  obtain ⟨hP, hD⟩ := ps_perm (ws' := [(h, .inr (cKey, [.ref o_1, .ref o_5, .ref o_9, .null])), (o_1, .inr (cCol, [.int (nI 16384), .ref q_4])), (q_4, .inl (cI, 16, .inl (fun _ => 0))), (o_5, .inr (cCol, [.int (nI 16384), .ref q_8])), (q_8, .inl (cI, 16, .inl (fun _ => 0))), (o_9, .inr (cCol, [.int (nI 16384), .ref q_12])), (q_12, .inl (cI, 16, .inl (fun _ => 0))), (o_13, .inr (cVal, [.ref q_16, .ref q_18])), (q_16, .inr (cCol, [.int (nI 16384), .ref q_17])), (q_17, .inl (cI, 16, .inl (fun _ => 0))), (q_18, .inr (cCol, [.int (nI 16384), .ref q_19])), (q_19, .inl (cI, 16, .inl (fun _ => 0)))]) hP hD [0, 1, 2, 3, 4, 5, 6, 7, 8, 9, 10, 11] (by decide) rfl
  refine va_putF (D := (dC, dI)) (ci := cKey) (v := .ref o_13) (ty := .object "PageStore$Values") (C := R_Key) (T := F_Key) (N := 4) hx hb hts i_Key t_Key t_Key_ok n_Key hown hK hP hD hS 0 rfl rfl 3 (by decide) (hts _ tw_45) (fun _ h9 => h9) rfl hin rfl (by decide +kernel) rfl rfl (Nat.le_of_ble_eq_true rfl) d_Key_init_57 (fun H locs hP hD hS => ?_)
  have hP : va_P (dC, dI) classes [(h, .inr (cKey, [.ref o_1, .ref o_5, .ref o_9, .ref o_13])), (o_1, .inr (cCol, [.int (nI 16384), .ref q_4])), (q_4, .inl (cI, 16, .inl (fun _ => 0))), (o_5, .inr (cCol, [.int (nI 16384), .ref q_8])), (q_8, .inl (cI, 16, .inl (fun _ => 0))), (o_9, .inr (cCol, [.int (nI 16384), .ref q_12])), (q_12, .inl (cI, 16, .inl (fun _ => 0))), (o_13, .inr (cVal, [.ref q_16, .ref q_18])), (q_16, .inr (cCol, [.int (nI 16384), .ref q_17])), (q_17, .inl (cI, 16, .inl (fun _ => 0))), (q_18, .inr (cCol, [.int (nI 16384), .ref q_19])), (q_19, .inl (cI, 16, .inl (fun _ => 0)))] H := hP
  have hD : va_D A [(h, .inr (cKey, [.ref o_1, .ref o_5, .ref o_9, .ref o_13])), (o_1, .inr (cCol, [.int (nI 16384), .ref q_4])), (q_4, .inl (cI, 16, .inl (fun _ => 0))), (o_5, .inr (cCol, [.int (nI 16384), .ref q_8])), (q_8, .inl (cI, 16, .inl (fun _ => 0))), (o_9, .inr (cCol, [.int (nI 16384), .ref q_12])), (q_12, .inl (cI, 16, .inl (fun _ => 0))), (o_13, .inr (cVal, [.ref q_16, .ref q_18])), (q_16, .inr (cCol, [.int (nI 16384), .ref q_17])), (q_17, .inl (cI, 16, .inl (fun _ => 0))), (q_18, .inr (cCol, [.int (nI 16384), .ref q_19])), (q_19, .inl (cI, 16, .inl (fun _ => 0)))] := hD
  exact ps_vret hx hb hr hlocks hK hP hD hS (Nat.le_of_ble_eq_true rfl) (Nat.le_of_ble_eq_true rfl) d_Key_init_60 (⟨o_1, q_4, o_5, q_8, o_9, q_12, o_13, q_16, q_17, q_18, q_19, rfl⟩)

set_option maxHeartbeats 4000000 in
set_option maxRecDepth 100000 in
/-- c_minit -/
theorem c_minit (l : Launch) (dC : Nat → ClassId) (dI : Nat → Nat → Nat) (cI : ClassId) (tys : List (ClassId × FieldType)) (ht : tys[0]? = some (cI, FieldType.int)) (h : Nat) : ps_mV classes l y_Mem_init w_Mem_init ({ frames := 3, cells := 9, slots := 74, locals := 54 }) (dC, dI) tys [.ref h] ([(h, .inr (cMem, [.null, .null, .null]))]) (fun u => ∃ k1 q1 k2 q2 ho k3 q3 k4 q4 : Nat, u = [(h, .inr (cMem, [.ref k1, .ref k2, .ref ho])), (k1, .inr (cCol, [.int (nI 40000), .ref q1])), (q1, .inl (cI, 16, .inl (fun _ => 0))), (k2, .inr (cCol, [.int (nI 40000), .ref q2])), (q2, .inl (cI, 16, .inl (fun _ => 0))), (ho, .inr (cVal, [.ref k3, .ref k4])), (k3, .inr (cCol, [.int (nI 40000), .ref q3])), (q3, .inl (cI, 16, .inl (fun _ => 0))), (k4, .inr (cCol, [.int (nI 40000), .ref q4])), (q4, .inl (cI, 16, .inl (fun _ => 0)))]) := by
  refine ps_mV_of (by decide) rfl (Nat.le_of_ble_eq_true rfl) ?_
  intro p e s m below meth c A ls C0 hA hK hP hD hS hl
  obtain ⟨hx, hb, hr, hml, hts, hown, hlocks, hin⟩ := C0
  have hl : lv_has ls 1 [(0, .ref h)] := hl
  have hP : va_P (dC, dI) classes [(h, .inr (cMem, [.null, .null, .null]))] s.heap := hP
  have hD : va_D A [(h, .inr (cMem, [.null, .null, .null]))] := hD
  refine lv_aload_n hx hb d_Mem_init_0 rfl (lv_at hl 0 rfl) ?_
  refine W.objInit hx hb hown (hts _ tw_87) (hts _ tw_72) (hts _ tw_73) rfl (by rw [hml]; exact hl.1) rfl d_Mem_init_1 (Nat.le_of_ble_eq_true rfl) (Nat.le_of_ble_eq_true rfl) ?_
  refine W.eq (g2 := F0 m 4 ls []) rfl ?_
  refine lv_aload_n hx hb d_Mem_init_4 rfl (lv_at hl 0 rfl) ?_
  refine va_new (ci := cCol) (fs := [.int 0, .null]) (C := R_Col) (T := F_Col) (N := 2) hx hb hts i_Col t_Col t_Col_ok hown (hts _ tw_88) (hts _ tw_76) (hts _ tw_39) hK hP hD hS hA rfl z_Col (Nat.le_of_ble_eq_true rfl) (Nat.le_of_ble_eq_true rfl) d_Mem_init_5 (fun o_1 H hP hD hS => ?_)
  have hP : va_P (dC, dI) classes [(h, .inr (cMem, [.null, .null, .null])), (o_1, .inr (cCol, [.int 0, .null]))] H := hP
  have hD : va_D A [(h, .inr (cMem, [.null, .null, .null])), (o_1, .inr (cCol, [.int 0, .null]))] := hD
  refine lv_dup hx hb d_Mem_init_8 rfl ?_
  refine lv_ldc (v := 40000) hx hb hown (hts _ tw_89) d_Mem_init_9 ?_
  refine ps_top (z := nI 40000) (by decide) ?_
  refine ps_afterV (wc := [(o_1, .inr (cCol, [.int 0, .null]))]) (wr := [0].filterMap (fun z9 => ([(h, .inr (cMem, [.null, .null, .null])), (o_1, .inr (cCol, [.int 0, .null]))] : va_W)[z9]?)) hP hD hS hA [1] [0] rfl rfl (by decide) (by decide) (ps_runIV ⟨hx, hb, hml, hown, hts⟩ (c_cinit l dC dI cI tys ht o_1 40000) (ps_cwI ps_gd 1 hts tw_90 k_Col_init rfl e_Col_init ⟨Nat.le_of_ble_eq_true rfl, Nat.le_of_ble_eq_true rfl⟩) hK hP hD [1] (by decide) rfl rfl hl.1 rfl (Nat.le_of_ble_eq_true rfl) d_Mem_init_11 ⟨Nat.le_of_ble_eq_true rfl, Nat.le_of_ble_eq_true rfl⟩) (fun u_2 H locs hu_2 hP hD hS => ?_)
  obtain ⟨q_4, hu_2⟩ := hu_2
  subst hu_2
  obtain ⟨hP, hD⟩ := ps_perm (ws' := [(h, .inr (cMem, [.null, .null, .null])), (o_1, .inr (cCol, [.int (nI 40000), .ref q_4])), (q_4, .inl (cI, 16, .inl (fun _ => 0)))]) hP hD [0, 1, 2] (by decide) rfl
  refine va_putF (D := (dC, dI)) (ci := cMem) (v := .ref o_1) (ty := .object "PageStore$Column") (C := R_Mem) (T := F_Mem) (N := 3) hx hb hts i_Mem t_Mem t_Mem_ok n_Mem hown hK hP hD hS 0 rfl rfl 0 (by decide) (hts _ tw_61) (fun _ h9 => h9) rfl hin rfl (by decide +kernel) rfl rfl (Nat.le_of_ble_eq_true rfl) d_Mem_init_14 (fun H locs hP hD hS => ?_)
  have hP : va_P (dC, dI) classes [(h, .inr (cMem, [.ref o_1, .null, .null])), (o_1, .inr (cCol, [.int (nI 40000), .ref q_4])), (q_4, .inl (cI, 16, .inl (fun _ => 0)))] H := hP
  have hD : va_D A [(h, .inr (cMem, [.ref o_1, .null, .null])), (o_1, .inr (cCol, [.int (nI 40000), .ref q_4])), (q_4, .inl (cI, 16, .inl (fun _ => 0)))] := hD
  refine lv_aload_n hx hb d_Mem_init_17 rfl (lv_at hl 0 rfl) ?_
  refine va_new (ci := cCol) (fs := [.int 0, .null]) (C := R_Col) (T := F_Col) (N := 2) hx hb hts i_Col t_Col t_Col_ok hown (hts _ tw_88) (hts _ tw_76) (hts _ tw_39) hK hP hD hS hA rfl z_Col (Nat.le_of_ble_eq_true rfl) (Nat.le_of_ble_eq_true rfl) d_Mem_init_18 (fun o_5 H hP hD hS => ?_)
  have hP : va_P (dC, dI) classes [(h, .inr (cMem, [.ref o_1, .null, .null])), (o_1, .inr (cCol, [.int (nI 40000), .ref q_4])), (q_4, .inl (cI, 16, .inl (fun _ => 0))), (o_5, .inr (cCol, [.int 0, .null]))] H := hP
  have hD : va_D A [(h, .inr (cMem, [.ref o_1, .null, .null])), (o_1, .inr (cCol, [.int (nI 40000), .ref q_4])), (q_4, .inl (cI, 16, .inl (fun _ => 0))), (o_5, .inr (cCol, [.int 0, .null]))] := hD
  refine lv_dup hx hb d_Mem_init_21 rfl ?_
  refine lv_ldc (v := 40000) hx hb hown (hts _ tw_89) d_Mem_init_22 ?_
  refine ps_top (z := nI 40000) (by decide) ?_
  refine ps_afterV (wc := [(o_5, .inr (cCol, [.int 0, .null]))]) (wr := [0, 1, 2].filterMap (fun z9 => ([(h, .inr (cMem, [.ref o_1, .null, .null])), (o_1, .inr (cCol, [.int (nI 40000), .ref q_4])), (q_4, .inl (cI, 16, .inl (fun _ => 0))), (o_5, .inr (cCol, [.int 0, .null]))] : va_W)[z9]?)) hP hD hS hA [3] [0, 1, 2] rfl rfl (by decide) (by decide) (ps_runIV ⟨hx, hb, hml, hown, hts⟩ (c_cinit l dC dI cI tys ht o_5 40000) (ps_cwI ps_gd 1 hts tw_90 k_Col_init rfl e_Col_init ⟨Nat.le_of_ble_eq_true rfl, Nat.le_of_ble_eq_true rfl⟩) hK hP hD [3] (by decide) rfl rfl hl.1 rfl (Nat.le_of_ble_eq_true rfl) d_Mem_init_24 ⟨Nat.le_of_ble_eq_true rfl, Nat.le_of_ble_eq_true rfl⟩) (fun u_6 H locs hu_6 hP hD hS => ?_)
  obtain ⟨q_8, hu_6⟩ := hu_6
  subst hu_6
  obtain ⟨hP, hD⟩ := ps_perm (ws' := [(h, .inr (cMem, [.ref o_1, .null, .null])), (o_1, .inr (cCol, [.int (nI 40000), .ref q_4])), (q_4, .inl (cI, 16, .inl (fun _ => 0))), (o_5, .inr (cCol, [.int (nI 40000), .ref q_8])), (q_8, .inl (cI, 16, .inl (fun _ => 0)))]) hP hD [0, 1, 2, 3, 4] (by decide) rfl
  refine va_putF (D := (dC, dI)) (ci := cMem) (v := .ref o_5) (ty := .object "PageStore$Column") (C := R_Mem) (T := F_Mem) (N := 3) hx hb hts i_Mem t_Mem t_Mem_ok n_Mem hown hK hP hD hS 0 rfl rfl 1 (by decide) (hts _ tw_59) (fun _ h9 => h9) rfl hin rfl (by decide +kernel) rfl rfl (Nat.le_of_ble_eq_true rfl) d_Mem_init_27 (fun H locs hP hD hS => ?_)
  have hP : va_P (dC, dI) classes [(h, .inr (cMem, [.ref o_1, .ref o_5, .null])), (o_1, .inr (cCol, [.int (nI 40000), .ref q_4])), (q_4, .inl (cI, 16, .inl (fun _ => 0))), (o_5, .inr (cCol, [.int (nI 40000), .ref q_8])), (q_8, .inl (cI, 16, .inl (fun _ => 0)))] H := hP
  have hD : va_D A [(h, .inr (cMem, [.ref o_1, .ref o_5, .null])), (o_1, .inr (cCol, [.int (nI 40000), .ref q_4])), (q_4, .inl (cI, 16, .inl (fun _ => 0))), (o_5, .inr (cCol, [.int (nI 40000), .ref q_8])), (q_8, .inl (cI, 16, .inl (fun _ => 0)))] := hD
  refine lv_aload_n hx hb d_Mem_init_30 rfl (lv_at hl 0 rfl) ?_
  refine va_new (ci := cVal) (fs := [.null, .null]) (C := R_Val) (T := F_Val) (N := 2) hx hb hts i_Val t_Val t_Val_ok hown (hts _ tw_91) (hts _ tw_85) (hts _ tw_69) hK hP hD hS hA rfl z_Val (Nat.le_of_ble_eq_true rfl) (Nat.le_of_ble_eq_true rfl) d_Mem_init_31 (fun o_9 H hP hD hS => ?_)
  have hP : va_P (dC, dI) classes [(h, .inr (cMem, [.ref o_1, .ref o_5, .null])), (o_1, .inr (cCol, [.int (nI 40000), .ref q_4])), (q_4, .inl (cI, 16, .inl (fun _ => 0))), (o_5, .inr (cCol, [.int (nI 40000), .ref q_8])), (q_8, .inl (cI, 16, .inl (fun _ => 0))), (o_9, .inr (cVal, [.null, .null]))] H := hP
  have hD : va_D A [(h, .inr (cMem, [.ref o_1, .ref o_5, .null])), (o_1, .inr (cCol, [.int (nI 40000), .ref q_4])), (q_4, .inl (cI, 16, .inl (fun _ => 0))), (o_5, .inr (cCol, [.int (nI 40000), .ref q_8])), (q_8, .inl (cI, 16, .inl (fun _ => 0))), (o_9, .inr (cVal, [.null, .null]))] := hD
  refine lv_dup hx hb d_Mem_init_34 rfl ?_
  refine lv_ldc (v := 40000) hx hb hown (hts _ tw_89) d_Mem_init_35 ?_
  refine ps_top (z := nI 40000) (by decide) ?_
  refine ps_afterV (wc := [(o_9, .inr (cVal, [.null, .null]))]) (wr := [0, 1, 2, 3, 4].filterMap (fun z9 => ([(h, .inr (cMem, [.ref o_1, .ref o_5, .null])), (o_1, .inr (cCol, [.int (nI 40000), .ref q_4])), (q_4, .inl (cI, 16, .inl (fun _ => 0))), (o_5, .inr (cCol, [.int (nI 40000), .ref q_8])), (q_8, .inl (cI, 16, .inl (fun _ => 0))), (o_9, .inr (cVal, [.null, .null]))] : va_W)[z9]?)) hP hD hS hA [5] [0, 1, 2, 3, 4] rfl rfl (by decide) (by decide) (ps_runIV ⟨hx, hb, hml, hown, hts⟩ (c_vinit l dC dI cI tys ht o_9 40000) (ps_cwI ps_gd 1 hts tw_92 k_Val_init rfl e_Val_init ⟨Nat.le_of_ble_eq_true rfl, Nat.le_of_ble_eq_true rfl⟩) hK hP hD [5] (by decide) rfl rfl hl.1 rfl (Nat.le_of_ble_eq_true rfl) d_Mem_init_37 ⟨Nat.le_of_ble_eq_true rfl, Nat.le_of_ble_eq_true rfl⟩) (fun u_10 H locs hu_10 hP hD hS => ?_)
  obtain ⟨q_12, q_13, q_14, q_15, hu_10⟩ := hu_10
  subst hu_10
  obtain ⟨hP, hD⟩ := ps_perm (ws' := [(h, .inr (cMem, [.ref o_1, .ref o_5, .null])), (o_1, .inr (cCol, [.int (nI 40000), .ref q_4])), (q_4, .inl (cI, 16, .inl (fun _ => 0))), (o_5, .inr (cCol, [.int (nI 40000), .ref q_8])), (q_8, .inl (cI, 16, .inl (fun _ => 0))), (o_9, .inr (cVal, [.ref q_12, .ref q_14])), (q_12, .inr (cCol, [.int (nI 40000), .ref q_13])), (q_13, .inl (cI, 16, .inl (fun _ => 0))), (q_14, .inr (cCol, [.int (nI 40000), .ref q_15])), (q_15, .inl (cI, 16, .inl (fun _ => 0)))]) hP hD [0, 1, 2, 3, 4, 5, 6, 7, 8, 9] (by decide) rfl
  refine va_putF (D := (dC, dI)) (ci := cMem) (v := .ref o_9) (ty := .object "PageStore$Values") (C := R_Mem) (T := F_Mem) (N := 3) hx hb hts i_Mem t_Mem t_Mem_ok n_Mem hown hK hP hD hS 0 rfl rfl 2 (by decide) (hts _ tw_63) (fun _ h9 => h9) rfl hin rfl (by decide +kernel) rfl rfl (Nat.le_of_ble_eq_true rfl) d_Mem_init_40 (fun H locs hP hD hS => ?_)
  have hP : va_P (dC, dI) classes [(h, .inr (cMem, [.ref o_1, .ref o_5, .ref o_9])), (o_1, .inr (cCol, [.int (nI 40000), .ref q_4])), (q_4, .inl (cI, 16, .inl (fun _ => 0))), (o_5, .inr (cCol, [.int (nI 40000), .ref q_8])), (q_8, .inl (cI, 16, .inl (fun _ => 0))), (o_9, .inr (cVal, [.ref q_12, .ref q_14])), (q_12, .inr (cCol, [.int (nI 40000), .ref q_13])), (q_13, .inl (cI, 16, .inl (fun _ => 0))), (q_14, .inr (cCol, [.int (nI 40000), .ref q_15])), (q_15, .inl (cI, 16, .inl (fun _ => 0)))] H := hP
  have hD : va_D A [(h, .inr (cMem, [.ref o_1, .ref o_5, .ref o_9])), (o_1, .inr (cCol, [.int (nI 40000), .ref q_4])), (q_4, .inl (cI, 16, .inl (fun _ => 0))), (o_5, .inr (cCol, [.int (nI 40000), .ref q_8])), (q_8, .inl (cI, 16, .inl (fun _ => 0))), (o_9, .inr (cVal, [.ref q_12, .ref q_14])), (q_12, .inr (cCol, [.int (nI 40000), .ref q_13])), (q_13, .inl (cI, 16, .inl (fun _ => 0))), (q_14, .inr (cCol, [.int (nI 40000), .ref q_15])), (q_15, .inl (cI, 16, .inl (fun _ => 0)))] := hD
  exact ps_vret hx hb hr hlocks hK hP hD hS (Nat.le_of_ble_eq_true rfl) (Nat.le_of_ble_eq_true rfl) d_Mem_init_43 (⟨o_1, q_4, o_5, q_8, o_9, q_12, q_13, q_14, q_15, rfl⟩)
end
section
theorem tw_97 : (.fieldLink "PageStore" 9 "PageStore" "counts" "[I" : Cond) ∈ ps_tbl := ps_t1 126 rfl rfl
theorem tw_98 : (.fieldLink "PageStore" 145 "PageStore" "saves" "I" : Cond) ∈ ps_tbl := ps_t1 128 rfl rfl
theorem tw_99 : (.methodLink "PageStore" 125 ⟨"PageStore", "isDictionary", "(I)Z"⟩ : Cond) ∈ ps_tbl := ps_t2 65 rfl rfl
theorem tw_100 : (.methodLink "PageStore" 88 ⟨"PageStore", "isKind", "(II)Z"⟩ : Cond) ∈ ps_tbl := ps_t2 4 rfl rfl
theorem tw_101 : (.fieldLink "PageStore" 18 "PageStore" "notes" "LPageStore$Column;" : Cond) ∈ ps_tbl := ps_t1 127 rfl rfl
theorem tw_102 : (.methodLink "PageStore" 75 ⟨"PageStore$Column", "at", "(I)I"⟩ : Cond) ∈ ps_tbl := ps_t1 224 rfl rfl
theorem tw_103 : (.fieldLink "PageStore" 33 "PageStore" "places" "LPageStore$Values;" : Cond) ∈ ps_tbl := ps_t1 130 rfl rfl
theorem tw_104 : (.fieldLink "PageStore" 44 "PageStore" "keys" "LPageStore$Keys;" : Cond) ∈ ps_tbl := ps_t1 132 rfl rfl
theorem tw_105 : (.fieldLink "PageStore" 119 "PageStore$Keys" "values" "LPageStore$Values;" : Cond) ∈ ps_tbl := ps_t1 92 rfl rfl
theorem tw_106 : (.instanceMethod ⟨"PageStore", "isDictionary", "(I)Z"⟩ : Cond) ∈ ps_tbl := ps_t2 67 rfl rfl
theorem tw_107 : (.selects "PageStore" ⟨"PageStore", "isDictionary", "(I)Z"⟩ ⟨"PageStore", "isDictionary", "(I)Z"⟩ : Cond) ∈ ps_tbl := ps_ts (y := ⟨"PageStore", "isDictionary", "(I)Z"⟩) (n := 10) 9 rfl rfl
theorem tw_108 : (.initialized "PageStore" : Cond) ∈ ps_tbl := ps_t1 1 rfl rfl
theorem tw_109 : (.code ⟨"PageStore", "isDictionary", "(I)Z"⟩ prog_1_method_25_code 2 (some .boolean) : Cond) ∈ ps_tbl := ps_t2 68 rfl rfl
theorem tw_110 : (.code ⟨"PageStore", "isKind", "(II)Z"⟩ prog_1_method_23_code 2 (some .boolean) : Cond) ∈ ps_tbl := ps_t2 6 rfl rfl
theorem tw_111 : (.static ⟨"PageStore", "isKind", "(II)Z"⟩ : Cond) ∈ ps_tbl := ps_t2 5 rfl rfl
theorem k_PS_isDictionary : ps_cdV ps_tbl y_PS_isDictionary prog_1_method_25_code 2 (some .boolean) := ⟨tw_106, tw_107, tw_108, tw_109⟩
theorem k_PS_isKind : ps_cdS ps_tbl y_PS_isKind prog_1_method_23_code 2 (some .boolean) := ⟨tw_111, tw_108, tw_110⟩
/-- the most that column k can hold -/
def ps_lim (k : Nat) : Nat := [90, 65536, 32768, 32768, 16385, 16385, 16385, 16384, 16384, 16384, 16384, 16384, 40000, 40000, 40000, 40000].getD k 0
/-- the cells of a PageStore: a: where its objects are (they stay), q: where the columns' arrays are; K: what is counted, S: saves, F: the columns, N: their lengths -/
def pw (cI : ClassId) (a q K : Nat → Nat) (S : Nat) (ck cu : Int32) (F : Nat → Nat → Int32) (N : Nat → Nat) : va_W := [
  (a 0, .inr (cPS, [.ref (a 1), .ref (a 8), .int (nI S), .ref (a 2), .ref (a 3), .ref (a 9), .ref (a 4), .ref (a 6), .int ck, .int cu])),
  (a 1, .inl (cI, 6, .inl (fun j => nI (K j)))),
  (a 2, .inr (cRow, [.ref (a 12), .ref (a 13), .ref (a 14)])),
  (a 3, .inr (cVal, [.ref (a 10), .ref (a 11)])),
  (a 4, .inr (cKey, [.ref (a 15), .ref (a 16), .ref (a 17), .ref (a 5)])),
  (a 5, .inr (cVal, [.ref (a 18), .ref (a 19)])),
  (a 6, .inr (cMem, [.ref (a 20), .ref (a 21), .ref (a 7)])),
  (a 7, .inr (cVal, [.ref (a 22), .ref (a 23)])),
  (a 8, .inr (cCol, [.int (nI 90), .ref (q 0)])), (q 0, .inl (cI, N 0, .inl (F 0))),
  (a 9, .inr (cCol, [.int (nI 65536), .ref (q 1)])), (q 1, .inl (cI, N 1, .inl (F 1))),
  (a 10, .inr (cCol, [.int (nI 32768), .ref (q 2)])), (q 2, .inl (cI, N 2, .inl (F 2))),
  (a 11, .inr (cCol, [.int (nI 32768), .ref (q 3)])), (q 3, .inl (cI, N 3, .inl (F 3))),
  (a 12, .inr (cCol, [.int (nI 16385), .ref (q 4)])), (q 4, .inl (cI, N 4, .inl (F 4))),
  (a 13, .inr (cCol, [.int (nI 16385), .ref (q 5)])), (q 5, .inl (cI, N 5, .inl (F 5))),
  (a 14, .inr (cCol, [.int (nI 16385), .ref (q 6)])), (q 6, .inl (cI, N 6, .inl (F 6))),
  (a 15, .inr (cCol, [.int (nI 16384), .ref (q 7)])), (q 7, .inl (cI, N 7, .inl (F 7))),
  (a 16, .inr (cCol, [.int (nI 16384), .ref (q 8)])), (q 8, .inl (cI, N 8, .inl (F 8))),
  (a 17, .inr (cCol, [.int (nI 16384), .ref (q 9)])), (q 9, .inl (cI, N 9, .inl (F 9))),
  (a 18, .inr (cCol, [.int (nI 16384), .ref (q 10)])), (q 10, .inl (cI, N 10, .inl (F 10))),
  (a 19, .inr (cCol, [.int (nI 16384), .ref (q 11)])), (q 11, .inl (cI, N 11, .inl (F 11))),
  (a 20, .inr (cCol, [.int (nI 40000), .ref (q 12)])), (q 12, .inl (cI, N 12, .inl (F 12))),
  (a 21, .inr (cCol, [.int (nI 40000), .ref (q 13)])), (q 13, .inl (cI, N 13, .inl (F 13))),
  (a 22, .inr (cCol, [.int (nI 40000), .ref (q 14)])), (q 14, .inl (cI, N 14, .inl (F 14))),
  (a 23, .inr (cCol, [.int (nI 40000), .ref (q 15)])), (q 15, .inl (cI, N 15, .inl (F 15)))]
/-- the columns are 0 behind their ends, and in their limits -/
def ps_wf (F : Nat → Nat → Int32) (N : Nat → Nat) : Prop := ∀ k, k < 16 → ps_Z (N k) (F k) ∧ N k ≤ ps_lim k
theorem ps_lim_le : ∀ k, k < 16 → ps_lim k ≤ 65536 := by decide
theorem ps_wf.z {F : Nat → Nat → Int32} {N : Nat → Nat} (h : ps_wf F N) (k : Nat) (hk : k < 16) : ps_Z (N k) (F k) := (h k hk).1
theorem ps_wf.n {F : Nat → Nat → Int32} {N : Nat → Nat} (h : ps_wf F N) (k : Nat) (hk : k < 16) : N k < 2 ^ 31 := by
  have h1 := (h k hk).2
  have h2 := ps_lim_le k hk
  omega
theorem ps_kat (K : Nat → Nat) (c : Nat) (hc : c < 2 ^ 31) : (fun j => nI (K j)) (nI c).toNatClampNeg = nI (K c) := by rw [nI_clamp hc]
theorem ps_kup (K : Nat → Nat) (c x : Nat) : upd (fun j => nI (K j)) c (nI x) = fun j => nI (va_up K c x j) := by
  funext j
  by_cases h : j = c
  · subst h; rw [pk_us, va_up_self]
  · rw [pk_un h, va_up_ne _ _ h]
theorem ps_rng {x : Int32} {n : Nat} (hn : n < 2 ^ 31) (h : nI 1 ≤ x ∧ x ≤ nI n) : ∃ j : Nat, 1 ≤ j ∧ j ≤ n ∧ x = nI j := by
  obtain ⟨j, hj, rfl⟩ := nI_of (x := x) (fun q => by
    have h1 := h.1
    rw [Int32.le_iff_toInt_le] at h1
    rw [Int32.lt_iff_toInt_lt] at q
    have e1 : (nI 1).toInt = 1 := by decide
    have e0 : (0 : Int32).toInt = 0 := by decide
    omega)
  exact ⟨j, (nI_leI (by decide) hj).mp h.1, (nI_leI hj hn).mp h.2, rfl⟩
theorem ps_rng0 {x y : Int32} (hx : ¬ x < 0) (h : x < y) : ∃ j : Nat, j < 2 ^ 31 ∧ x = nI j := nI_of hx

set_option maxHeartbeats 4000000 in
set_option maxRecDepth 100000 in
/-- PageStore.isKind -/
theorem c_isKind (l : Launch) (dC : Nat → ClassId) (dI : Nat → Nat → Nat) (cI : ClassId) (tys : List (ClassId × FieldType)) (ht : tys[0]? = some (cI, FieldType.int)) (x lo : Int32) : ps_mI classes l y_PS_isKind w_PS_isKind ({ frames := 0, cells := 0, slots := 0, locals := 0 }) (dC, dI) tys [.int x, .int lo] ([]) (fun r u => u = [] ∧ r = (if lo ≤ x ∧ x ≤ nI 15 then 1 else 0)) := by
  refine ps_mI_of (by decide) rfl (Nat.le_of_ble_eq_true rfl) ?_
  intro p e s m below meth c A ls C0 hA hK hP hD hS hl
  obtain ⟨hx, hb, hr, hml, hts, hown, hlocks, hin⟩ := C0
  have hl : lv_has ls 2 [(0, .int x), (1, .int lo)] := hl
  have hP : va_P (dC, dI) classes [] s.heap := hP
  have hD : va_D A [] := hD
  refine lv_iload_n hx hb d_PS_isKind_0 rfl (lv_at hl 0 rfl) ?_
  refine lv_iload_n hx hb d_PS_isKind_1 rfl (lv_at hl 1 rfl) ?_
  refine lv_icmp_lt (tgt := 15) hx hb d_PS_isKind_2 (by decide) (fun c_1 => ?_) (fun c_1 => ?_)
  · refine lv_iconst (v := 0) hx hb d_PS_isKind_15 (by decide) ?_
    exact ps_zret hx hb hr hlocks hK hP hD hS rfl (Nat.le_of_ble_eq_true rfl) (Nat.le_of_ble_eq_true rfl) d_PS_isKind_16 (⟨rfl, (if_neg (fun q => k2_nle c_1 q.1)).symm⟩)
  · refine lv_iload_n hx hb d_PS_isKind_5 rfl (lv_at hl 0 rfl) ?_
    refine lv_bipush (v := nI 15) hx hb d_PS_isKind_6 (by decide) ?_
    refine lv_icmp_gt (tgt := 15) hx hb d_PS_isKind_8 (by decide) (fun c_2 => ?_) (fun c_2 => ?_)
    · refine lv_iconst (v := 0) hx hb d_PS_isKind_15 (by decide) ?_
      exact ps_zret hx hb hr hlocks hK hP hD hS rfl (Nat.le_of_ble_eq_true rfl) (Nat.le_of_ble_eq_true rfl) d_PS_isKind_16 (⟨rfl, (if_neg (fun q => k2_nle c_2 q.2)).symm⟩)
    · refine lv_iconst (v := 1) hx hb d_PS_isKind_11 (by decide) ?_
      refine lv_goto (tgt := 16) hx hb d_PS_isKind_12 (by decide) ?_
      exact ps_zret hx hb hr hlocks hK hP hD hS rfl (Nat.le_of_ble_eq_true rfl) (Nat.le_of_ble_eq_true rfl) d_PS_isKind_16 (⟨rfl, (if_pos ⟨k2_le c_1, k2_le c_2⟩).symm⟩)

set_option maxHeartbeats 4000000 in
set_option maxRecDepth 100000 in
/-- PageStore.isRow -/
theorem c_isRow (l : Launch) (dC : Nat → ClassId) (dI : Nat → Nat → Nat) (cI : ClassId) (tys : List (ClassId × FieldType)) (ht : tys[0]? = some (cI, FieldType.int)) (a q K : Nat → Nat) (S : Nat) (ck cu : Int32) (F : Nat → Nat → Int32) (N : Nat → Nat) (hw : ps_wf F N) (hKb : ∀ j, K j ≤ 65536) (hSb : S ≤ 15) (x : Int32) : ps_mI classes l y_PS_isRow w_PS_isRow ({ frames := 0, cells := 0, slots := 0, locals := 0 }) (dC, dI) tys [.ref (a 0), .int x] (pw cI a q K S ck cu F N) (fun r u => u = pw cI a q K S ck cu F N ∧ r = (if nI 1 ≤ x ∧ x ≤ nI (K 0) then 1 else 0)) := by
  refine ps_mI_of (by decide) rfl (Nat.le_of_ble_eq_true rfl) ?_
  intro p e s m below meth c A ls C0 hA hK hP hD hS hl
  obtain ⟨hx, hb, hr, hml, hts, hown, hlocks, hin⟩ := C0
  have hl : lv_has ls 2 [(0, .ref (a 0)), (1, .int x)] := hl
  have hP : va_P (dC, dI) classes (pw cI a q K S ck cu F N) s.heap := hP
  have hD : va_D A (pw cI a q K S ck cu F N) := hD
  refine lv_iload_n hx hb d_PS_isRow_0 rfl (lv_at hl 1 rfl) ?_
  refine lv_iconst (v := nI 1) hx hb d_PS_isRow_1 (by decide) ?_
  refine lv_icmp_lt (tgt := 19) hx hb d_PS_isRow_2 (by decide) (fun c_1 => ?_) (fun c_1 => ?_)
  · refine lv_iconst (v := 0) hx hb d_PS_isRow_19 (by decide) ?_
    exact ps_zret hx hb hr hlocks hK hP hD hS rfl (Nat.le_of_ble_eq_true rfl) (Nat.le_of_ble_eq_true rfl) d_PS_isRow_20 (⟨rfl, (if_neg (fun q => k2_nle c_1 q.1)).symm⟩)
  · refine lv_iload_n hx hb d_PS_isRow_5 rfl (lv_at hl 1 rfl) ?_
    refine lv_aload_n hx hb d_PS_isRow_6 rfl (lv_at hl 0 rfl) ?_
    refine va_get (D := (dC, dI)) (ci := cPS) (v := .ref (a 1)) (C := R_PS) (T := F_PS) (N := 10) hx hb hts i_PS hown hK hP 0 rfl rfl 0 (by decide) (hts _ tw_97) (fun _ h9 => h9) rfl d_PS_isRow_7 ?_
    refine lv_iconst (v := nI 0) hx hb d_PS_isRow_10 (by decide) ?_
    refine va_iald hx hb hK hP 1 0 rfl ht (vp_in_nI (show 0 < 6 by decide) (by decide)) d_PS_isRow_11 ?_
    refine ps_top (z := nI (K 0)) (ps_kat _ 0 (by decide)) ?_
    refine lv_icmp_gt (tgt := 19) hx hb d_PS_isRow_12 (by decide) (fun c_2 => ?_) (fun c_2 => ?_)
    · refine lv_iconst (v := 0) hx hb d_PS_isRow_19 (by decide) ?_
      exact ps_zret hx hb hr hlocks hK hP hD hS rfl (Nat.le_of_ble_eq_true rfl) (Nat.le_of_ble_eq_true rfl) d_PS_isRow_20 (⟨rfl, (if_neg (fun q => k2_nle c_2 q.2)).symm⟩)
    · refine lv_iconst (v := 1) hx hb d_PS_isRow_15 (by decide) ?_
      refine lv_goto (tgt := 20) hx hb d_PS_isRow_16 (by decide) ?_
      exact ps_zret hx hb hr hlocks hK hP hD hS rfl (Nat.le_of_ble_eq_true rfl) (Nat.le_of_ble_eq_true rfl) d_PS_isRow_20 (⟨rfl, (if_pos ⟨k2_le c_1, k2_le c_2⟩).symm⟩)

set_option maxHeartbeats 4000000 in
set_option maxRecDepth 100000 in
/-- PageStore.isDictionary -/
theorem c_isDic (l : Launch) (dC : Nat → ClassId) (dI : Nat → Nat → Nat) (cI : ClassId) (tys : List (ClassId × FieldType)) (ht : tys[0]? = some (cI, FieldType.int)) (a q K : Nat → Nat) (S : Nat) (ck cu : Int32) (F : Nat → Nat → Int32) (N : Nat → Nat) (hw : ps_wf F N) (hKb : ∀ j, K j ≤ 65536) (hSb : S ≤ 15) (x : Int32) : ps_mI classes l y_PS_isDictionary w_PS_isDictionary ({ frames := 0, cells := 0, slots := 0, locals := 0 }) (dC, dI) tys [.ref (a 0), .int x] (pw cI a q K S ck cu F N) (fun r u => u = pw cI a q K S ck cu F N ∧ r = (if nI 1 ≤ x ∧ x ≤ nI (K 3) then 1 else 0)) := by
  refine ps_mI_of (by decide) rfl (Nat.le_of_ble_eq_true rfl) ?_
  intro p e s m below meth c A ls C0 hA hK hP hD hS hl
  obtain ⟨hx, hb, hr, hml, hts, hown, hlocks, hin⟩ := C0
  have hl : lv_has ls 2 [(0, .ref (a 0)), (1, .int x)] := hl
  have hP : va_P (dC, dI) classes (pw cI a q K S ck cu F N) s.heap := hP
  have hD : va_D A (pw cI a q K S ck cu F N) := hD
  refine lv_iload_n hx hb d_PS_isDictionary_0 rfl (lv_at hl 1 rfl) ?_
  refine lv_iconst (v := nI 1) hx hb d_PS_isDictionary_1 (by decide) ?_
  refine lv_icmp_lt (tgt := 19) hx hb d_PS_isDictionary_2 (by decide) (fun c_1 => ?_) (fun c_1 => ?_)
  · refine lv_iconst (v := 0) hx hb d_PS_isDictionary_19 (by decide) ?_
    exact ps_zret hx hb hr hlocks hK hP hD hS rfl (Nat.le_of_ble_eq_true rfl) (Nat.le_of_ble_eq_true rfl) d_PS_isDictionary_20 (⟨rfl, (if_neg (fun q => k2_nle c_1 q.1)).symm⟩)
  · refine lv_iload_n hx hb d_PS_isDictionary_5 rfl (lv_at hl 1 rfl) ?_
    refine lv_aload_n hx hb d_PS_isDictionary_6 rfl (lv_at hl 0 rfl) ?_
    refine va_get (D := (dC, dI)) (ci := cPS) (v := .ref (a 1)) (C := R_PS) (T := F_PS) (N := 10) hx hb hts i_PS hown hK hP 0 rfl rfl 0 (by decide) (hts _ tw_97) (fun _ h9 => h9) rfl d_PS_isDictionary_7 ?_
    refine lv_iconst (v := nI 3) hx hb d_PS_isDictionary_10 (by decide) ?_
    refine va_iald hx hb hK hP 1 0 rfl ht (vp_in_nI (show 3 < 6 by decide) (by decide)) d_PS_isDictionary_11 ?_
    refine ps_top (z := nI (K 3)) (ps_kat _ 3 (by decide)) ?_
    refine lv_icmp_gt (tgt := 19) hx hb d_PS_isDictionary_12 (by decide) (fun c_2 => ?_) (fun c_2 => ?_)
    · refine lv_iconst (v := 0) hx hb d_PS_isDictionary_19 (by decide) ?_
      exact ps_zret hx hb hr hlocks hK hP hD hS rfl (Nat.le_of_ble_eq_true rfl) (Nat.le_of_ble_eq_true rfl) d_PS_isDictionary_20 (⟨rfl, (if_neg (fun q => k2_nle c_2 q.2)).symm⟩)
    · refine lv_iconst (v := 1) hx hb d_PS_isDictionary_15 (by decide) ?_
      refine lv_goto (tgt := 20) hx hb d_PS_isDictionary_16 (by decide) ?_
      exact ps_zret hx hb hr hlocks hK hP hD hS rfl (Nat.le_of_ble_eq_true rfl) (Nat.le_of_ble_eq_true rfl) d_PS_isDictionary_20 (⟨rfl, (if_pos ⟨k2_le c_1, k2_le c_2⟩).symm⟩)

set_option maxHeartbeats 4000000 in
set_option maxRecDepth 100000 in
/-- PageStore.isSave -/
theorem c_isSave (l : Launch) (dC : Nat → ClassId) (dI : Nat → Nat → Nat) (cI : ClassId) (tys : List (ClassId × FieldType)) (ht : tys[0]? = some (cI, FieldType.int)) (a q K : Nat → Nat) (S : Nat) (ck cu : Int32) (F : Nat → Nat → Int32) (N : Nat → Nat) (hw : ps_wf F N) (hKb : ∀ j, K j ≤ 65536) (hSb : S ≤ 15) (x : Int32) : ps_mI classes l y_PS_isSave w_PS_isSave ({ frames := 0, cells := 0, slots := 0, locals := 0 }) (dC, dI) tys [.ref (a 0), .int x] (pw cI a q K S ck cu F N) (fun r u => u = pw cI a q K S ck cu F N ∧ r = (if nI 1 ≤ x ∧ x ≤ nI S then 1 else 0)) := by
  refine ps_mI_of (by decide) rfl (Nat.le_of_ble_eq_true rfl) ?_
  intro p e s m below meth c A ls C0 hA hK hP hD hS hl
  obtain ⟨hx, hb, hr, hml, hts, hown, hlocks, hin⟩ := C0
  have hl : lv_has ls 2 [(0, .ref (a 0)), (1, .int x)] := hl
  have hP : va_P (dC, dI) classes (pw cI a q K S ck cu F N) s.heap := hP
  have hD : va_D A (pw cI a q K S ck cu F N) := hD
  refine lv_iload_n hx hb d_PS_isSave_0 rfl (lv_at hl 1 rfl) ?_
  refine lv_iconst (v := nI 1) hx hb d_PS_isSave_1 (by decide) ?_
  refine lv_icmp_lt (tgt := 17) hx hb d_PS_isSave_2 (by decide) (fun c_1 => ?_) (fun c_1 => ?_)
  · refine lv_iconst (v := 0) hx hb d_PS_isSave_17 (by decide) ?_
    exact ps_zret hx hb hr hlocks hK hP hD hS rfl (Nat.le_of_ble_eq_true rfl) (Nat.le_of_ble_eq_true rfl) d_PS_isSave_18 (⟨rfl, (if_neg (fun q => k2_nle c_1 q.1)).symm⟩)
  · refine lv_iload_n hx hb d_PS_isSave_5 rfl (lv_at hl 1 rfl) ?_
    refine lv_aload_n hx hb d_PS_isSave_6 rfl (lv_at hl 0 rfl) ?_
    refine va_get (D := (dC, dI)) (ci := cPS) (v := .int (nI S)) (C := R_PS) (T := F_PS) (N := 10) hx hb hts i_PS hown hK hP 0 rfl rfl 2 (by decide) (hts _ tw_98) (fun _ h9 => h9) rfl d_PS_isSave_7 ?_
    refine lv_icmp_gt (tgt := 17) hx hb d_PS_isSave_10 (by decide) (fun c_2 => ?_) (fun c_2 => ?_)
    · refine lv_iconst (v := 0) hx hb d_PS_isSave_17 (by decide) ?_
      exact ps_zret hx hb hr hlocks hK hP hD hS rfl (Nat.le_of_ble_eq_true rfl) (Nat.le_of_ble_eq_true rfl) d_PS_isSave_18 (⟨rfl, (if_neg (fun q => k2_nle c_2 q.2)).symm⟩)
    · refine lv_iconst (v := 1) hx hb d_PS_isSave_13 (by decide) ?_
      refine lv_goto (tgt := 18) hx hb d_PS_isSave_14 (by decide) ?_
      exact ps_zret hx hb hr hlocks hK hP hD hS rfl (Nat.le_of_ble_eq_true rfl) (Nat.le_of_ble_eq_true rfl) d_PS_isSave_18 (⟨rfl, (if_pos ⟨k2_le c_1, k2_le c_2⟩).symm⟩)

set_option maxHeartbeats 4000000 in
set_option maxRecDepth 100000 in
/-- PageStore.isKeyPossible -/
theorem c_isKP (l : Launch) (dC : Nat → ClassId) (dI : Nat → Nat → Nat) (cI : ClassId) (tys : List (ClassId × FieldType)) (ht : tys[0]? = some (cI, FieldType.int)) (a q K : Nat → Nat) (S : Nat) (ck cu : Int32) (F : Nat → Nat → Int32) (N : Nat → Nat) (hw : ps_wf F N) (hKb : ∀ j, K j ≤ 65536) (hSb : S ≤ 15) (d x : Int32) : ps_mI classes l y_PS_isKeyPossible w_PS_isKeyPossible ({ frames := 1, cells := 0, slots := 0, locals := 21 }) (dC, dI) tys [.ref (a 0), .int d, .int x] (pw cI a q K S ck cu F N) (fun r u => u = pw cI a q K S ck cu F N ∧ r = (if (nI 1 ≤ d ∧ d ≤ nI (K 3)) ∧ (nI 1 ≤ x ∧ x ≤ nI 15) then 1 else 0)) := by
  refine ps_mI_of (by decide) rfl (Nat.le_of_ble_eq_true rfl) ?_
  intro p e s m below meth c A ls C0 hA hK hP hD hS hl
  obtain ⟨hx, hb, hr, hml, hts, hown, hlocks, hin⟩ := C0
  have hl : lv_has ls 3 [(0, .ref (a 0)), (1, .int d), (2, .int x)] := hl
  have hP : va_P (dC, dI) classes (pw cI a q K S ck cu F N) s.heap := hP
  have hD : va_D A (pw cI a q K S ck cu F N) := hD
  refine lv_aload_n hx hb d_PS_isKeyPossible_0 rfl (lv_at hl 0 rfl) ?_
  refine lv_iload_n hx hb d_PS_isKeyPossible_1 rfl (lv_at hl 1 rfl) ?_
  refine ps_readI (wc := (pw cI a q K S ck cu F N)) hP hD hS hA [0, 1, 2, 3, 4, 5, 6, 7, 8, 9, 10, 11, 12, 13, 14, 15, 16, 17, 18, 19, 20, 21, 22, 23, 24, 25, 26, 27, 28, 29, 30, 31, 32, 33, 34, 35, 36, 37, 38, 39] rfl (fun _ _ h => h.1) (ps_runVI ⟨hx, hb, hml, hown, hts⟩ (c_isDic l dC dI cI tys ht a q K S ck cu F N hw hKb hSb d) (ps_cwV ps_gd 1 hts tw_99 k_PS_isDictionary e_PS_isDictionary ⟨Nat.le_of_ble_eq_true rfl, Nat.le_of_ble_eq_true rfl⟩) hK hP hD [0, 1, 2, 3, 4, 5, 6, 7, 8, 9, 10, 11, 12, 13, 14, 15, 16, 17, 18, 19, 20, 21, 22, 23, 24, 25, 26, 27, 28, 29, 30, 31, 32, 33, 34, 35, 36, 37, 38, 39] (by decide) rfl 0 cPS rfl rfl rfl hl.1 rfl (Nat.le_of_ble_eq_true rfl) d_PS_isKeyPossible_2 ⟨Nat.zero_le _, Nat.zero_le _⟩) (fun r_1 H locs hr_1 hP hS => ?_)
  obtain ⟨-, hr_1⟩ := hr_1
  subst hr_1
  refine lv_if_eq (tgt := 20) hx hb d_PS_isKeyPossible_5 (by decide) (fun c_2 => ?_) (fun c_2 => ?_)
  · have c_2 := ps_ite0 c_2
    refine lv_iconst (v := 0) hx hb d_PS_isKeyPossible_20 (by decide) ?_
    exact ps_zret hx hb hr hlocks hK hP hD hS rfl (Nat.le_of_ble_eq_true rfl) (Nat.le_of_ble_eq_true rfl) d_PS_isKeyPossible_21 (⟨rfl, (if_neg (fun q => c_2 q.1)).symm⟩)
  · have c_2 := ps_ite1 c_2
    refine lv_iload_n hx hb d_PS_isKeyPossible_8 rfl (lv_at hl 2 rfl) ?_
    refine lv_iconst (v := nI 1) hx hb d_PS_isKeyPossible_9 (by decide) ?_
    refine ps_readI (wc := []) hP hD hS hA [] rfl (fun _ _ h => h.1) (ps_runSI ⟨hx, hb, hml, hown, hts⟩ (c_isKind l dC dI cI tys ht x (nI 1)) (ps_cwS ps_gd 2 hts tw_100 k_PS_isKind e_PS_isKind ⟨Nat.le_of_ble_eq_true rfl, Nat.le_of_ble_eq_true rfl⟩) hK hP hD [] (by decide) rfl rfl hl.1 rfl (Nat.le_of_ble_eq_true rfl) d_PS_isKeyPossible_10 ⟨Nat.zero_le _, Nat.zero_le _⟩) (fun r_3 H locs hr_3 hP hS => ?_)
    obtain ⟨-, hr_3⟩ := hr_3
    subst hr_3
    refine lv_if_eq (tgt := 20) hx hb d_PS_isKeyPossible_13 (by decide) (fun c_4 => ?_) (fun c_4 => ?_)
    · have c_4 := ps_ite0 c_4
      refine lv_iconst (v := 0) hx hb d_PS_isKeyPossible_20 (by decide) ?_
      exact ps_zret hx hb hr hlocks hK hP hD hS rfl (Nat.le_of_ble_eq_true rfl) (Nat.le_of_ble_eq_true rfl) d_PS_isKeyPossible_21 (⟨rfl, (if_neg (fun q => c_4 q.2)).symm⟩)
    · have c_4 := ps_ite1 c_4
      refine lv_iconst (v := 1) hx hb d_PS_isKeyPossible_16 (by decide) ?_
      refine lv_goto (tgt := 21) hx hb d_PS_isKeyPossible_17 (by decide) ?_
      exact ps_zret hx hb hr hlocks hK hP hD hS rfl (Nat.le_of_ble_eq_true rfl) (Nat.le_of_ble_eq_true rfl) d_PS_isKeyPossible_21 (⟨rfl, (if_pos ⟨c_2, c_4⟩).symm⟩)

set_option maxHeartbeats 4000000 in
set_option maxRecDepth 100000 in
/-- PageStore.noRowLeft -/
theorem c_noRow (l : Launch) (dC : Nat → ClassId) (dI : Nat → Nat → Nat) (cI : ClassId) (tys : List (ClassId × FieldType)) (ht : tys[0]? = some (cI, FieldType.int)) (a q K : Nat → Nat) (S : Nat) (ck cu : Int32) (F : Nat → Nat → Int32) (N : Nat → Nat) (hw : ps_wf F N) (hKb : ∀ j, K j ≤ 65536) (hSb : S ≤ 15) : ps_mI classes l y_PS_noRowLeft w_PS_noRowLeft ({ frames := 0, cells := 0, slots := 0, locals := 0 }) (dC, dI) tys [.ref (a 0)] (pw cI a q K S ck cu F N) (fun r u => u = pw cI a q K S ck cu F N ∧ r = (if 16384 ≤ K 0 then 1 else 0)) := by
  refine ps_mI_of (by decide) rfl (Nat.le_of_ble_eq_true rfl) ?_
  intro p e s m below meth c A ls C0 hA hK hP hD hS hl
  obtain ⟨hx, hb, hr, hml, hts, hown, hlocks, hin⟩ := C0
  have hl : lv_has ls 1 [(0, .ref (a 0))] := hl
  have hP : va_P (dC, dI) classes (pw cI a q K S ck cu F N) s.heap := hP
  have hD : va_D A (pw cI a q K S ck cu F N) := hD
  refine lv_aload_n hx hb d_PS_noRowLeft_0 rfl (lv_at hl 0 rfl) ?_
  refine va_get (D := (dC, dI)) (ci := cPS) (v := .ref (a 1)) (C := R_PS) (T := F_PS) (N := 10) hx hb hts i_PS hown hK hP 0 rfl rfl 0 (by decide) (hts _ tw_97) (fun _ h9 => h9) rfl d_PS_noRowLeft_1 ?_
  refine lv_iconst (v := nI 0) hx hb d_PS_noRowLeft_4 (by decide) ?_
  refine va_iald hx hb hK hP 1 0 rfl ht (vp_in_nI (show 0 < 6 by decide) (by decide)) d_PS_noRowLeft_5 ?_
  refine ps_top (z := nI (K 0)) (ps_kat _ 0 (by decide)) ?_
  refine lv_sipush (v := nI 16384) hx hb d_PS_noRowLeft_6 (by decide) ?_
  refine lv_icmp_lt (tgt := 16) hx hb d_PS_noRowLeft_9 (by decide) (fun c_1 => ?_) (fun c_1 => ?_)
  · have c_1 : K 0 < 16384 := (nI_ltI (by have h0 := hKb 0; have h1 := hKb 1; have h2 := hKb 2; have h3 := hKb 3; have h4 := hKb 4; have h5 := hKb 5; omega) (by have h0 := hKb 0; have h1 := hKb 1; have h2 := hKb 2; have h3 := hKb 3; have h4 := hKb 4; have h5 := hKb 5; omega)).mp c_1
    refine lv_iconst (v := 0) hx hb d_PS_noRowLeft_16 (by decide) ?_
    exact ps_zret hx hb hr hlocks hK hP hD hS rfl (Nat.le_of_ble_eq_true rfl) (Nat.le_of_ble_eq_true rfl) d_PS_noRowLeft_17 (⟨rfl, (if_neg (by omega)).symm⟩)
  · have c_1 : ¬ K 0 < 16384 := fun q => c_1 ((nI_ltI (by have h0 := hKb 0; have h1 := hKb 1; have h2 := hKb 2; have h3 := hKb 3; have h4 := hKb 4; have h5 := hKb 5; omega) (by have h0 := hKb 0; have h1 := hKb 1; have h2 := hKb 2; have h3 := hKb 3; have h4 := hKb 4; have h5 := hKb 5; omega)).mpr q)
    refine lv_iconst (v := 1) hx hb d_PS_noRowLeft_12 (by decide) ?_
    refine lv_goto (tgt := 17) hx hb d_PS_noRowLeft_13 (by decide) ?_
    exact ps_zret hx hb hr hlocks hK hP hD hS rfl (Nat.le_of_ble_eq_true rfl) (Nat.le_of_ble_eq_true rfl) d_PS_noRowLeft_17 (⟨rfl, (if_pos (by omega)).symm⟩)

set_option maxHeartbeats 4000000 in
set_option maxRecDepth 100000 in
/-- PageStore.countAtSave -/
theorem c_cas (l : Launch) (dC : Nat → ClassId) (dI : Nat → Nat → Nat) (cI : ClassId) (tys : List (ClassId × FieldType)) (ht : tys[0]? = some (cI, FieldType.int)) (a q K : Nat → Nat) (S : Nat) (ck cu : Int32) (F : Nat → Nat → Int32) (N : Nat → Nat) (hw : ps_wf F N) (hKb : ∀ j, K j ≤ 65536) (hSb : S ≤ 15) (k w : Nat) (hk1 : 1 ≤ k) (hk : k ≤ 15) (hw0 : w < 6) : ps_mI classes l y_PS_countAtSave w_PS_countAtSave ({ frames := 1, cells := 0, slots := 0, locals := 21 }) (dC, dI) tys [.ref (a 0), .int (nI k), .int (nI w)] (pw cI a q K S ck cu F N) (fun r u => u = pw cI a q K S ck cu F N ∧ r = F 0 ((k - 1) * 6 + w)) := by
  refine ps_mI_of (by decide) rfl (Nat.le_of_ble_eq_true rfl) ?_
  intro p e s m below meth c A ls C0 hA hK hP hD hS hl
  obtain ⟨hx, hb, hr, hml, hts, hown, hlocks, hin⟩ := C0
  have hl : lv_has ls 3 [(0, .ref (a 0)), (1, .int (nI k)), (2, .int (nI w))] := hl
  have hP : va_P (dC, dI) classes (pw cI a q K S ck cu F N) s.heap := hP
  have hD : va_D A (pw cI a q K S ck cu F N) := hD
  refine lv_aload_n hx hb d_PS_countAtSave_0 rfl (lv_at hl 0 rfl) ?_
  refine va_get (D := (dC, dI)) (ci := cPS) (v := .ref (a 8)) (C := R_PS) (T := F_PS) (N := 10) hx hb hts i_PS hown hK hP 0 rfl rfl 1 (by decide) (hts _ tw_101) (fun _ h9 => h9) rfl d_PS_countAtSave_1 ?_
  refine lv_iload_n hx hb d_PS_countAtSave_4 rfl (lv_at hl 1 rfl) ?_
  refine lv_iconst (v := nI 1) hx hb d_PS_countAtSave_5 (by decide) ?_
  refine lv_isub hx hb d_PS_countAtSave_6 ?_
  refine ps_top (z := nI (k - 1)) (pk_sub (by have h0 := hKb 0; have h1 := hKb 1; have h2 := hKb 2; have h3 := hKb 3; have h4 := hKb 4; have h5 := hKb 5; omega)) ?_
  refine lv_bipush (v := nI 6) hx hb d_PS_countAtSave_7 (by decide) ?_
  refine lv_imul hx hb d_PS_countAtSave_9 ?_
  refine ps_top (z := nI ((k - 1) * 6)) (pk_mul _ _) ?_
  refine lv_iload_n hx hb d_PS_countAtSave_10 rfl (lv_at hl 2 rfl) ?_
  refine lv_iadd hx hb d_PS_countAtSave_11 ?_
  refine ps_top (z := nI ((k - 1) * 6 + w)) (nI_add _ _) ?_
  refine ps_readI (wc := [(a 8, .inr (cCol, [.int (nI 90), .ref (q 0)])), (q 0, .inl (cI, N 0, .inl (F 0)))]) hP hD hS hA [8, 9] rfl (fun _ _ h => h.1) (ps_runVI ⟨hx, hb, hml, hown, hts⟩ (c_at l dC dI cI tys ht (a 8) (q 0) 90 (N 0) (F 0) ((k - 1) * 6 + w) (hw.z 0 (by decide)) (hw.n 0 (by decide)) (by omega)) (ps_cwV ps_gd 1 hts tw_102 k_Col_at e_Col_at ⟨Nat.le_of_ble_eq_true rfl, Nat.le_of_ble_eq_true rfl⟩) hK hP hD [8, 9] (by decide) rfl 0 cCol rfl rfl rfl hl.1 rfl (Nat.le_of_ble_eq_true rfl) d_PS_countAtSave_12 ⟨Nat.zero_le _, Nat.zero_le _⟩) (fun r_1 H locs hr_1 hP hS => ?_)
  obtain ⟨-, hr_1⟩ := hr_1
  subst hr_1
  exact ps_iret hx hb hr hlocks hK hP hD hS (Nat.le_of_ble_eq_true rfl) (Nat.le_of_ble_eq_true rfl) d_PS_countAtSave_15 (⟨rfl, rfl⟩)

set_option maxHeartbeats 4000000 in
set_option maxRecDepth 100000 in
/-- PageStore.valuesOf -/
theorem c_vof (l : Launch) (dC : Nat → ClassId) (dI : Nat → Nat → Nat) (cI : ClassId) (tys : List (ClassId × FieldType)) (ht : tys[0]? = some (cI, FieldType.int)) (a q K : Nat → Nat) (S : Nat) (ck cu : Int32) (F : Nat → Nat → Int32) (N : Nat → Nat) (hw : ps_wf F N) (hKb : ∀ j, K j ≤ 65536) (hSb : S ≤ 15) (x : Int32) : ps_mR classes l y_PS_valuesOf w_PS_valuesOf ({ frames := 0, cells := 0, slots := 0, locals := 0 }) (dC, dI) tys [.ref (a 0), .int x] (pw cI a q K S ck cu F N) (fun r u => u = pw cI a q K S ck cu F N ∧ r = (if x = nI 4 then a 5 else a 3)) := by
  refine ps_mR_of (by decide) rfl (Nat.le_of_ble_eq_true rfl) ?_
  intro p e s m below meth c A ls C0 hA hK hP hD hS hl
  obtain ⟨hx, hb, hr, hml, hts, hown, hlocks, hin⟩ := C0
  have hl : lv_has ls 2 [(0, .ref (a 0)), (1, .int x)] := hl
  have hP : va_P (dC, dI) classes (pw cI a q K S ck cu F N) s.heap := hP
  have hD : va_D A (pw cI a q K S ck cu F N) := hD
  refine lv_iload_n hx hb d_PS_valuesOf_0 rfl (lv_at hl 1 rfl) ?_
  refine lv_iconst (v := nI 4) hx hb d_PS_valuesOf_1 (by decide) ?_
  refine lv_icmp_ne (tgt := 15) hx hb d_PS_valuesOf_2 (by decide) (fun c_1 => ?_) (fun c_1 => ?_)
  · refine lv_aload_n hx hb d_PS_valuesOf_15 rfl (lv_at hl 0 rfl) ?_
    refine va_get (D := (dC, dI)) (ci := cPS) (v := .ref (a 3)) (C := R_PS) (T := F_PS) (N := 10) hx hb hts i_PS hown hK hP 0 rfl rfl 4 (by decide) (hts _ tw_103) (fun _ h9 => h9) rfl d_PS_valuesOf_16 ?_
    exact ps_aret hx hb hr (Or.inl ⟨_, rfl⟩) hlocks hK hP hD hS (Nat.le_of_ble_eq_true rfl) (Nat.le_of_ble_eq_true rfl) d_PS_valuesOf_19 ⟨rfl, (if_neg c_1).symm⟩
  · refine lv_aload_n hx hb d_PS_valuesOf_5 rfl (lv_at hl 0 rfl) ?_
    refine va_get (D := (dC, dI)) (ci := cPS) (v := .ref (a 4)) (C := R_PS) (T := F_PS) (N := 10) hx hb hts i_PS hown hK hP 0 rfl rfl 6 (by decide) (hts _ tw_104) (fun _ h9 => h9) rfl d_PS_valuesOf_6 ?_
    refine va_get (D := (dC, dI)) (ci := cKey) (v := .ref (a 5)) (C := R_Key) (T := F_Key) (N := 4) hx hb hts i_Key hown hK hP 4 rfl rfl 3 (by decide) (hts _ tw_105) (fun _ h9 => h9) rfl d_PS_valuesOf_9 ?_
    refine lv_goto (tgt := 19) hx hb d_PS_valuesOf_12 (by decide) ?_
    exact ps_aret hx hb hr (Or.inl ⟨_, rfl⟩) hlocks hK hP hD hS (Nat.le_of_ble_eq_true rfl) (Nat.le_of_ble_eq_true rfl) d_PS_valuesOf_19 ⟨rfl, (if_pos c_1).symm⟩
end
section
theorem tw_112 : (.fieldLink "PageStore" 25 "PageStore" "rows" "LPageStore$Rows;" : Cond) ∈ ps_tbl := ps_t1 129 rfl rfl
theorem tw_113 : (.methodLink "PageStore" 157 ⟨"PageStore$Rows", "write", "(IIII)V"⟩ : Cond) ∈ ps_tbl := ps_t1 186 rfl rfl
theorem tw_114 : (.instanceMethod ⟨"PageStore$Rows", "write", "(IIII)V"⟩ : Cond) ∈ ps_tbl := ps_t1 187 rfl rfl
theorem tw_115 : (.selects "PageStore$Rows" ⟨"PageStore$Rows", "write", "(IIII)V"⟩ ⟨"PageStore$Rows", "write", "(IIII)V"⟩ : Cond) ∈ ps_tbl := ps_t1 188 rfl rfl
theorem tw_116 : (.initialized "PageStore$Rows" : Cond) ∈ ps_tbl := ps_t1 3 rfl rfl
theorem tw_117 : (.code ⟨"PageStore$Rows", "write", "(IIII)V"⟩ prog_5_method_2_code 5 none : Cond) ∈ ps_tbl := ps_t1 189 rfl rfl
theorem k_Row_write : ps_cdV ps_tbl y_Row_write prog_5_method_2_code 5 none := ⟨tw_114, tw_115, tw_116, tw_117⟩
/-- either c, and X; or not c, and Y -/
def ps_c (c X Y : Prop) : Prop := (c ∧ X) ∨ (¬ c ∧ Y)
theorem ps_cy {c X Y : Prop} (h : c) (x : X) : ps_c c X Y := Or.inl ⟨h, x⟩
theorem ps_cn {c X Y : Prop} (h : ¬ c) (y : Y) : ps_c c X Y := Or.inr ⟨h, y⟩
theorem ps_c.y {c X Y : Prop} (h : ps_c c X Y) (hc : c) : X := h.elim (fun q => q.2) (fun q => absurd hc q.1)
theorem ps_c.n {c X Y : Prop} (h : ps_c c X Y) (hc : ¬ c) : Y := h.elim (fun q => absurd q.1 hc) (fun q => q.2)
/-- column k is written at i -/
def ps_g (N : Nat → Nat) (k i : Nat) : Nat → Nat := va_up N k (ps_len (ps_lim k) (N k) i)
def ps_u (F : Nat → Nat → Int32) (k i : Nat) (x : Int32) : Nat → Nat → Int32 := va_up F k (upd (F k) i x)
/-- column k is wiped from x on, up to y -/
def ps_w (F : Nat → Nat → Int32) (k x y : Nat) : Nat → Nat → Int32 := va_up F k (ps_fil (F k) x y 0)
def ps_Fr (F : Nat → Nat → Int32) (r : Nat) (x s n : Int32) : Nat → Nat → Int32 := ps_u (ps_u (ps_u F 4 r x) 5 r s) 6 r n
def ps_Nr (N : Nat → Nat) (r : Nat) : Nat → Nat := ps_g (ps_g (ps_g N 4 r) 5 r) 6 r
def ps_rc (N : Nat → Nat) (r : Nat) : Nat := ps_dc 16385 (N 4) r + ps_dc 16385 (N 5) r + ps_dc 16385 (N 6) r
def ps_rs (N : Nat → Nat) (r : Nat) : Nat := ps_ds 16385 (N 4) r + ps_ds 16385 (N 5) r + ps_ds 16385 (N 6) r
theorem ps_kb {K : Nat → Nat} {c x : Nat} (h : ∀ j, K j ≤ 65536) (hx : x ≤ 65536) : ∀ j, va_up K c x j ≤ 65536 := fun j => by
  by_cases hj : j = c
  · subst hj; rw [va_up_self]; exact hx
  · rw [va_up_ne _ _ hj]; exact h j
theorem ps_wf_w {F : Nat → Nat → Int32} {N : Nat → Nat} (k : Nat) {x y : Nat} (h : ps_wf F N) : ps_wf (va_up F k (ps_fil (F k) x y 0)) N := fun j hj => by
  by_cases e : j = k
  · subst e; rw [va_up_self]; exact ⟨ps_Z_fil (h j hj).1, (h j hj).2⟩
  · rw [va_up_ne _ _ e]; exact h j hj

set_option maxHeartbeats 4000000 in
set_option maxRecDepth 100000 in
/-- PageStore.addRow -/
theorem c_addRow (l : Launch) (dC : Nat → ClassId) (dI : Nat → Nat → Nat) (cI : ClassId) (tys : List (ClassId × FieldType)) (ht : tys[0]? = some (cI, FieldType.int)) (a q K : Nat → Nat) (S : Nat) (ck cu : Int32) (F : Nat → Nat → Int32) (N : Nat → Nat) (hw : ps_wf F N) (hKb : ∀ j, K j ≤ 65536) (hSb : S ≤ 15) (x s0 n : Int32) (hr : K 0 < 16384) : ps_mI classes l y_PS_addRow w_PS_addRow ({ frames := 4, cells := ps_rc N (K 0 + 1), slots := ps_rs N (K 0 + 1), locals := 87 }) (dC, dI) tys [.ref (a 0), .int x, .int s0, .int n] (pw cI a q K S ck cu F N) (fun r u => r = nI (K 0 + 1) ∧ ∃ q1 : Nat → Nat, u = pw cI a q1 (va_up K 0 (K 0 + 1)) S ck cu (ps_Fr F (K 0 + 1) x s0 n) (ps_Nr N (K 0 + 1))) := by
  have hr0 := hr
  refine ps_mI_of (by decide) rfl (Nat.le_of_ble_eq_true rfl) ?_
  intro p e s m below meth c A ls C0 hA hK hP hD hS hl
  obtain ⟨hx, hb, hr, hml, hts, hown, hlocks, hin⟩ := C0
  have hl : lv_has ls 4 [(0, .ref (a 0)), (1, .int x), (2, .int s0), (3, .int n)] := hl
  have hP : va_P (dC, dI) classes (pw cI a q K S ck cu F N) s.heap := hP
  have hD : va_D A (pw cI a q K S ck cu F N) := hD
  refine lv_aload_n hx hb d_PS_addRow_0 rfl (lv_at hl 0 rfl) ?_
  refine va_get (D := (dC, dI)) (ci := cPS) (v := .ref (a 1)) (C := R_PS) (T := F_PS) (N := 10) hx hb hts i_PS hown hK hP 0 rfl rfl 0 (by decide) (hts _ tw_97) (fun _ h9 => h9) rfl d_PS_addRow_1 ?_
  refine lv_iconst (v := nI 0) hx hb d_PS_addRow_4 (by decide) ?_
  refine lv_dup2_11 hx hb d_PS_addRow_5 rfl rfl ?_
  refine va_iald hx hb hK hP 1 0 rfl ht (vp_in_nI (show 0 < 6 by decide) (by decide)) d_PS_addRow_6 ?_
  refine ps_top (z := nI (K 0)) (ps_kat _ 0 (by decide)) ?_
  refine lv_iconst (v := nI 1) hx hb d_PS_addRow_7 (by decide) ?_
  refine lv_iadd hx hb d_PS_addRow_8 ?_
  refine ps_top (z := nI (K 0 + 1)) (nI_add _ _) ?_
  refine va_iast hx hb hK hP hD hS 1 0 rfl ht (vp_in_nI (show 0 < 6 by decide) (by decide)) d_PS_addRow_9 (fun H locs hP hD hS => ?_)
  rw [nI_clamp (show 0 < 2 ^ 31 by decide)] at hP hD
  rw [ps_kup] at hP hD
  have hP : va_P (dC, dI) classes (pw cI a q (va_up K 0 (K 0 + 1)) S ck cu F N) H := hP
  have hD : va_D A (pw cI a q (va_up K 0 (K 0 + 1)) S ck cu F N) := hD
  refine lv_aload_n hx hb d_PS_addRow_10 rfl (lv_at hl 0 rfl) ?_
  refine va_get (D := (dC, dI)) (ci := cPS) (v := .ref (a 2)) (C := R_PS) (T := F_PS) (N := 10) hx hb hts i_PS hown hK hP 0 rfl rfl 3 (by decide) (hts _ tw_112) (fun _ h9 => h9) rfl d_PS_addRow_11 ?_
  refine lv_aload_n hx hb d_PS_addRow_14 rfl (lv_at hl 0 rfl) ?_
  refine va_get (D := (dC, dI)) (ci := cPS) (v := .ref (a 1)) (C := R_PS) (T := F_PS) (N := 10) hx hb hts i_PS hown hK hP 0 rfl rfl 0 (by decide) (hts _ tw_97) (fun _ h9 => h9) rfl d_PS_addRow_15 ?_
  refine lv_iconst (v := nI 0) hx hb d_PS_addRow_18 (by decide) ?_
  refine va_iald hx hb hK hP 1 0 rfl ht (vp_in_nI (show 0 < 6 by decide) (by decide)) d_PS_addRow_19 ?_
  refine ps_top (z := nI (K 0 + 1)) (ps_kat _ 0 (by decide)) ?_
  refine lv_iload_n hx hb d_PS_addRow_20 rfl (lv_at hl 1 rfl) ?_
  refine lv_iload_n hx hb d_PS_addRow_21 rfl (lv_at hl 2 rfl) ?_
  refine lv_iload_n hx hb d_PS_addRow_22 rfl (lv_at hl 3 rfl) ?_
  refine ps_afterV (wc := [(a 2, .inr (cRow, [.ref (a 12), .ref (a 13), .ref (a 14)])), (a 12, .inr (cCol, [.int (nI 16385), .ref (q 4)])), (q 4, .inl (cI, N 4, .inl (F 4))), (a 13, .inr (cCol, [.int (nI 16385), .ref (q 5)])), (q 5, .inl (cI, N 5, .inl (F 5))), (a 14, .inr (cCol, [.int (nI 16385), .ref (q 6)])), (q 6, .inl (cI, N 6, .inl (F 6)))]) (wr := [0, 1, 3, 4, 5, 6, 7, 8, 9, 10, 11, 12, 13, 14, 15, 22, 23, 24, 25, 26, 27, 28, 29, 30, 31, 32, 33, 34, 35, 36, 37, 38, 39].filterMap (fun z9 => ((pw cI a q (va_up K 0 (K 0 + 1)) S ck cu F N) : va_W)[z9]?)) hP hD hS hA [2, 16, 17, 18, 19, 20, 21] [0, 1, 3, 4, 5, 6, 7, 8, 9, 10, 11, 12, 13, 14, 15, 22, 23, 24, 25, 26, 27, 28, 29, 30, 31, 32, 33, 34, 35, 36, 37, 38, 39] rfl rfl (by decide) (by decide) (ps_runVV ⟨hx, hb, hml, hown, hts⟩ (c_rwrite l dC dI cI tys ht (a 2) (a 12) (q 4) (a 13) (q 5) (a 14) (q 6) 16385 (N 4) (N 5) (N 6) (F 4) (F 5) (F 6) (K 0 + 1) x s0 n (hw.z 4 (by decide)) (hw.z 5 (by decide)) (hw.z 6 (by decide)) (by decide) (hw 4 (by decide)).2 (hw 5 (by decide)).2 (hw 6 (by decide)).2 (by omega)) (ps_cwV ps_gd 4 hts tw_113 k_Row_write e_Row_write ⟨Nat.le_of_ble_eq_true rfl, Nat.le_of_ble_eq_true rfl⟩) hK hP hD [2, 16, 17, 18, 19, 20, 21] (by decide) rfl 0 cRow rfl rfl rfl hl.1 rfl (Nat.le_of_ble_eq_true rfl) d_PS_addRow_23 ⟨by show 0 + ps_rc N (K 0 + 1) ≤ ps_rc N (K 0 + 1); omega, by show 0 + ps_rs N (K 0 + 1) ≤ ps_rs N (K 0 + 1); omega⟩) (fun u_1 H locs hu_1 hP hD hS => ?_)
  obtain ⟨q_3, q_4, q_5, hu_1⟩ := hu_1
  subst hu_1
  obtain ⟨hP, hD⟩ := ps_perm (ws' := (pw cI a (va_up (va_up (va_up q 4 q_3) 5 q_4) 6 q_5) (va_up K 0 (K 0 + 1)) S ck cu (va_up (va_up (va_up F 4 (upd (F 4) (K 0 + 1) x)) 5 (upd (F 5) (K 0 + 1) s0)) 6 (upd (F 6) (K 0 + 1) n)) (va_up (va_up (va_up N 4 (ps_len 16385 (N 4) (K 0 + 1))) 5 (ps_len 16385 (N 5) (K 0 + 1))) 6 (ps_len 16385 (N 6) (K 0 + 1))))) hP hD [0, 1, 33, 2, 3, 4, 5, 6, 7, 8, 9, 10, 11, 12, 13, 14, 34, 35, 36, 37, 38, 39, 15, 16, 17, 18, 19, 20, 21, 22, 23, 24, 25, 26, 27, 28, 29, 30, 31, 32] (by decide) rfl
  refine lv_aload_n hx hb d_PS_addRow_26 rfl (lv_at hl 0 rfl) ?_
  refine va_get (D := (dC, dI)) (ci := cPS) (v := .ref (a 1)) (C := R_PS) (T := F_PS) (N := 10) hx hb hts i_PS hown hK hP 0 rfl rfl 0 (by decide) (hts _ tw_97) (fun _ h9 => h9) rfl d_PS_addRow_27 ?_
  refine lv_iconst (v := nI 0) hx hb d_PS_addRow_30 (by decide) ?_
  refine va_iald hx hb hK hP 1 0 rfl ht (vp_in_nI (show 0 < 6 by decide) (by decide)) d_PS_addRow_31 ?_
  refine ps_top (z := nI (K 0 + 1)) (ps_kat _ 0 (by decide)) ?_
  exact ps_iret hx hb hr hlocks hK hP hD hS (by show 0 + ps_rc N (K 0 + 1) ≤ ps_rc N (K 0 + 1); omega) (by show 0 + ps_rs N (K 0 + 1) ≤ ps_rs N (K 0 + 1); omega) d_PS_addRow_32 (⟨rfl, (va_up (va_up (va_up q 4 q_3) 5 q_4) 6 q_5), rfl⟩)
end
section
theorem tw_118 : (.constant "PageStore" 31 32768 : Cond) ∈ ps_tbl := ps_t1 56 rfl rfl
theorem tw_119 : (.methodLink "PageStore" 55 ⟨"PageStore", "noRowLeft", "()Z"⟩ : Cond) ∈ ps_tbl := ps_t1 161 rfl rfl
theorem tw_120 : (.methodLink "PageStore" 59 ⟨"PageStore$Values", "wipe", "(II)V"⟩ : Cond) ∈ ps_tbl := ps_t1 165 rfl rfl
theorem tw_121 : (.methodLink "PageStore" 63 ⟨"PageStore", "addRow", "(III)I"⟩ : Cond) ∈ ps_tbl := ps_t1 182 rfl rfl
theorem tw_122 : (.constant "PageStore" 37 65536 : Cond) ∈ ps_tbl := ps_t1 75 rfl rfl
theorem tw_123 : (.fieldLink "PageStore" 38 "PageStore" "octets" "LPageStore$Column;" : Cond) ∈ ps_tbl := ps_t1 131 rfl rfl
theorem tw_124 : (.methodLink "PageStore" 67 ⟨"PageStore$Column", "wipe", "(II)V"⟩ : Cond) ∈ ps_tbl := ps_t1 215 rfl rfl
theorem tw_125 : (.instanceMethod ⟨"PageStore", "noRowLeft", "()Z"⟩ : Cond) ∈ ps_tbl := ps_t1 163 rfl rfl
theorem tw_126 : (.selects "PageStore" ⟨"PageStore", "noRowLeft", "()Z"⟩ ⟨"PageStore", "noRowLeft", "()Z"⟩ : Cond) ∈ ps_tbl := ps_ts (y := ⟨"PageStore", "noRowLeft", "()Z"⟩) (n := 10) 0 rfl rfl
theorem tw_127 : (.code ⟨"PageStore", "noRowLeft", "()Z"⟩ prog_1_method_28_code 1 (some .boolean) : Cond) ∈ ps_tbl := ps_t1 164 rfl rfl
theorem tw_128 : (.instanceMethod ⟨"PageStore$Values", "wipe", "(II)V"⟩ : Cond) ∈ ps_tbl := ps_t1 166 rfl rfl
theorem tw_129 : (.selects "PageStore$Values" ⟨"PageStore$Values", "wipe", "(II)V"⟩ ⟨"PageStore$Values", "wipe", "(II)V"⟩ : Cond) ∈ ps_tbl := ps_t1 167 rfl rfl
theorem tw_130 : (.code ⟨"PageStore$Values", "wipe", "(II)V"⟩ prog_6_method_3_code 3 none : Cond) ∈ ps_tbl := ps_t1 168 rfl rfl
theorem tw_131 : (.instanceMethod ⟨"PageStore", "addRow", "(III)I"⟩ : Cond) ∈ ps_tbl := ps_t1 184 rfl rfl
theorem tw_132 : (.selects "PageStore" ⟨"PageStore", "addRow", "(III)I"⟩ ⟨"PageStore", "addRow", "(III)I"⟩ : Cond) ∈ ps_tbl := ps_ts (y := ⟨"PageStore", "addRow", "(III)I"⟩) (n := 10) 1 rfl rfl
theorem tw_133 : (.code ⟨"PageStore", "addRow", "(III)I"⟩ prog_1_method_29_code 4 (some .int) : Cond) ∈ ps_tbl := ps_t1 185 rfl rfl
theorem k_PS_noRowLeft : ps_cdV ps_tbl y_PS_noRowLeft prog_1_method_28_code 1 (some .boolean) := ⟨tw_125, tw_126, tw_108, tw_127⟩
theorem k_Val_wipe : ps_cdV ps_tbl y_Val_wipe prog_6_method_3_code 3 none := ⟨tw_128, tw_129, tw_69, tw_130⟩
theorem k_PS_addRow : ps_cdV ps_tbl y_PS_addRow prog_1_method_29_code 4 (some .int) := ⟨tw_131, tw_132, tw_108, tw_133⟩
set_option maxHeartbeats 4000000 in
set_option maxRecDepth 100000 in
/-- PageStore.values -/
theorem c_values (l : Launch) (dC : Nat → ClassId) (dI : Nat → Nat → Nat) (cI : ClassId) (tys : List (ClassId × FieldType)) (ht : tys[0]? = some (cI, FieldType.int)) (a q K : Nat → Nat) (S : Nat) (ck cu : Int32) (F : Nat → Nat → Int32) (N : Nat → Nat) (hw : ps_wf F N) (hKb : ∀ j, K j ≤ 65536) (hSb : S ≤ 15) (n : Int32) (hk1 : K 1 ≤ 32768) (mc ms : Nat) (hm : ¬ (n < 0 ∨ nI 32768 < n) → ¬ (16384 ≤ K 0 ∨ 32768 < K 1 + n.toNatClampNeg) → ps_rc N (K 0 + 1) ≤ mc ∧ ps_rs N (K 0 + 1) ≤ ms) : ps_mI classes l y_PS_values w_PS_values ({ frames := 5, cells := mc, slots := ms, locals := 110 }) (dC, dI) tys [.ref (a 0), .int n] (pw cI a q K S ck cu F N) (fun r u => ps_c (n < 0 ∨ nI 32768 < n) (r = -1 ∧ u = pw cI a q K S ck cu F N) (ps_c (16384 ≤ K 0 ∨ 32768 < K 1 + n.toNatClampNeg) (r = -3 ∧ u = pw cI a q K S ck cu F N) (∃ q1 : Nat → Nat, r = nI (K 0 + 1) ∧ u = pw cI a q1 (va_up (va_up K 1 (K 1 + n.toNatClampNeg)) 0 (K 0 + 1)) S ck cu (ps_Fr (ps_w (ps_w F 2 (K 1) (K 1 + n.toNatClampNeg)) 3 (K 1) (K 1 + n.toNatClampNeg)) (K 0 + 1) (nI 1) (nI (K 1)) n) (ps_Nr N (K 0 + 1))))) := by
  refine ps_mI_of (by decide) rfl (Nat.le_of_ble_eq_true rfl) ?_
  intro p e s m below meth c A ls C0 hA hK hP hD hS hl
  obtain ⟨hx, hb, hr, hml, hts, hown, hlocks, hin⟩ := C0
  have hl : lv_has ls 3 [(0, .ref (a 0)), (1, .int n)] := hl
  have hP : va_P (dC, dI) classes (pw cI a q K S ck cu F N) s.heap := hP
  have hD : va_D A (pw cI a q K S ck cu F N) := hD
  refine lv_iload_n hx hb d_PS_values_0 rfl (lv_at hl 1 rfl) ?_
  refine lv_if_lt (tgt := 10) hx hb d_PS_values_1 (by decide) (fun c_1 => ?_) (fun c_1 => ?_)
  · refine lv_iconst (v := (-1)) hx hb d_PS_values_10 (by decide) ?_
    exact ps_iret hx hb hr hlocks hK hP hD hS (Nat.zero_le _) (Nat.zero_le _) d_PS_values_11 (ps_cy (Or.inl c_1) ⟨rfl, rfl⟩)
  · refine lv_iload_n hx hb d_PS_values_4 rfl (lv_at hl 1 rfl) ?_
    refine lv_ldc (v := 32768) hx hb hown (hts _ tw_118) d_PS_values_5 ?_
    refine ps_top (z := nI 32768) (by decide) ?_
    refine lv_icmp_le (tgt := 12) hx hb d_PS_values_7 (by decide) (fun c_2 => ?_) (fun c_2 => ?_)
    · obtain ⟨n0, hn0, rfl⟩ := nI_of c_1
      have c_2 : n0 ≤ 32768 := (nI_leI hn0 (by decide)).mp c_2
      rw [nI_clamp hn0] at hm ⊢
      have hna : ¬ (nI n0 < 0 ∨ nI 32768 < nI n0) := fun q => q.elim (nI_pos hn0) (nI_nlt (by omega) (by decide))
      refine lv_aload_n hx hb d_PS_values_12 rfl (lv_at hl 0 rfl) ?_
      refine va_get (D := (dC, dI)) (ci := cPS) (v := .ref (a 1)) (C := R_PS) (T := F_PS) (N := 10) hx hb hts i_PS hown hK hP 0 rfl rfl 0 (by decide) (hts _ tw_97) (fun _ h9 => h9) rfl d_PS_values_13 ?_
      refine lv_iconst (v := nI 1) hx hb d_PS_values_16 (by decide) ?_
      refine va_iald hx hb hK hP 1 0 rfl ht (vp_in_nI (show 1 < 6 by decide) (by decide)) d_PS_values_17 ?_
      refine ps_top (z := nI (K 1)) (ps_kat _ 1 (by decide)) ?_
      refine lv_istore_n (lv' := [(2, .int (nI (K 1))), (0, .ref (a 0)), (1, .int (nI n0))]) hx hb d_PS_values_18 rfl hl (by decide) rfl (fun ls hl => ?_)
      refine lv_aload_n hx hb d_PS_values_19 rfl (lv_at hl 1 rfl) ?_
      refine ps_readI (wc := (pw cI a q K S ck cu F N)) hP hD hS hA [0, 1, 2, 3, 4, 5, 6, 7, 8, 9, 10, 11, 12, 13, 14, 15, 16, 17, 18, 19, 20, 21, 22, 23, 24, 25, 26, 27, 28, 29, 30, 31, 32, 33, 34, 35, 36, 37, 38, 39] rfl (fun _ _ h => h.1) (ps_runVI ⟨hx, hb, hml, hown, hts⟩ (c_noRow l dC dI cI tys ht a q K S ck cu F N hw hKb hSb) (ps_cwV ps_gd 0 hts tw_119 k_PS_noRowLeft e_PS_noRowLeft ⟨Nat.le_of_ble_eq_true rfl, Nat.le_of_ble_eq_true rfl⟩) hK hP hD [0, 1, 2, 3, 4, 5, 6, 7, 8, 9, 10, 11, 12, 13, 14, 15, 16, 17, 18, 19, 20, 21, 22, 23, 24, 25, 26, 27, 28, 29, 30, 31, 32, 33, 34, 35, 36, 37, 38, 39] (by decide) rfl 0 cPS rfl rfl rfl hl.1 rfl (Nat.le_of_ble_eq_true rfl) d_PS_values_20 ⟨Nat.zero_le _, Nat.zero_le _⟩) (fun r_3 H locs hr_3 hP hS => ?_)
      obtain ⟨-, hr_3⟩ := hr_3
      subst hr_3
      refine lv_if_ne (tgt := 34) hx hb d_PS_values_23 (by decide) (fun c_4 => ?_) (fun c_4 => ?_)
      · have c_4 := ps_ite1 c_4
        refine lv_bipush (v := (-3)) hx hb d_PS_values_34 (by decide) ?_
        exact ps_iret hx hb hr hlocks hK hP hD hS (Nat.zero_le _) (Nat.zero_le _) d_PS_values_36 (ps_cn hna (ps_cy (by omega) ⟨rfl, rfl⟩))
      · have c_4 := ps_ite0 c_4
        refine lv_iload_n hx hb d_PS_values_26 rfl (lv_at hl 2 rfl) ?_
        refine lv_ldc (v := 32768) hx hb hown (hts _ tw_118) d_PS_values_27 ?_
        refine ps_top (z := nI 32768) (by decide) ?_
        refine lv_iload_n hx hb d_PS_values_29 rfl (lv_at hl 0 rfl) ?_
        refine lv_isub hx hb d_PS_values_30 ?_
        refine ps_top (z := nI (32768 - (K 1))) (pk_sub (by have h0 := hKb 0; have h1 := hKb 1; have h2 := hKb 2; have h3 := hKb 3; have h4 := hKb 4; have h5 := hKb 5; omega)) ?_
        refine lv_icmp_le (tgt := 37) hx hb d_PS_values_31 (by decide) (fun c_5 => ?_) (fun c_5 => ?_)
        · have c_5 : n0 ≤ 32768 - (K 1) := (nI_leI (by have h0 := hKb 0; have h1 := hKb 1; have h2 := hKb 2; have h3 := hKb 3; have h4 := hKb 4; have h5 := hKb 5; omega) (by have h0 := hKb 0; have h1 := hKb 1; have h2 := hKb 2; have h3 := hKb 3; have h4 := hKb 4; have h5 := hKb 5; omega)).mp c_5
          refine lv_aload_n hx hb d_PS_values_37 rfl (lv_at hl 1 rfl) ?_
          refine va_get (D := (dC, dI)) (ci := cPS) (v := .ref (a 3)) (C := R_PS) (T := F_PS) (N := 10) hx hb hts i_PS hown hK hP 0 rfl rfl 4 (by decide) (hts _ tw_103) (fun _ h9 => h9) rfl d_PS_values_38 ?_
          refine lv_iload_n hx hb d_PS_values_41 rfl (lv_at hl 0 rfl) ?_
          refine lv_iload_n hx hb d_PS_values_42 rfl (lv_at hl 0 rfl) ?_
          refine lv_iload_n hx hb d_PS_values_43 rfl (lv_at hl 2 rfl) ?_
          refine lv_iadd hx hb d_PS_values_44 ?_
          refine ps_top (z := nI (K 1 + n0)) (nI_add _ _) ?_
          refine ps_afterV (wc := [(a 3, .inr (cVal, [.ref (a 10), .ref (a 11)])), (a 10, .inr (cCol, [.int (nI 32768), .ref (q 2)])), (q 2, .inl (cI, N 2, .inl (F 2))), (a 11, .inr (cCol, [.int (nI 32768), .ref (q 3)])), (q 3, .inl (cI, N 3, .inl (F 3)))]) (wr := [0, 1, 2, 4, 5, 6, 7, 8, 9, 10, 11, 16, 17, 18, 19, 20, 21, 22, 23, 24, 25, 26, 27, 28, 29, 30, 31, 32, 33, 34, 35, 36, 37, 38, 39].filterMap (fun z9 => ((pw cI a q K S ck cu F N) : va_W)[z9]?)) hP hD hS hA [3, 12, 13, 14, 15] [0, 1, 2, 4, 5, 6, 7, 8, 9, 10, 11, 16, 17, 18, 19, 20, 21, 22, 23, 24, 25, 26, 27, 28, 29, 30, 31, 32, 33, 34, 35, 36, 37, 38, 39] rfl rfl (by decide) (by decide) (ps_runVV ⟨hx, hb, hml, hown, hts⟩ (c_vwipe l dC dI cI tys ht (a 3) (a 10) (q 2) (a 11) (q 3) 32768 (N 2) (N 3) (F 2) (F 3) (K 1) (K 1 + n0) (hw.z 2 (by decide)) (hw.z 3 (by decide)) (hw.n 2 (by decide)) (hw.n 3 (by decide)) (by omega) (by omega)) (ps_cwV ps_gd 2 hts tw_120 k_Val_wipe e_Val_wipe ⟨Nat.le_of_ble_eq_true rfl, Nat.le_of_ble_eq_true rfl⟩) hK hP hD [3, 12, 13, 14, 15] (by decide) rfl 0 cVal rfl rfl rfl hl.1 rfl (Nat.le_of_ble_eq_true rfl) d_PS_values_45 ⟨Nat.zero_le _, Nat.zero_le _⟩) (fun u_6 H locs hu_6 hP hD hS => ?_)
          subst hu_6
          obtain ⟨hP, hD⟩ := ps_perm (ws' := (pw cI a q K S ck cu (va_up (va_up F 2 (ps_fil (F 2) (K 1) (K 1 + n0) 0)) 3 (ps_fil (F 3) (K 1) (K 1 + n0) 0)) N)) hP hD [0, 1, 2, 35, 3, 4, 5, 6, 7, 8, 9, 10, 36, 37, 38, 39, 11, 12, 13, 14, 15, 16, 17, 18, 19, 20, 21, 22, 23, 24, 25, 26, 27, 28, 29, 30, 31, 32, 33, 34] (by decide) rfl
          refine lv_aload_n hx hb d_PS_values_48 rfl (lv_at hl 1 rfl) ?_
          refine va_get (D := (dC, dI)) (ci := cPS) (v := .ref (a 1)) (C := R_PS) (T := F_PS) (N := 10) hx hb hts i_PS hown hK hP 0 rfl rfl 0 (by decide) (hts _ tw_97) (fun _ h9 => h9) rfl d_PS_values_49 ?_
          refine lv_iconst (v := nI 1) hx hb d_PS_values_52 (by decide) ?_
          refine lv_iload_n hx hb d_PS_values_53 rfl (lv_at hl 0 rfl) ?_
          refine lv_iload_n hx hb d_PS_values_54 rfl (lv_at hl 2 rfl) ?_
          refine lv_iadd hx hb d_PS_values_55 ?_
          refine ps_top (z := nI (K 1 + n0)) (nI_add _ _) ?_
          refine va_iast hx hb hK hP hD hS 1 0 rfl ht (vp_in_nI (show 1 < 6 by decide) (by decide)) d_PS_values_56 (fun H locs hP hD hS => ?_)
          rw [nI_clamp (show 1 < 2 ^ 31 by decide)] at hP hD
          rw [ps_kup] at hP hD
          have hP : va_P (dC, dI) classes (pw cI a q (va_up K 1 (K 1 + n0)) S ck cu (va_up (va_up F 2 (ps_fil (F 2) (K 1) (K 1 + n0) 0)) 3 (ps_fil (F 3) (K 1) (K 1 + n0) 0)) N) H := hP
          have hD : va_D A (pw cI a q (va_up K 1 (K 1 + n0)) S ck cu (va_up (va_up F 2 (ps_fil (F 2) (K 1) (K 1 + n0) 0)) 3 (ps_fil (F 3) (K 1) (K 1 + n0) 0)) N) := hD
          refine lv_aload_n hx hb d_PS_values_57 rfl (lv_at hl 1 rfl) ?_
          refine lv_iconst (v := nI 1) hx hb d_PS_values_58 (by decide) ?_
          refine lv_iload_n hx hb d_PS_values_59 rfl (lv_at hl 0 rfl) ?_
          refine lv_iload_n hx hb d_PS_values_60 rfl (lv_at hl 2 rfl) ?_
          refine ps_afterI (wc := (pw cI a q (va_up K 1 (K 1 + n0)) S ck cu (va_up (va_up F 2 (ps_fil (F 2) (K 1) (K 1 + n0) 0)) 3 (ps_fil (F 3) (K 1) (K 1 + n0) 0)) N)) (wr := []) hP hD hS hA [0, 1, 2, 3, 4, 5, 6, 7, 8, 9, 10, 11, 12, 13, 14, 15, 16, 17, 18, 19, 20, 21, 22, 23, 24, 25, 26, 27, 28, 29, 30, 31, 32, 33, 34, 35, 36, 37, 38, 39] [] rfl rfl (by decide) (by decide) (ps_runVI ⟨hx, hb, hml, hown, hts⟩ (c_addRow l dC dI cI tys ht a q (va_up K 1 (K 1 + n0)) S ck cu (va_up (va_up F 2 (ps_fil (F 2) (K 1) (K 1 + n0) 0)) 3 (ps_fil (F 3) (K 1) (K 1 + n0) 0)) N (ps_wf_w 3 (ps_wf_w 2 hw)) (ps_kb (x := K 1 + n0) hKb (by omega)) hSb (nI 1) (nI (K 1)) (nI n0) (show K 0 < 16384 by omega)) (ps_cwV ps_gd 3 hts tw_121 k_PS_addRow e_PS_addRow ⟨Nat.le_of_ble_eq_true rfl, Nat.le_of_ble_eq_true rfl⟩) hK hP hD [0, 1, 2, 3, 4, 5, 6, 7, 8, 9, 10, 11, 12, 13, 14, 15, 16, 17, 18, 19, 20, 21, 22, 23, 24, 25, 26, 27, 28, 29, 30, 31, 32, 33, 34, 35, 36, 37, 38, 39] (by decide) rfl 0 cPS rfl rfl rfl hl.1 rfl (Nat.le_of_ble_eq_true rfl) d_PS_values_61 ⟨by have h1 := hm hna (by omega); show 0 + 0 + 0 + ps_rc N (K 0 + 1) ≤ mc; omega, by have h1 := hm hna (by omega); show 0 + 0 + 0 + ps_rs N (K 0 + 1) ≤ ms; omega⟩) (fun r_9 u_8 H locs hu_8 hP hD hS => ?_)
          obtain ⟨hr_9, q_10, hu_8⟩ := hu_8
          subst hr_9
          subst hu_8
          have hP : va_P (dC, dI) classes (pw cI a q_10 (va_up (va_up K 1 (K 1 + n0)) 0 (K 0 + 1)) S ck cu (va_up (va_up (va_up (va_up (va_up F 2 (ps_fil (F 2) (K 1) (K 1 + n0) 0)) 3 (ps_fil (F 3) (K 1) (K 1 + n0) 0)) 4 (upd (F 4) (K 0 + 1) (nI 1))) 5 (upd (F 5) (K 0 + 1) (nI (K 1)))) 6 (upd (F 6) (K 0 + 1) (nI n0))) (va_up (va_up (va_up N 4 (ps_len 16385 (N 4) (K 0 + 1))) 5 (ps_len 16385 (N 5) (K 0 + 1))) 6 (ps_len 16385 (N 6) (K 0 + 1)))) H := hP
          have hD : va_D A (pw cI a q_10 (va_up (va_up K 1 (K 1 + n0)) 0 (K 0 + 1)) S ck cu (va_up (va_up (va_up (va_up (va_up F 2 (ps_fil (F 2) (K 1) (K 1 + n0) 0)) 3 (ps_fil (F 3) (K 1) (K 1 + n0) 0)) 4 (upd (F 4) (K 0 + 1) (nI 1))) 5 (upd (F 5) (K 0 + 1) (nI (K 1)))) 6 (upd (F 6) (K 0 + 1) (nI n0))) (va_up (va_up (va_up N 4 (ps_len 16385 (N 4) (K 0 + 1))) 5 (ps_len 16385 (N 5) (K 0 + 1))) 6 (ps_len 16385 (N 6) (K 0 + 1)))) := hD
          exact ps_iret hx hb hr hlocks hK hP hD hS (by have h1 := hm hna (by omega); show 0 + 0 + 0 + ps_rc N (K 0 + 1) ≤ mc; omega) (by have h1 := hm hna (by omega); show 0 + 0 + 0 + ps_rs N (K 0 + 1) ≤ ms; omega) d_PS_values_64 (ps_cn hna (ps_cn (by omega) ⟨_, rfl, rfl⟩))
        · have c_5 : ¬ n0 ≤ 32768 - (K 1) := fun q => c_5 ((nI_leI (by have h0 := hKb 0; have h1 := hKb 1; have h2 := hKb 2; have h3 := hKb 3; have h4 := hKb 4; have h5 := hKb 5; omega) (by have h0 := hKb 0; have h1 := hKb 1; have h2 := hKb 2; have h3 := hKb 3; have h4 := hKb 4; have h5 := hKb 5; omega)).mpr q)
          refine lv_bipush (v := (-3)) hx hb d_PS_values_34 (by decide) ?_
          exact ps_iret hx hb hr hlocks hK hP hD hS (Nat.zero_le _) (Nat.zero_le _) d_PS_values_36 (ps_cn hna (ps_cy (by omega) ⟨rfl, rfl⟩))
    · refine lv_iconst (v := (-1)) hx hb d_PS_values_10 (by decide) ?_
      exact ps_iret hx hb hr hlocks hK hP hD hS (Nat.zero_le _) (Nat.zero_le _) d_PS_values_11 (ps_cy (Or.inr (k2_lt c_2)) ⟨rfl, rfl⟩)

set_option maxHeartbeats 4000000 in
set_option maxRecDepth 100000 in
/-- PageStore.bytes -/
theorem c_bytes (l : Launch) (dC : Nat → ClassId) (dI : Nat → Nat → Nat) (cI : ClassId) (tys : List (ClassId × FieldType)) (ht : tys[0]? = some (cI, FieldType.int)) (a q K : Nat → Nat) (S : Nat) (ck cu : Int32) (F : Nat → Nat → Int32) (N : Nat → Nat) (hw : ps_wf F N) (hKb : ∀ j, K j ≤ 65536) (hSb : S ≤ 15) (n : Int32) (hk1 : K 2 ≤ 65536) (mc ms : Nat) (hm : ¬ (n < 0 ∨ nI 65536 < n) → ¬ (16384 ≤ K 0 ∨ 65536 < K 2 + n.toNatClampNeg) → ps_rc N (K 0 + 1) ≤ mc ∧ ps_rs N (K 0 + 1) ≤ ms) : ps_mI classes l y_PS_bytes w_PS_bytes ({ frames := 5, cells := mc, slots := ms, locals := 110 }) (dC, dI) tys [.ref (a 0), .int n] (pw cI a q K S ck cu F N) (fun r u => ps_c (n < 0 ∨ nI 65536 < n) (r = -1 ∧ u = pw cI a q K S ck cu F N) (ps_c (16384 ≤ K 0 ∨ 65536 < K 2 + n.toNatClampNeg) (r = -3 ∧ u = pw cI a q K S ck cu F N) (∃ q1 : Nat → Nat, r = nI (K 0 + 1) ∧ u = pw cI a q1 (va_up (va_up K 2 (K 2 + n.toNatClampNeg)) 0 (K 0 + 1)) S ck cu (ps_Fr (ps_w F 1 (K 2) (K 2 + n.toNatClampNeg)) (K 0 + 1) (nI 2) (nI (K 2)) n) (ps_Nr N (K 0 + 1))))) := by
  refine ps_mI_of (by decide) rfl (Nat.le_of_ble_eq_true rfl) ?_
  intro p e s m below meth c A ls C0 hA hK hP hD hS hl
  obtain ⟨hx, hb, hr, hml, hts, hown, hlocks, hin⟩ := C0
  have hl : lv_has ls 3 [(0, .ref (a 0)), (1, .int n)] := hl
  have hP : va_P (dC, dI) classes (pw cI a q K S ck cu F N) s.heap := hP
  have hD : va_D A (pw cI a q K S ck cu F N) := hD
  refine lv_iload_n hx hb d_PS_bytes_0 rfl (lv_at hl 1 rfl) ?_
  refine lv_if_lt (tgt := 10) hx hb d_PS_bytes_1 (by decide) (fun c_1 => ?_) (fun c_1 => ?_)
  · refine lv_iconst (v := (-1)) hx hb d_PS_bytes_10 (by decide) ?_
    exact ps_iret hx hb hr hlocks hK hP hD hS (Nat.zero_le _) (Nat.zero_le _) d_PS_bytes_11 (ps_cy (Or.inl c_1) ⟨rfl, rfl⟩)
  · refine lv_iload_n hx hb d_PS_bytes_4 rfl (lv_at hl 1 rfl) ?_
    refine lv_ldc (v := 65536) hx hb hown (hts _ tw_122) d_PS_bytes_5 ?_
    refine ps_top (z := nI 65536) (by decide) ?_
    refine lv_icmp_le (tgt := 12) hx hb d_PS_bytes_7 (by decide) (fun c_2 => ?_) (fun c_2 => ?_)
    · obtain ⟨n0, hn0, rfl⟩ := nI_of c_1
      have c_2 : n0 ≤ 65536 := (nI_leI hn0 (by decide)).mp c_2
      rw [nI_clamp hn0] at hm ⊢
      have hna : ¬ (nI n0 < 0 ∨ nI 65536 < nI n0) := fun q => q.elim (nI_pos hn0) (nI_nlt (by omega) (by decide))
      refine lv_aload_n hx hb d_PS_bytes_12 rfl (lv_at hl 0 rfl) ?_
      refine va_get (D := (dC, dI)) (ci := cPS) (v := .ref (a 1)) (C := R_PS) (T := F_PS) (N := 10) hx hb hts i_PS hown hK hP 0 rfl rfl 0 (by decide) (hts _ tw_97) (fun _ h9 => h9) rfl d_PS_bytes_13 ?_
      refine lv_iconst (v := nI 2) hx hb d_PS_bytes_16 (by decide) ?_
      refine va_iald hx hb hK hP 1 0 rfl ht (vp_in_nI (show 2 < 6 by decide) (by decide)) d_PS_bytes_17 ?_
      refine ps_top (z := nI (K 2)) (ps_kat _ 2 (by decide)) ?_
      refine lv_istore_n (lv' := [(2, .int (nI (K 2))), (0, .ref (a 0)), (1, .int (nI n0))]) hx hb d_PS_bytes_18 rfl hl (by decide) rfl (fun ls hl => ?_)
      refine lv_aload_n hx hb d_PS_bytes_19 rfl (lv_at hl 1 rfl) ?_
      refine ps_readI (wc := (pw cI a q K S ck cu F N)) hP hD hS hA [0, 1, 2, 3, 4, 5, 6, 7, 8, 9, 10, 11, 12, 13, 14, 15, 16, 17, 18, 19, 20, 21, 22, 23, 24, 25, 26, 27, 28, 29, 30, 31, 32, 33, 34, 35, 36, 37, 38, 39] rfl (fun _ _ h => h.1) (ps_runVI ⟨hx, hb, hml, hown, hts⟩ (c_noRow l dC dI cI tys ht a q K S ck cu F N hw hKb hSb) (ps_cwV ps_gd 0 hts tw_119 k_PS_noRowLeft e_PS_noRowLeft ⟨Nat.le_of_ble_eq_true rfl, Nat.le_of_ble_eq_true rfl⟩) hK hP hD [0, 1, 2, 3, 4, 5, 6, 7, 8, 9, 10, 11, 12, 13, 14, 15, 16, 17, 18, 19, 20, 21, 22, 23, 24, 25, 26, 27, 28, 29, 30, 31, 32, 33, 34, 35, 36, 37, 38, 39] (by decide) rfl 0 cPS rfl rfl rfl hl.1 rfl (Nat.le_of_ble_eq_true rfl) d_PS_bytes_20 ⟨Nat.zero_le _, Nat.zero_le _⟩) (fun r_3 H locs hr_3 hP hS => ?_)
      obtain ⟨-, hr_3⟩ := hr_3
      subst hr_3
      refine lv_if_ne (tgt := 34) hx hb d_PS_bytes_23 (by decide) (fun c_4 => ?_) (fun c_4 => ?_)
      · have c_4 := ps_ite1 c_4
        refine lv_bipush (v := (-3)) hx hb d_PS_bytes_34 (by decide) ?_
        exact ps_iret hx hb hr hlocks hK hP hD hS (Nat.zero_le _) (Nat.zero_le _) d_PS_bytes_36 (ps_cn hna (ps_cy (by omega) ⟨rfl, rfl⟩))
      · have c_4 := ps_ite0 c_4
        refine lv_iload_n hx hb d_PS_bytes_26 rfl (lv_at hl 2 rfl) ?_
        refine lv_ldc (v := 65536) hx hb hown (hts _ tw_122) d_PS_bytes_27 ?_
        refine ps_top (z := nI 65536) (by decide) ?_
        refine lv_iload_n hx hb d_PS_bytes_29 rfl (lv_at hl 0 rfl) ?_
        refine lv_isub hx hb d_PS_bytes_30 ?_
        refine ps_top (z := nI (65536 - (K 2))) (pk_sub (by have h0 := hKb 0; have h1 := hKb 1; have h2 := hKb 2; have h3 := hKb 3; have h4 := hKb 4; have h5 := hKb 5; omega)) ?_
        refine lv_icmp_le (tgt := 37) hx hb d_PS_bytes_31 (by decide) (fun c_5 => ?_) (fun c_5 => ?_)
        · have c_5 : n0 ≤ 65536 - (K 2) := (nI_leI (by have h0 := hKb 0; have h1 := hKb 1; have h2 := hKb 2; have h3 := hKb 3; have h4 := hKb 4; have h5 := hKb 5; omega) (by have h0 := hKb 0; have h1 := hKb 1; have h2 := hKb 2; have h3 := hKb 3; have h4 := hKb 4; have h5 := hKb 5; omega)).mp c_5
          refine lv_aload_n hx hb d_PS_bytes_37 rfl (lv_at hl 1 rfl) ?_
          refine va_get (D := (dC, dI)) (ci := cPS) (v := .ref (a 9)) (C := R_PS) (T := F_PS) (N := 10) hx hb hts i_PS hown hK hP 0 rfl rfl 5 (by decide) (hts _ tw_123) (fun _ h9 => h9) rfl d_PS_bytes_38 ?_
          refine lv_iload_n hx hb d_PS_bytes_41 rfl (lv_at hl 0 rfl) ?_
          refine lv_iload_n hx hb d_PS_bytes_42 rfl (lv_at hl 0 rfl) ?_
          refine lv_iload_n hx hb d_PS_bytes_43 rfl (lv_at hl 2 rfl) ?_
          refine lv_iadd hx hb d_PS_bytes_44 ?_
          refine ps_top (z := nI (K 2 + n0)) (nI_add _ _) ?_
          refine ps_afterV (wc := [(a 9, .inr (cCol, [.int (nI 65536), .ref (q 1)])), (q 1, .inl (cI, N 1, .inl (F 1)))]) (wr := [0, 1, 2, 3, 4, 5, 6, 7, 8, 9, 12, 13, 14, 15, 16, 17, 18, 19, 20, 21, 22, 23, 24, 25, 26, 27, 28, 29, 30, 31, 32, 33, 34, 35, 36, 37, 38, 39].filterMap (fun z9 => ((pw cI a q K S ck cu F N) : va_W)[z9]?)) hP hD hS hA [10, 11] [0, 1, 2, 3, 4, 5, 6, 7, 8, 9, 12, 13, 14, 15, 16, 17, 18, 19, 20, 21, 22, 23, 24, 25, 26, 27, 28, 29, 30, 31, 32, 33, 34, 35, 36, 37, 38, 39] rfl rfl (by decide) (by decide) (ps_runVV ⟨hx, hb, hml, hown, hts⟩ (c_wipe l dC dI cI tys ht (a 9) (q 1) 65536 (N 1) (F 1) (K 2) (K 2 + n0) (hw.z 1 (by decide)) (hw.n 1 (by decide)) (by omega) (by omega)) (ps_cwV ps_gd 2 hts tw_124 k_Col_wipe e_Col_wipe ⟨Nat.le_of_ble_eq_true rfl, Nat.le_of_ble_eq_true rfl⟩) hK hP hD [10, 11] (by decide) rfl 0 cCol rfl rfl rfl hl.1 rfl (Nat.le_of_ble_eq_true rfl) d_PS_bytes_45 ⟨Nat.zero_le _, Nat.zero_le _⟩) (fun u_6 H locs hu_6 hP hD hS => ?_)
          subst hu_6
          obtain ⟨hP, hD⟩ := ps_perm (ws' := (pw cI a q K S ck cu (va_up F 1 (ps_fil (F 1) (K 2) (K 2 + n0) 0)) N)) hP hD [0, 1, 2, 3, 4, 5, 6, 7, 8, 9, 38, 39, 10, 11, 12, 13, 14, 15, 16, 17, 18, 19, 20, 21, 22, 23, 24, 25, 26, 27, 28, 29, 30, 31, 32, 33, 34, 35, 36, 37] (by decide) rfl
          refine lv_aload_n hx hb d_PS_bytes_48 rfl (lv_at hl 1 rfl) ?_
          refine va_get (D := (dC, dI)) (ci := cPS) (v := .ref (a 1)) (C := R_PS) (T := F_PS) (N := 10) hx hb hts i_PS hown hK hP 0 rfl rfl 0 (by decide) (hts _ tw_97) (fun _ h9 => h9) rfl d_PS_bytes_49 ?_
          refine lv_iconst (v := nI 2) hx hb d_PS_bytes_52 (by decide) ?_
          refine lv_iload_n hx hb d_PS_bytes_53 rfl (lv_at hl 0 rfl) ?_
          refine lv_iload_n hx hb d_PS_bytes_54 rfl (lv_at hl 2 rfl) ?_
          refine lv_iadd hx hb d_PS_bytes_55 ?_
          refine ps_top (z := nI (K 2 + n0)) (nI_add _ _) ?_
          refine va_iast hx hb hK hP hD hS 1 0 rfl ht (vp_in_nI (show 2 < 6 by decide) (by decide)) d_PS_bytes_56 (fun H locs hP hD hS => ?_)
          rw [nI_clamp (show 2 < 2 ^ 31 by decide)] at hP hD
          rw [ps_kup] at hP hD
          have hP : va_P (dC, dI) classes (pw cI a q (va_up K 2 (K 2 + n0)) S ck cu (va_up F 1 (ps_fil (F 1) (K 2) (K 2 + n0) 0)) N) H := hP
          have hD : va_D A (pw cI a q (va_up K 2 (K 2 + n0)) S ck cu (va_up F 1 (ps_fil (F 1) (K 2) (K 2 + n0) 0)) N) := hD
          refine lv_aload_n hx hb d_PS_bytes_57 rfl (lv_at hl 1 rfl) ?_
          refine lv_iconst (v := nI 2) hx hb d_PS_bytes_58 (by decide) ?_
          refine lv_iload_n hx hb d_PS_bytes_59 rfl (lv_at hl 0 rfl) ?_
          refine lv_iload_n hx hb d_PS_bytes_60 rfl (lv_at hl 2 rfl) ?_
          refine ps_afterI (wc := (pw cI a q (va_up K 2 (K 2 + n0)) S ck cu (va_up F 1 (ps_fil (F 1) (K 2) (K 2 + n0) 0)) N)) (wr := []) hP hD hS hA [0, 1, 2, 3, 4, 5, 6, 7, 8, 9, 10, 11, 12, 13, 14, 15, 16, 17, 18, 19, 20, 21, 22, 23, 24, 25, 26, 27, 28, 29, 30, 31, 32, 33, 34, 35, 36, 37, 38, 39] [] rfl rfl (by decide) (by decide) (ps_runVI ⟨hx, hb, hml, hown, hts⟩ (c_addRow l dC dI cI tys ht a q (va_up K 2 (K 2 + n0)) S ck cu (va_up F 1 (ps_fil (F 1) (K 2) (K 2 + n0) 0)) N (ps_wf_w 1 hw) (ps_kb (x := K 2 + n0) hKb (by omega)) hSb (nI 2) (nI (K 2)) (nI n0) (show K 0 < 16384 by omega)) (ps_cwV ps_gd 3 hts tw_121 k_PS_addRow e_PS_addRow ⟨Nat.le_of_ble_eq_true rfl, Nat.le_of_ble_eq_true rfl⟩) hK hP hD [0, 1, 2, 3, 4, 5, 6, 7, 8, 9, 10, 11, 12, 13, 14, 15, 16, 17, 18, 19, 20, 21, 22, 23, 24, 25, 26, 27, 28, 29, 30, 31, 32, 33, 34, 35, 36, 37, 38, 39] (by decide) rfl 0 cPS rfl rfl rfl hl.1 rfl (Nat.le_of_ble_eq_true rfl) d_PS_bytes_61 ⟨by have h1 := hm hna (by omega); show 0 + 0 + 0 + ps_rc N (K 0 + 1) ≤ mc; omega, by have h1 := hm hna (by omega); show 0 + 0 + 0 + ps_rs N (K 0 + 1) ≤ ms; omega⟩) (fun r_9 u_8 H locs hu_8 hP hD hS => ?_)
          obtain ⟨hr_9, q_10, hu_8⟩ := hu_8
          subst hr_9
          subst hu_8
          have hP : va_P (dC, dI) classes (pw cI a q_10 (va_up (va_up K 2 (K 2 + n0)) 0 (K 0 + 1)) S ck cu (va_up (va_up (va_up (va_up F 1 (ps_fil (F 1) (K 2) (K 2 + n0) 0)) 4 (upd (F 4) (K 0 + 1) (nI 2))) 5 (upd (F 5) (K 0 + 1) (nI (K 2)))) 6 (upd (F 6) (K 0 + 1) (nI n0))) (va_up (va_up (va_up N 4 (ps_len 16385 (N 4) (K 0 + 1))) 5 (ps_len 16385 (N 5) (K 0 + 1))) 6 (ps_len 16385 (N 6) (K 0 + 1)))) H := hP
          have hD : va_D A (pw cI a q_10 (va_up (va_up K 2 (K 2 + n0)) 0 (K 0 + 1)) S ck cu (va_up (va_up (va_up (va_up F 1 (ps_fil (F 1) (K 2) (K 2 + n0) 0)) 4 (upd (F 4) (K 0 + 1) (nI 2))) 5 (upd (F 5) (K 0 + 1) (nI (K 2)))) 6 (upd (F 6) (K 0 + 1) (nI n0))) (va_up (va_up (va_up N 4 (ps_len 16385 (N 4) (K 0 + 1))) 5 (ps_len 16385 (N 5) (K 0 + 1))) 6 (ps_len 16385 (N 6) (K 0 + 1)))) := hD
          exact ps_iret hx hb hr hlocks hK hP hD hS (by have h1 := hm hna (by omega); show 0 + 0 + 0 + ps_rc N (K 0 + 1) ≤ mc; omega) (by have h1 := hm hna (by omega); show 0 + 0 + 0 + ps_rs N (K 0 + 1) ≤ ms; omega) d_PS_bytes_64 (ps_cn hna (ps_cn (by omega) ⟨_, rfl, rfl⟩))
        · have c_5 : ¬ n0 ≤ 65536 - (K 2) := fun q => c_5 ((nI_leI (by have h0 := hKb 0; have h1 := hKb 1; have h2 := hKb 2; have h3 := hKb 3; have h4 := hKb 4; have h5 := hKb 5; omega) (by have h0 := hKb 0; have h1 := hKb 1; have h2 := hKb 2; have h3 := hKb 3; have h4 := hKb 4; have h5 := hKb 5; omega)).mpr q)
          refine lv_bipush (v := (-3)) hx hb d_PS_bytes_34 (by decide) ?_
          exact ps_iret hx hb hr hlocks hK hP hD hS (Nat.zero_le _) (Nat.zero_le _) d_PS_bytes_36 (ps_cn hna (ps_cy (by omega) ⟨rfl, rfl⟩))
    · refine lv_iconst (v := (-1)) hx hb d_PS_bytes_10 (by decide) ?_
      exact ps_iret hx hb hr hlocks hK hP hD hS (Nat.zero_le _) (Nat.zero_le _) d_PS_bytes_11 (ps_cy (Or.inr (k2_lt c_2)) ⟨rfl, rfl⟩)
end
section
theorem tw_134 : (.methodLink "PageStore" 68 ⟨"PageStore", "isRow", "(I)Z"⟩ : Cond) ∈ ps_tbl := ps_t1 220 rfl rfl
theorem tw_135 : (.fieldLink "PageStore" 79 "PageStore$Rows" "sorts" "LPageStore$Column;" : Cond) ∈ ps_tbl := ps_t1 42 rfl rfl
theorem tw_136 : (.fieldLink "PageStore" 72 "PageStore$Rows" "lengths" "LPageStore$Column;" : Cond) ∈ ps_tbl := ps_t1 46 rfl rfl
theorem tw_137 : (.fieldLink "PageStore" 82 "PageStore$Rows" "starts" "LPageStore$Column;" : Cond) ∈ ps_tbl := ps_t1 44 rfl rfl
theorem tw_138 : (.instanceMethod ⟨"PageStore", "isRow", "(I)Z"⟩ : Cond) ∈ ps_tbl := ps_t1 222 rfl rfl
theorem tw_139 : (.selects "PageStore" ⟨"PageStore", "isRow", "(I)Z"⟩ ⟨"PageStore", "isRow", "(I)Z"⟩ : Cond) ∈ ps_tbl := ps_ts (y := ⟨"PageStore", "isRow", "(I)Z"⟩) (n := 10) 2 rfl rfl
theorem tw_140 : (.code ⟨"PageStore", "isRow", "(I)Z"⟩ prog_1_method_24_code 2 (some .boolean) : Cond) ∈ ps_tbl := ps_t1 223 rfl rfl
theorem k_PS_isRow : ps_cdV ps_tbl y_PS_isRow prog_1_method_24_code 2 (some .boolean) := ⟨tw_138, tw_139, tw_108, tw_140⟩
theorem ps_m1 {i : Nat} (h : i < 2 ^ 31) : ¬ nI i = -1 := fun q => by
  have h1 := congrArg Int32.toInt q
  rw [nI_toInt h] at h1
  have h2 : (-1 : Int32).toInt = -1 := by decide
  omega
theorem ps_sub_le {f n l : Nat} (hf : f < 2 ^ 31) (hn : n < 2 ^ 31) (hl : l ≤ 65536) : nI f ≤ nI l - nI n ↔ f + n ≤ l := by
  rw [Int32.le_iff_toInt_le, Int32.toInt_sub, nI_toInt hf, nI_toInt hn, nI_toInt (by omega)]
  unfold Int.bmod
  simp only []
  split <;> omega
/-- the rows are in order, and lie in what is taken -/
def ps_rows (K : Nat → Nat) (F : Nat → Nat → Int32) : Prop := ∀ r, 1 ≤ r → r ≤ K 0 → ∃ s l : Nat, F 5 r = nI s ∧ F 6 r = nI l ∧ ((F 4 r = nI 1 ∧ s + l ≤ K 1) ∨ (F 4 r = nI 2 ∧ s + l ≤ K 2))
/-- there is such a row of sort x, and such a place -/
def ps_ok (K : Nat → Nat) (F : Nat → Nat → Int32) (x row place : Int32) : Prop := (nI 1 ≤ row ∧ row ≤ nI (K 0)) ∧ F 4 row.toNatClampNeg = x ∧ ¬ place < 0 ∧ place < F 6 row.toNatClampNeg
def ps_ix (F : Nat → Nat → Int32) (row place : Int32) : Nat := (F 5 row.toNatClampNeg).toNatClampNeg + place.toNatClampNeg
theorem ps_ok_ix {K : Nat → Nat} {F : Nat → Nat → Int32} {x : Nat} {row place : Int32} (hb : ∀ j, K j ≤ 65536) (hr : ps_rows K F) (hx : x = 1 ∨ x = 2) (h : ps_ok K F (nI x) row place) : F 5 row.toNatClampNeg + place = nI (ps_ix F row place) ∧ ps_ix F row place < K x := by
  obtain ⟨h1, h2, h3, h4⟩ := h
  obtain ⟨j, hj1, hj2, rfl⟩ := ps_rng (by have := hb 0; omega) h1
  have b0 := hb 0
  have b1 := hb 1
  have b2 := hb 2
  rw [nI_clamp (by omega)] at h2 h4 ⊢
  obtain ⟨s, l, e5, e6, hs⟩ := hr j hj1 hj2
  obtain ⟨p, hp, rfl⟩ := nI_of h3
  unfold ps_ix
  rw [nI_clamp (by omega), e5]
  rw [e6] at h4
  have hl : l < 2 ^ 31 := by rcases hs with q | q <;> omega
  have hpl := (nI_ltI hp hl).mp h4
  have hs31 : s < 2 ^ 31 := by rcases hs with q | q <;> omega
  rw [nI_clamp hs31, nI_clamp hp, nI_add]
  refine ⟨rfl, ?_⟩
  rcases hs with ⟨q1, q2⟩ | ⟨q1, q2⟩
  · rw [q1] at h2
    rcases hx with rfl | rfl
    · omega
    · exact absurd h2 (by decide)
  · rw [q1] at h2
    rcases hx with rfl | rfl
    · exact absurd h2 (by decide)
    · omega
/-- the notes that a save writes, w of them; and how long their row is then -/
def ps_nt (f : Nat → Int32) (K : Nat → Nat) (b : Nat) : Nat → Nat → Int32
  | 0 => f
  | w + 1 => upd (ps_nt f K b w) (b + w) (nI (K w))
def ps_nl (n b : Nat) : Nat → Nat
  | 0 => n
  | w + 1 => ps_len 90 (ps_nl n b w) (b + w)
theorem ps_nl_le {n b w : Nat} (hn : n ≤ 90) (hb : b + w ≤ 90) : ps_nl n b w ≤ 90 := by
  induction w with
  | zero => exact hn
  | succ w ih => exact ps_len_le (ih (by omega)) (by omega)
theorem ps_nl_ge (n b w : Nat) : n ≤ ps_nl n b w := by
  induction w with
  | zero => exact Nat.le_refl _
  | succ w ih => exact Nat.le_trans ih (ps_len_ge _ _ _)
theorem ps_nl_mono (n b : Nat) {w v : Nat} (h : w ≤ v) : ps_nl n b w ≤ ps_nl n b v := by
  induction v with
  | zero => rw [Nat.le_zero.mp h]; exact Nat.le_refl _
  | succ v ih =>
    by_cases e : w = v + 1
    · subst e; exact Nat.le_refl _
    · exact Nat.le_trans (ih (by omega)) (ps_len_ge _ _ _)
theorem ps_nt_z {f : Nat → Int32} {K : Nat → Nat} {n b w : Nat} (h : ps_Z n f) : ps_Z (ps_nl n b w) (ps_nt f K b w) := by
  induction w with
  | zero => exact h
  | succ w ih => exact ps_Z_upd ih

set_option maxHeartbeats 4000000 in
set_option maxRecDepth 100000 in
/-- PageStore.sort -/
theorem c_sort (l : Launch) (dC : Nat → ClassId) (dI : Nat → Nat → Nat) (cI : ClassId) (tys : List (ClassId × FieldType)) (ht : tys[0]? = some (cI, FieldType.int)) (a q K : Nat → Nat) (S : Nat) (ck cu : Int32) (F : Nat → Nat → Int32) (N : Nat → Nat) (hw : ps_wf F N) (hKb : ∀ j, K j ≤ 65536) (hSb : S ≤ 15) (row : Int32) : ps_mI classes l y_PS_sort w_PS_sort ({ frames := 1, cells := 0, slots := 0, locals := 21 }) (dC, dI) tys [.ref (a 0), .int row] (pw cI a q K S ck cu F N) (fun r u => u = pw cI a q K S ck cu F N ∧ ps_c (nI 1 ≤ row ∧ row ≤ nI (K 0)) (r = F 4 row.toNatClampNeg) (r = -1)) := by
  refine ps_mI_of (by decide) rfl (Nat.le_of_ble_eq_true rfl) ?_
  intro p e s m below meth c A ls C0 hA hK hP hD hS hl
  obtain ⟨hx, hb, hr, hml, hts, hown, hlocks, hin⟩ := C0
  have hl : lv_has ls 2 [(0, .ref (a 0)), (1, .int row)] := hl
  have hP : va_P (dC, dI) classes (pw cI a q K S ck cu F N) s.heap := hP
  have hD : va_D A (pw cI a q K S ck cu F N) := hD
  refine lv_aload_n hx hb d_PS_sort_0 rfl (lv_at hl 0 rfl) ?_
  refine lv_iload_n hx hb d_PS_sort_1 rfl (lv_at hl 1 rfl) ?_
  refine ps_readI (wc := (pw cI a q K S ck cu F N)) hP hD hS hA [0, 1, 2, 3, 4, 5, 6, 7, 8, 9, 10, 11, 12, 13, 14, 15, 16, 17, 18, 19, 20, 21, 22, 23, 24, 25, 26, 27, 28, 29, 30, 31, 32, 33, 34, 35, 36, 37, 38, 39] rfl (fun _ _ h => h.1) (ps_runVI ⟨hx, hb, hml, hown, hts⟩ (c_isRow l dC dI cI tys ht a q K S ck cu F N hw hKb hSb row) (ps_cwV ps_gd 1 hts tw_134 k_PS_isRow e_PS_isRow ⟨Nat.le_of_ble_eq_true rfl, Nat.le_of_ble_eq_true rfl⟩) hK hP hD [0, 1, 2, 3, 4, 5, 6, 7, 8, 9, 10, 11, 12, 13, 14, 15, 16, 17, 18, 19, 20, 21, 22, 23, 24, 25, 26, 27, 28, 29, 30, 31, 32, 33, 34, 35, 36, 37, 38, 39] (by decide) rfl 0 cPS rfl rfl rfl hl.1 rfl (Nat.le_of_ble_eq_true rfl) d_PS_sort_2 ⟨Nat.zero_le _, Nat.zero_le _⟩) (fun r_1 H locs hr_1 hP hS => ?_)
  obtain ⟨-, hr_1⟩ := hr_1
  subst hr_1
  refine lv_if_eq (tgt := 22) hx hb d_PS_sort_5 (by decide) (fun c_2 => ?_) (fun c_2 => ?_)
  · have c_2 := ps_ite0 c_2
    refine lv_iconst (v := (-1)) hx hb d_PS_sort_22 (by decide) ?_
    exact ps_iret hx hb hr hlocks hK hP hD hS (Nat.le_of_ble_eq_true rfl) (Nat.le_of_ble_eq_true rfl) d_PS_sort_23 (⟨rfl, ps_cn c_2 rfl⟩)
  · have c_2 := ps_ite1 c_2
    have hc := c_2
    obtain ⟨j, hj1, hj2, rfl⟩ := ps_rng (by have h0 := hKb 0; have h1 := hKb 1; have h2 := hKb 2; have h3 := hKb 3; have h4 := hKb 4; have h5 := hKb 5; omega) c_2
    have hj3 : j < 2 ^ 31 := by have h0 := hKb 0; have h1 := hKb 1; have h2 := hKb 2; have h3 := hKb 3; have h4 := hKb 4; have h5 := hKb 5; omega
    rw [nI_clamp hj3]
    refine lv_aload_n hx hb d_PS_sort_8 rfl (lv_at hl 0 rfl) ?_
    refine va_get (D := (dC, dI)) (ci := cPS) (v := .ref (a 2)) (C := R_PS) (T := F_PS) (N := 10) hx hb hts i_PS hown hK hP 0 rfl rfl 3 (by decide) (hts _ tw_112) (fun _ h9 => h9) rfl d_PS_sort_9 ?_
    refine va_get (D := (dC, dI)) (ci := cRow) (v := .ref (a 12)) (C := R_Row) (T := F_Row) (N := 3) hx hb hts i_Row hown hK hP 2 rfl rfl 0 (by decide) (hts _ tw_135) (fun _ h9 => h9) rfl d_PS_sort_12 ?_
    refine lv_iload_n hx hb d_PS_sort_15 rfl (lv_at hl 1 rfl) ?_
    refine ps_readI (wc := [(a 12, .inr (cCol, [.int (nI 16385), .ref (q 4)])), (q 4, .inl (cI, N 4, .inl (F 4)))]) hP hD hS hA [16, 17] rfl (fun _ _ h => h.1) (ps_runVI ⟨hx, hb, hml, hown, hts⟩ (c_at l dC dI cI tys ht (a 12) (q 4) 16385 (N 4) (F 4) j (hw.z 4 (by decide)) (hw.n 4 (by decide)) (by omega)) (ps_cwV ps_gd 1 hts tw_102 k_Col_at e_Col_at ⟨Nat.le_of_ble_eq_true rfl, Nat.le_of_ble_eq_true rfl⟩) hK hP hD [16, 17] (by decide) rfl 0 cCol rfl rfl rfl hl.1 rfl (Nat.le_of_ble_eq_true rfl) d_PS_sort_16 ⟨Nat.zero_le _, Nat.zero_le _⟩) (fun r_3 H locs hr_3 hP hS => ?_)
    obtain ⟨-, hr_3⟩ := hr_3
    subst hr_3
    refine lv_goto (tgt := 23) hx hb d_PS_sort_19 (by decide) ?_
    exact ps_iret hx hb hr hlocks hK hP hD hS (Nat.le_of_ble_eq_true rfl) (Nat.le_of_ble_eq_true rfl) d_PS_sort_23 (⟨rfl, ps_cy hc rfl⟩)

set_option maxHeartbeats 4000000 in
set_option maxRecDepth 100000 in
/-- PageStore.length -/
theorem c_length (l : Launch) (dC : Nat → ClassId) (dI : Nat → Nat → Nat) (cI : ClassId) (tys : List (ClassId × FieldType)) (ht : tys[0]? = some (cI, FieldType.int)) (a q K : Nat → Nat) (S : Nat) (ck cu : Int32) (F : Nat → Nat → Int32) (N : Nat → Nat) (hw : ps_wf F N) (hKb : ∀ j, K j ≤ 65536) (hSb : S ≤ 15) (row : Int32) : ps_mI classes l y_PS_length w_PS_length ({ frames := 1, cells := 0, slots := 0, locals := 21 }) (dC, dI) tys [.ref (a 0), .int row] (pw cI a q K S ck cu F N) (fun r u => u = pw cI a q K S ck cu F N ∧ ps_c (nI 1 ≤ row ∧ row ≤ nI (K 0)) (r = F 6 row.toNatClampNeg) (r = -1)) := by
  refine ps_mI_of (by decide) rfl (Nat.le_of_ble_eq_true rfl) ?_
  intro p e s m below meth c A ls C0 hA hK hP hD hS hl
  obtain ⟨hx, hb, hr, hml, hts, hown, hlocks, hin⟩ := C0
  have hl : lv_has ls 2 [(0, .ref (a 0)), (1, .int row)] := hl
  have hP : va_P (dC, dI) classes (pw cI a q K S ck cu F N) s.heap := hP
  have hD : va_D A (pw cI a q K S ck cu F N) := hD
  refine lv_aload_n hx hb d_PS_length_0 rfl (lv_at hl 0 rfl) ?_
  refine lv_iload_n hx hb d_PS_length_1 rfl (lv_at hl 1 rfl) ?_
  refine ps_readI (wc := (pw cI a q K S ck cu F N)) hP hD hS hA [0, 1, 2, 3, 4, 5, 6, 7, 8, 9, 10, 11, 12, 13, 14, 15, 16, 17, 18, 19, 20, 21, 22, 23, 24, 25, 26, 27, 28, 29, 30, 31, 32, 33, 34, 35, 36, 37, 38, 39] rfl (fun _ _ h => h.1) (ps_runVI ⟨hx, hb, hml, hown, hts⟩ (c_isRow l dC dI cI tys ht a q K S ck cu F N hw hKb hSb row) (ps_cwV ps_gd 1 hts tw_134 k_PS_isRow e_PS_isRow ⟨Nat.le_of_ble_eq_true rfl, Nat.le_of_ble_eq_true rfl⟩) hK hP hD [0, 1, 2, 3, 4, 5, 6, 7, 8, 9, 10, 11, 12, 13, 14, 15, 16, 17, 18, 19, 20, 21, 22, 23, 24, 25, 26, 27, 28, 29, 30, 31, 32, 33, 34, 35, 36, 37, 38, 39] (by decide) rfl 0 cPS rfl rfl rfl hl.1 rfl (Nat.le_of_ble_eq_true rfl) d_PS_length_2 ⟨Nat.zero_le _, Nat.zero_le _⟩) (fun r_1 H locs hr_1 hP hS => ?_)
  obtain ⟨-, hr_1⟩ := hr_1
  subst hr_1
  refine lv_if_eq (tgt := 22) hx hb d_PS_length_5 (by decide) (fun c_2 => ?_) (fun c_2 => ?_)
  · have c_2 := ps_ite0 c_2
    refine lv_iconst (v := (-1)) hx hb d_PS_length_22 (by decide) ?_
    exact ps_iret hx hb hr hlocks hK hP hD hS (Nat.le_of_ble_eq_true rfl) (Nat.le_of_ble_eq_true rfl) d_PS_length_23 (⟨rfl, ps_cn c_2 rfl⟩)
  · have c_2 := ps_ite1 c_2
    have hc := c_2
    obtain ⟨j, hj1, hj2, rfl⟩ := ps_rng (by have h0 := hKb 0; have h1 := hKb 1; have h2 := hKb 2; have h3 := hKb 3; have h4 := hKb 4; have h5 := hKb 5; omega) c_2
    have hj3 : j < 2 ^ 31 := by have h0 := hKb 0; have h1 := hKb 1; have h2 := hKb 2; have h3 := hKb 3; have h4 := hKb 4; have h5 := hKb 5; omega
    rw [nI_clamp hj3]
    refine lv_aload_n hx hb d_PS_length_8 rfl (lv_at hl 0 rfl) ?_
    refine va_get (D := (dC, dI)) (ci := cPS) (v := .ref (a 2)) (C := R_PS) (T := F_PS) (N := 10) hx hb hts i_PS hown hK hP 0 rfl rfl 3 (by decide) (hts _ tw_112) (fun _ h9 => h9) rfl d_PS_length_9 ?_
    refine va_get (D := (dC, dI)) (ci := cRow) (v := .ref (a 14)) (C := R_Row) (T := F_Row) (N := 3) hx hb hts i_Row hown hK hP 2 rfl rfl 2 (by decide) (hts _ tw_136) (fun _ h9 => h9) rfl d_PS_length_12 ?_
    refine lv_iload_n hx hb d_PS_length_15 rfl (lv_at hl 1 rfl) ?_
    refine ps_readI (wc := [(a 14, .inr (cCol, [.int (nI 16385), .ref (q 6)])), (q 6, .inl (cI, N 6, .inl (F 6)))]) hP hD hS hA [20, 21] rfl (fun _ _ h => h.1) (ps_runVI ⟨hx, hb, hml, hown, hts⟩ (c_at l dC dI cI tys ht (a 14) (q 6) 16385 (N 6) (F 6) j (hw.z 6 (by decide)) (hw.n 6 (by decide)) (by omega)) (ps_cwV ps_gd 1 hts tw_102 k_Col_at e_Col_at ⟨Nat.le_of_ble_eq_true rfl, Nat.le_of_ble_eq_true rfl⟩) hK hP hD [20, 21] (by decide) rfl 0 cCol rfl rfl rfl hl.1 rfl (Nat.le_of_ble_eq_true rfl) d_PS_length_16 ⟨Nat.zero_le _, Nat.zero_le _⟩) (fun r_3 H locs hr_3 hP hS => ?_)
    obtain ⟨-, hr_3⟩ := hr_3
    subst hr_3
    refine lv_goto (tgt := 23) hx hb d_PS_length_19 (by decide) ?_
    exact ps_iret hx hb hr hlocks hK hP hD hS (Nat.le_of_ble_eq_true rfl) (Nat.le_of_ble_eq_true rfl) d_PS_length_23 (⟨rfl, ps_cy hc rfl⟩)

set_option maxHeartbeats 4000000 in
set_option maxRecDepth 100000 in
/-- PageStore.part -/
theorem c_part (l : Launch) (dC : Nat → ClassId) (dI : Nat → Nat → Nat) (cI : ClassId) (tys : List (ClassId × FieldType)) (ht : tys[0]? = some (cI, FieldType.int)) (a q K : Nat → Nat) (S : Nat) (ck cu : Int32) (F : Nat → Nat → Int32) (N : Nat → Nat) (hw : ps_wf F N) (hKb : ∀ j, K j ≤ 65536) (hSb : S ≤ 15) (row fr n : Int32) (hrw : ps_rows K F) (mc ms : Nat) (hm : ¬ ¬ ((nI 1 ≤ row ∧ row ≤ nI (K 0)) ∧ ¬ fr < 0 ∧ ¬ n < 0 ∧ fr.toNatClampNeg + n.toNatClampNeg ≤ (F 6 row.toNatClampNeg).toNatClampNeg) → ¬ 16384 ≤ K 0 → ps_rc N (K 0 + 1) ≤ mc ∧ ps_rs N (K 0 + 1) ≤ ms) : ps_mI classes l y_PS_part w_PS_part ({ frames := 5, cells := mc, slots := ms, locals := 110 }) (dC, dI) tys [.ref (a 0), .int row, .int fr, .int n] (pw cI a q K S ck cu F N) (fun r u => ps_c (¬ ((nI 1 ≤ row ∧ row ≤ nI (K 0)) ∧ ¬ fr < 0 ∧ ¬ n < 0 ∧ fr.toNatClampNeg + n.toNatClampNeg ≤ (F 6 row.toNatClampNeg).toNatClampNeg)) (r = -1 ∧ u = pw cI a q K S ck cu F N) (ps_c (16384 ≤ K 0) (r = -3 ∧ u = pw cI a q K S ck cu F N) (∃ q1 : Nat → Nat, r = nI (K 0 + 1) ∧ u = pw cI a q1 (va_up K 0 (K 0 + 1)) S ck cu (ps_Fr F (K 0 + 1) (F 4 row.toNatClampNeg) (F 5 row.toNatClampNeg + fr) n) (ps_Nr N (K 0 + 1))))) := by
  refine ps_mI_of (by decide) rfl (Nat.le_of_ble_eq_true rfl) ?_
  intro p e s m below meth c A ls C0 hA hK hP hD hS hl
  obtain ⟨hx, hb, hr, hml, hts, hown, hlocks, hin⟩ := C0
  have hl : lv_has ls 4 [(0, .ref (a 0)), (1, .int row), (2, .int fr), (3, .int n)] := hl
  have hP : va_P (dC, dI) classes (pw cI a q K S ck cu F N) s.heap := hP
  have hD : va_D A (pw cI a q K S ck cu F N) := hD
  refine lv_aload_n hx hb d_PS_part_0 rfl (lv_at hl 0 rfl) ?_
  refine lv_iload_n hx hb d_PS_part_1 rfl (lv_at hl 1 rfl) ?_
  refine ps_readI (wc := (pw cI a q K S ck cu F N)) hP hD hS hA [0, 1, 2, 3, 4, 5, 6, 7, 8, 9, 10, 11, 12, 13, 14, 15, 16, 17, 18, 19, 20, 21, 22, 23, 24, 25, 26, 27, 28, 29, 30, 31, 32, 33, 34, 35, 36, 37, 38, 39] rfl (fun _ _ h => h.1) (ps_runVI ⟨hx, hb, hml, hown, hts⟩ (c_isRow l dC dI cI tys ht a q K S ck cu F N hw hKb hSb row) (ps_cwV ps_gd 1 hts tw_134 k_PS_isRow e_PS_isRow ⟨Nat.le_of_ble_eq_true rfl, Nat.le_of_ble_eq_true rfl⟩) hK hP hD [0, 1, 2, 3, 4, 5, 6, 7, 8, 9, 10, 11, 12, 13, 14, 15, 16, 17, 18, 19, 20, 21, 22, 23, 24, 25, 26, 27, 28, 29, 30, 31, 32, 33, 34, 35, 36, 37, 38, 39] (by decide) rfl 0 cPS rfl rfl rfl hl.1 rfl (Nat.le_of_ble_eq_true rfl) d_PS_part_2 ⟨Nat.zero_le _, Nat.zero_le _⟩) (fun r_1 H locs hr_1 hP hS => ?_)
  obtain ⟨-, hr_1⟩ := hr_1
  subst hr_1
  refine lv_if_eq (tgt := 16) hx hb d_PS_part_5 (by decide) (fun c_2 => ?_) (fun c_2 => ?_)
  · have c_2 := ps_ite0 c_2
    refine lv_iconst (v := (-1)) hx hb d_PS_part_16 (by decide) ?_
    exact ps_iret hx hb hr hlocks hK hP hD hS (Nat.zero_le _) (Nat.zero_le _) d_PS_part_17 (ps_cy (fun q => c_2 q.1) ⟨rfl, rfl⟩)
  · have c_2 := ps_ite1 c_2
    have hc := c_2
    obtain ⟨j, hj1, hj2, rfl⟩ := ps_rng (by have h0 := hKb 0; have h1 := hKb 1; have h2 := hKb 2; have h3 := hKb 3; have h4 := hKb 4; have h5 := hKb 5; omega) c_2
    have hj3 : j < 2 ^ 31 := by have h0 := hKb 0; have h1 := hKb 1; have h2 := hKb 2; have h3 := hKb 3; have h4 := hKb 4; have h5 := hKb 5; omega
    rw [nI_clamp hj3] at hm ⊢
    obtain ⟨s0, l0, e5, e6, hs⟩ := hrw j hj1 hj2
    have hl0 : l0 ≤ 65536 := by have b1 := hKb 1; have b2 := hKb 2; rcases hs with q | q <;> omega
    refine lv_iload_n hx hb d_PS_part_8 rfl (lv_at hl 2 rfl) ?_
    refine lv_if_lt (tgt := 16) hx hb d_PS_part_9 (by decide) (fun c_3 => ?_) (fun c_3 => ?_)
    · refine lv_iconst (v := (-1)) hx hb d_PS_part_16 (by decide) ?_
      exact ps_iret hx hb hr hlocks hK hP hD hS (Nat.zero_le _) (Nat.zero_le _) d_PS_part_17 (ps_cy (fun q => q.2.1 c_3) ⟨rfl, rfl⟩)
    · refine lv_iload_n hx hb d_PS_part_12 rfl (lv_at hl 3 rfl) ?_
      refine lv_if_ge (tgt := 18) hx hb d_PS_part_13 (by decide) (fun c_4 => ?_) (fun c_4 => ?_)
      · obtain ⟨f0, hf0, rfl⟩ := nI_of c_3
        obtain ⟨n0, hn0, rfl⟩ := nI_of (k2_nlt c_4)
        rw [e6, nI_clamp hf0, nI_clamp hn0, nI_clamp (show l0 < 2 ^ 31 by omega)] at hm ⊢
        refine lv_iload_n hx hb d_PS_part_18 rfl (lv_at hl 2 rfl) ?_
        refine lv_aload_n hx hb d_PS_part_19 rfl (lv_at hl 0 rfl) ?_
        refine va_get (D := (dC, dI)) (ci := cPS) (v := .ref (a 2)) (C := R_PS) (T := F_PS) (N := 10) hx hb hts i_PS hown hK hP 0 rfl rfl 3 (by decide) (hts _ tw_112) (fun _ h9 => h9) rfl d_PS_part_20 ?_
        refine va_get (D := (dC, dI)) (ci := cRow) (v := .ref (a 14)) (C := R_Row) (T := F_Row) (N := 3) hx hb hts i_Row hown hK hP 2 rfl rfl 2 (by decide) (hts _ tw_136) (fun _ h9 => h9) rfl d_PS_part_23 ?_
        refine lv_iload_n hx hb d_PS_part_26 rfl (lv_at hl 1 rfl) ?_
        refine ps_readI (wc := [(a 14, .inr (cCol, [.int (nI 16385), .ref (q 6)])), (q 6, .inl (cI, N 6, .inl (F 6)))]) hP hD hS hA [20, 21] rfl (fun _ _ h => h.1) (ps_runVI ⟨hx, hb, hml, hown, hts⟩ (c_at l dC dI cI tys ht (a 14) (q 6) 16385 (N 6) (F 6) j (hw.z 6 (by decide)) (hw.n 6 (by decide)) (by omega)) (ps_cwV ps_gd 1 hts tw_102 k_Col_at e_Col_at ⟨Nat.le_of_ble_eq_true rfl, Nat.le_of_ble_eq_true rfl⟩) hK hP hD [20, 21] (by decide) rfl 0 cCol rfl rfl rfl hl.1 rfl (Nat.le_of_ble_eq_true rfl) d_PS_part_27 ⟨Nat.zero_le _, Nat.zero_le _⟩) (fun r_5 H locs hr_5 hP hS => ?_)
        obtain ⟨-, hr_5⟩ := hr_5
        subst hr_5
        refine ps_top (z := nI l0) e6 ?_
        refine lv_iload_n hx hb d_PS_part_30 rfl (lv_at hl 3 rfl) ?_
        refine lv_isub hx hb d_PS_part_31 ?_
        refine ps_top (z := nI l0 - nI n0) rfl ?_
        refine lv_icmp_le (tgt := 37) hx hb d_PS_part_32 (by decide) (fun c_6 => ?_) (fun c_6 => ?_)
        · have c_6 : f0 + n0 ≤ l0 := (ps_sub_le hf0 hn0 hl0).mp c_6
          have hok : ¬ ¬ ((nI 1 ≤ nI j ∧ nI j ≤ nI (K 0)) ∧ ¬ nI f0 < 0 ∧ ¬ nI n0 < 0 ∧ f0 + n0 ≤ l0) := fun q => q ⟨hc, nI_pos hf0, nI_pos hn0, c_6⟩
          refine lv_aload_n hx hb d_PS_part_37 rfl (lv_at hl 0 rfl) ?_
          refine ps_readI (wc := (pw cI a q K S ck cu F N)) hP hD hS hA [0, 1, 2, 3, 4, 5, 6, 7, 8, 9, 10, 11, 12, 13, 14, 15, 16, 17, 18, 19, 20, 21, 22, 23, 24, 25, 26, 27, 28, 29, 30, 31, 32, 33, 34, 35, 36, 37, 38, 39] rfl (fun _ _ h => h.1) (ps_runVI ⟨hx, hb, hml, hown, hts⟩ (c_noRow l dC dI cI tys ht a q K S ck cu F N hw hKb hSb) (ps_cwV ps_gd 0 hts tw_119 k_PS_noRowLeft e_PS_noRowLeft ⟨Nat.le_of_ble_eq_true rfl, Nat.le_of_ble_eq_true rfl⟩) hK hP hD [0, 1, 2, 3, 4, 5, 6, 7, 8, 9, 10, 11, 12, 13, 14, 15, 16, 17, 18, 19, 20, 21, 22, 23, 24, 25, 26, 27, 28, 29, 30, 31, 32, 33, 34, 35, 36, 37, 38, 39] (by decide) rfl 0 cPS rfl rfl rfl hl.1 rfl (Nat.le_of_ble_eq_true rfl) d_PS_part_38 ⟨Nat.zero_le _, Nat.zero_le _⟩) (fun r_7 H locs hr_7 hP hS => ?_)
          obtain ⟨-, hr_7⟩ := hr_7
          subst hr_7
          refine lv_if_eq (tgt := 47) hx hb d_PS_part_41 (by decide) (fun c_8 => ?_) (fun c_8 => ?_)
          · have c_8 := ps_ite0 c_8
            refine lv_aload_n hx hb d_PS_part_47 rfl (lv_at hl 0 rfl) ?_
            refine lv_aload_n hx hb d_PS_part_48 rfl (lv_at hl 0 rfl) ?_
            refine va_get (D := (dC, dI)) (ci := cPS) (v := .ref (a 2)) (C := R_PS) (T := F_PS) (N := 10) hx hb hts i_PS hown hK hP 0 rfl rfl 3 (by decide) (hts _ tw_112) (fun _ h9 => h9) rfl d_PS_part_49 ?_
            refine va_get (D := (dC, dI)) (ci := cRow) (v := .ref (a 12)) (C := R_Row) (T := F_Row) (N := 3) hx hb hts i_Row hown hK hP 2 rfl rfl 0 (by decide) (hts _ tw_135) (fun _ h9 => h9) rfl d_PS_part_52 ?_
            refine lv_iload_n hx hb d_PS_part_55 rfl (lv_at hl 1 rfl) ?_
            refine ps_readI (wc := [(a 12, .inr (cCol, [.int (nI 16385), .ref (q 4)])), (q 4, .inl (cI, N 4, .inl (F 4)))]) hP hD hS hA [16, 17] rfl (fun _ _ h => h.1) (ps_runVI ⟨hx, hb, hml, hown, hts⟩ (c_at l dC dI cI tys ht (a 12) (q 4) 16385 (N 4) (F 4) j (hw.z 4 (by decide)) (hw.n 4 (by decide)) (by omega)) (ps_cwV ps_gd 1 hts tw_102 k_Col_at e_Col_at ⟨Nat.le_of_ble_eq_true rfl, Nat.le_of_ble_eq_true rfl⟩) hK hP hD [16, 17] (by decide) rfl 0 cCol rfl rfl rfl hl.1 rfl (Nat.le_of_ble_eq_true rfl) d_PS_part_56 ⟨Nat.zero_le _, Nat.zero_le _⟩) (fun r_9 H locs hr_9 hP hS => ?_)
            obtain ⟨-, hr_9⟩ := hr_9
            subst hr_9
            refine lv_aload_n hx hb d_PS_part_59 rfl (lv_at hl 0 rfl) ?_
            refine va_get (D := (dC, dI)) (ci := cPS) (v := .ref (a 2)) (C := R_PS) (T := F_PS) (N := 10) hx hb hts i_PS hown hK hP 0 rfl rfl 3 (by decide) (hts _ tw_112) (fun _ h9 => h9) rfl d_PS_part_60 ?_
            refine va_get (D := (dC, dI)) (ci := cRow) (v := .ref (a 13)) (C := R_Row) (T := F_Row) (N := 3) hx hb hts i_Row hown hK hP 2 rfl rfl 1 (by decide) (hts _ tw_137) (fun _ h9 => h9) rfl d_PS_part_63 ?_
            refine lv_iload_n hx hb d_PS_part_66 rfl (lv_at hl 1 rfl) ?_
            refine ps_readI (wc := [(a 13, .inr (cCol, [.int (nI 16385), .ref (q 5)])), (q 5, .inl (cI, N 5, .inl (F 5)))]) hP hD hS hA [18, 19] rfl (fun _ _ h => h.1) (ps_runVI ⟨hx, hb, hml, hown, hts⟩ (c_at l dC dI cI tys ht (a 13) (q 5) 16385 (N 5) (F 5) j (hw.z 5 (by decide)) (hw.n 5 (by decide)) (by omega)) (ps_cwV ps_gd 1 hts tw_102 k_Col_at e_Col_at ⟨Nat.le_of_ble_eq_true rfl, Nat.le_of_ble_eq_true rfl⟩) hK hP hD [18, 19] (by decide) rfl 0 cCol rfl rfl rfl hl.1 rfl (Nat.le_of_ble_eq_true rfl) d_PS_part_67 ⟨Nat.zero_le _, Nat.zero_le _⟩) (fun r_10 H locs hr_10 hP hS => ?_)
            obtain ⟨-, hr_10⟩ := hr_10
            subst hr_10
            refine lv_iload_n hx hb d_PS_part_70 rfl (lv_at hl 2 rfl) ?_
            refine lv_iadd hx hb d_PS_part_71 ?_
            refine lv_iload_n hx hb d_PS_part_72 rfl (lv_at hl 3 rfl) ?_
            refine ps_afterI (wc := (pw cI a q K S ck cu F N)) (wr := []) hP hD hS hA [0, 1, 2, 3, 4, 5, 6, 7, 8, 9, 10, 11, 12, 13, 14, 15, 16, 17, 18, 19, 20, 21, 22, 23, 24, 25, 26, 27, 28, 29, 30, 31, 32, 33, 34, 35, 36, 37, 38, 39] [] rfl rfl (by decide) (by decide) (ps_runVI ⟨hx, hb, hml, hown, hts⟩ (c_addRow l dC dI cI tys ht a q K S ck cu F N hw hKb hSb ((F 4) j) (((F 5) j) + (nI f0)) (nI n0) (show K 0 < 16384 by omega)) (ps_cwV ps_gd 3 hts tw_121 k_PS_addRow e_PS_addRow ⟨Nat.le_of_ble_eq_true rfl, Nat.le_of_ble_eq_true rfl⟩) hK hP hD [0, 1, 2, 3, 4, 5, 6, 7, 8, 9, 10, 11, 12, 13, 14, 15, 16, 17, 18, 19, 20, 21, 22, 23, 24, 25, 26, 27, 28, 29, 30, 31, 32, 33, 34, 35, 36, 37, 38, 39] (by decide) rfl 0 cPS rfl rfl rfl hl.1 rfl (Nat.le_of_ble_eq_true rfl) d_PS_part_73 ⟨by have h1 := hm hok (by omega); show 0 + 0 + 0 + 0 + 0 + ps_rc N (K 0 + 1) ≤ mc; omega, by have h1 := hm hok (by omega); show 0 + 0 + 0 + 0 + 0 + ps_rs N (K 0 + 1) ≤ ms; omega⟩) (fun r_12 u_11 H locs hu_11 hP hD hS => ?_)
            obtain ⟨hr_12, q_13, hu_11⟩ := hu_11
            subst hr_12
            subst hu_11
            have hP : va_P (dC, dI) classes (pw cI a q_13 (va_up K 0 (K 0 + 1)) S ck cu (va_up (va_up (va_up F 4 (upd (F 4) (K 0 + 1) ((F 4) j))) 5 (upd (F 5) (K 0 + 1) (((F 5) j) + (nI f0)))) 6 (upd (F 6) (K 0 + 1) (nI n0))) (va_up (va_up (va_up N 4 (ps_len 16385 (N 4) (K 0 + 1))) 5 (ps_len 16385 (N 5) (K 0 + 1))) 6 (ps_len 16385 (N 6) (K 0 + 1)))) H := hP
            have hD : va_D A (pw cI a q_13 (va_up K 0 (K 0 + 1)) S ck cu (va_up (va_up (va_up F 4 (upd (F 4) (K 0 + 1) ((F 4) j))) 5 (upd (F 5) (K 0 + 1) (((F 5) j) + (nI f0)))) 6 (upd (F 6) (K 0 + 1) (nI n0))) (va_up (va_up (va_up N 4 (ps_len 16385 (N 4) (K 0 + 1))) 5 (ps_len 16385 (N 5) (K 0 + 1))) 6 (ps_len 16385 (N 6) (K 0 + 1)))) := hD
            exact ps_iret hx hb hr hlocks hK hP hD hS (by have h1 := hm hok (by omega); show 0 + 0 + 0 + 0 + 0 + ps_rc N (K 0 + 1) ≤ mc; omega) (by have h1 := hm hok (by omega); show 0 + 0 + 0 + 0 + 0 + ps_rs N (K 0 + 1) ≤ ms; omega) d_PS_part_76 (ps_cn hok (ps_cn c_8 ⟨_, rfl, rfl⟩))
          · have c_8 := ps_ite1 c_8
            refine lv_bipush (v := (-3)) hx hb d_PS_part_44 (by decide) ?_
            exact ps_iret hx hb hr hlocks hK hP hD hS (Nat.zero_le _) (Nat.zero_le _) d_PS_part_46 (ps_cn hok (ps_cy c_8 ⟨rfl, rfl⟩))
        · have c_6 : ¬ f0 + n0 ≤ l0 := fun q => c_6 ((ps_sub_le hf0 hn0 hl0).mpr q)
          refine lv_iconst (v := (-1)) hx hb d_PS_part_35 (by decide) ?_
          exact ps_iret hx hb hr hlocks hK hP hD hS (Nat.zero_le _) (Nat.zero_le _) d_PS_part_36 (ps_cy (fun q => c_6 q.2.2.2) ⟨rfl, rfl⟩)
      · refine lv_iconst (v := (-1)) hx hb d_PS_part_16 (by decide) ?_
        exact ps_iret hx hb hr hlocks hK hP hD hS (Nat.zero_le _) (Nat.zero_le _) d_PS_part_17 (ps_cy (fun q => q.2.2.1 (k2_lt c_4)) ⟨rfl, rfl⟩)

set_option maxHeartbeats 4000000 in
set_option maxRecDepth 100000 in
/-- PageStore.indexIn -/
theorem c_ixin (l : Launch) (dC : Nat → ClassId) (dI : Nat → Nat → Nat) (cI : ClassId) (tys : List (ClassId × FieldType)) (ht : tys[0]? = some (cI, FieldType.int)) (a q K : Nat → Nat) (S : Nat) (ck cu : Int32) (F : Nat → Nat → Int32) (N : Nat → Nat) (hw : ps_wf F N) (hKb : ∀ j, K j ≤ 65536) (hSb : S ≤ 15) (x row place : Int32) : ps_mI classes l y_PS_indexIn w_PS_indexIn ({ frames := 1, cells := 0, slots := 0, locals := 21 }) (dC, dI) tys [.ref (a 0), .int x, .int row, .int place] (pw cI a q K S ck cu F N) (fun r u => u = pw cI a q K S ck cu F N ∧ ps_c (ps_ok K F x row place) (r = F 5 row.toNatClampNeg + place) (r = -1)) := by
  refine ps_mI_of (by decide) rfl (Nat.le_of_ble_eq_true rfl) ?_
  intro p e s m below meth c A ls C0 hA hK hP hD hS hl
  obtain ⟨hx, hb, hr, hml, hts, hown, hlocks, hin⟩ := C0
  have hl : lv_has ls 4 [(0, .ref (a 0)), (1, .int x), (2, .int row), (3, .int place)] := hl
  have hP : va_P (dC, dI) classes (pw cI a q K S ck cu F N) s.heap := hP
  have hD : va_D A (pw cI a q K S ck cu F N) := hD
  refine lv_aload_n hx hb d_PS_indexIn_0 rfl (lv_at hl 0 rfl) ?_
  refine lv_iload_n hx hb d_PS_indexIn_1 rfl (lv_at hl 2 rfl) ?_
  refine ps_readI (wc := (pw cI a q K S ck cu F N)) hP hD hS hA [0, 1, 2, 3, 4, 5, 6, 7, 8, 9, 10, 11, 12, 13, 14, 15, 16, 17, 18, 19, 20, 21, 22, 23, 24, 25, 26, 27, 28, 29, 30, 31, 32, 33, 34, 35, 36, 37, 38, 39] rfl (fun _ _ h => h.1) (ps_runVI ⟨hx, hb, hml, hown, hts⟩ (c_isRow l dC dI cI tys ht a q K S ck cu F N hw hKb hSb row) (ps_cwV ps_gd 1 hts tw_134 k_PS_isRow e_PS_isRow ⟨Nat.le_of_ble_eq_true rfl, Nat.le_of_ble_eq_true rfl⟩) hK hP hD [0, 1, 2, 3, 4, 5, 6, 7, 8, 9, 10, 11, 12, 13, 14, 15, 16, 17, 18, 19, 20, 21, 22, 23, 24, 25, 26, 27, 28, 29, 30, 31, 32, 33, 34, 35, 36, 37, 38, 39] (by decide) rfl 0 cPS rfl rfl rfl hl.1 rfl (Nat.le_of_ble_eq_true rfl) d_PS_indexIn_2 ⟨Nat.zero_le _, Nat.zero_le _⟩) (fun r_1 H locs hr_1 hP hS => ?_)
  obtain ⟨-, hr_1⟩ := hr_1
  subst hr_1
  refine lv_if_eq (tgt := 23) hx hb d_PS_indexIn_5 (by decide) (fun c_2 => ?_) (fun c_2 => ?_)
  · have c_2 := ps_ite0 c_2
    refine lv_iconst (v := (-1)) hx hb d_PS_indexIn_23 (by decide) ?_
    exact ps_iret hx hb hr hlocks hK hP hD hS (Nat.le_of_ble_eq_true rfl) (Nat.le_of_ble_eq_true rfl) d_PS_indexIn_24 (⟨rfl, ps_cn (fun q => c_2 q.1) rfl⟩)
  · have c_2 := ps_ite1 c_2
    have hc := c_2
    obtain ⟨j, hj1, hj2, rfl⟩ := ps_rng (by have h0 := hKb 0; have h1 := hKb 1; have h2 := hKb 2; have h3 := hKb 3; have h4 := hKb 4; have h5 := hKb 5; omega) c_2
    have hj3 : j < 2 ^ 31 := by have h0 := hKb 0; have h1 := hKb 1; have h2 := hKb 2; have h3 := hKb 3; have h4 := hKb 4; have h5 := hKb 5; omega
    unfold ps_ok
    rw [nI_clamp hj3]
    refine lv_aload_n hx hb d_PS_indexIn_8 rfl (lv_at hl 0 rfl) ?_
    refine va_get (D := (dC, dI)) (ci := cPS) (v := .ref (a 2)) (C := R_PS) (T := F_PS) (N := 10) hx hb hts i_PS hown hK hP 0 rfl rfl 3 (by decide) (hts _ tw_112) (fun _ h9 => h9) rfl d_PS_indexIn_9 ?_
    refine va_get (D := (dC, dI)) (ci := cRow) (v := .ref (a 12)) (C := R_Row) (T := F_Row) (N := 3) hx hb hts i_Row hown hK hP 2 rfl rfl 0 (by decide) (hts _ tw_135) (fun _ h9 => h9) rfl d_PS_indexIn_12 ?_
    refine lv_iload_n hx hb d_PS_indexIn_15 rfl (lv_at hl 2 rfl) ?_
    refine ps_readI (wc := [(a 12, .inr (cCol, [.int (nI 16385), .ref (q 4)])), (q 4, .inl (cI, N 4, .inl (F 4)))]) hP hD hS hA [16, 17] rfl (fun _ _ h => h.1) (ps_runVI ⟨hx, hb, hml, hown, hts⟩ (c_at l dC dI cI tys ht (a 12) (q 4) 16385 (N 4) (F 4) j (hw.z 4 (by decide)) (hw.n 4 (by decide)) (by omega)) (ps_cwV ps_gd 1 hts tw_102 k_Col_at e_Col_at ⟨Nat.le_of_ble_eq_true rfl, Nat.le_of_ble_eq_true rfl⟩) hK hP hD [16, 17] (by decide) rfl 0 cCol rfl rfl rfl hl.1 rfl (Nat.le_of_ble_eq_true rfl) d_PS_indexIn_16 ⟨Nat.zero_le _, Nat.zero_le _⟩) (fun r_3 H locs hr_3 hP hS => ?_)
    obtain ⟨-, hr_3⟩ := hr_3
    subst hr_3
    refine lv_iload_n hx hb d_PS_indexIn_19 rfl (lv_at hl 1 rfl) ?_
    refine lv_icmp_eq (tgt := 25) hx hb d_PS_indexIn_20 (by decide) (fun c_4 => ?_) (fun c_4 => ?_)
    · refine lv_iload_n hx hb d_PS_indexIn_25 rfl (lv_at hl 3 rfl) ?_
      refine lv_if_lt (tgt := 44) hx hb d_PS_indexIn_26 (by decide) (fun c_5 => ?_) (fun c_5 => ?_)
      · refine lv_iconst (v := (-1)) hx hb d_PS_indexIn_44 (by decide) ?_
        exact ps_iret hx hb hr hlocks hK hP hD hS (Nat.le_of_ble_eq_true rfl) (Nat.le_of_ble_eq_true rfl) d_PS_indexIn_45 (⟨rfl, ps_cn (fun q => q.2.2.1 c_5) rfl⟩)
      · refine lv_iload_n hx hb d_PS_indexIn_29 rfl (lv_at hl 3 rfl) ?_
        refine lv_aload_n hx hb d_PS_indexIn_30 rfl (lv_at hl 0 rfl) ?_
        refine va_get (D := (dC, dI)) (ci := cPS) (v := .ref (a 2)) (C := R_PS) (T := F_PS) (N := 10) hx hb hts i_PS hown hK hP 0 rfl rfl 3 (by decide) (hts _ tw_112) (fun _ h9 => h9) rfl d_PS_indexIn_31 ?_
        refine va_get (D := (dC, dI)) (ci := cRow) (v := .ref (a 14)) (C := R_Row) (T := F_Row) (N := 3) hx hb hts i_Row hown hK hP 2 rfl rfl 2 (by decide) (hts _ tw_136) (fun _ h9 => h9) rfl d_PS_indexIn_34 ?_
        refine lv_iload_n hx hb d_PS_indexIn_37 rfl (lv_at hl 2 rfl) ?_
        refine ps_readI (wc := [(a 14, .inr (cCol, [.int (nI 16385), .ref (q 6)])), (q 6, .inl (cI, N 6, .inl (F 6)))]) hP hD hS hA [20, 21] rfl (fun _ _ h => h.1) (ps_runVI ⟨hx, hb, hml, hown, hts⟩ (c_at l dC dI cI tys ht (a 14) (q 6) 16385 (N 6) (F 6) j (hw.z 6 (by decide)) (hw.n 6 (by decide)) (by omega)) (ps_cwV ps_gd 1 hts tw_102 k_Col_at e_Col_at ⟨Nat.le_of_ble_eq_true rfl, Nat.le_of_ble_eq_true rfl⟩) hK hP hD [20, 21] (by decide) rfl 0 cCol rfl rfl rfl hl.1 rfl (Nat.le_of_ble_eq_true rfl) d_PS_indexIn_38 ⟨Nat.zero_le _, Nat.zero_le _⟩) (fun r_6 H locs hr_6 hP hS => ?_)
        obtain ⟨-, hr_6⟩ := hr_6
        subst hr_6
        refine lv_icmp_lt (tgt := 46) hx hb d_PS_indexIn_41 (by decide) (fun c_7 => ?_) (fun c_7 => ?_)
        · refine lv_aload_n hx hb d_PS_indexIn_46 rfl (lv_at hl 0 rfl) ?_
          refine va_get (D := (dC, dI)) (ci := cPS) (v := .ref (a 2)) (C := R_PS) (T := F_PS) (N := 10) hx hb hts i_PS hown hK hP 0 rfl rfl 3 (by decide) (hts _ tw_112) (fun _ h9 => h9) rfl d_PS_indexIn_47 ?_
          refine va_get (D := (dC, dI)) (ci := cRow) (v := .ref (a 13)) (C := R_Row) (T := F_Row) (N := 3) hx hb hts i_Row hown hK hP 2 rfl rfl 1 (by decide) (hts _ tw_137) (fun _ h9 => h9) rfl d_PS_indexIn_50 ?_
          refine lv_iload_n hx hb d_PS_indexIn_53 rfl (lv_at hl 2 rfl) ?_
          refine ps_readI (wc := [(a 13, .inr (cCol, [.int (nI 16385), .ref (q 5)])), (q 5, .inl (cI, N 5, .inl (F 5)))]) hP hD hS hA [18, 19] rfl (fun _ _ h => h.1) (ps_runVI ⟨hx, hb, hml, hown, hts⟩ (c_at l dC dI cI tys ht (a 13) (q 5) 16385 (N 5) (F 5) j (hw.z 5 (by decide)) (hw.n 5 (by decide)) (by omega)) (ps_cwV ps_gd 1 hts tw_102 k_Col_at e_Col_at ⟨Nat.le_of_ble_eq_true rfl, Nat.le_of_ble_eq_true rfl⟩) hK hP hD [18, 19] (by decide) rfl 0 cCol rfl rfl rfl hl.1 rfl (Nat.le_of_ble_eq_true rfl) d_PS_indexIn_54 ⟨Nat.zero_le _, Nat.zero_le _⟩) (fun r_8 H locs hr_8 hP hS => ?_)
          obtain ⟨-, hr_8⟩ := hr_8
          subst hr_8
          refine lv_iload_n hx hb d_PS_indexIn_57 rfl (lv_at hl 3 rfl) ?_
          refine lv_iadd hx hb d_PS_indexIn_58 ?_
          exact ps_iret hx hb hr hlocks hK hP hD hS (Nat.le_of_ble_eq_true rfl) (Nat.le_of_ble_eq_true rfl) d_PS_indexIn_59 (⟨rfl, ps_cy ⟨hc, c_4, c_5, c_7⟩ rfl⟩)
        · refine lv_iconst (v := (-1)) hx hb d_PS_indexIn_44 (by decide) ?_
          exact ps_iret hx hb hr hlocks hK hP hD hS (Nat.le_of_ble_eq_true rfl) (Nat.le_of_ble_eq_true rfl) d_PS_indexIn_45 (⟨rfl, ps_cn (fun q => c_7 q.2.2.2) rfl⟩)
    · refine lv_iconst (v := (-1)) hx hb d_PS_indexIn_23 (by decide) ?_
      exact ps_iret hx hb hr hlocks hK hP hD hS (Nat.le_of_ble_eq_true rfl) (Nat.le_of_ble_eq_true rfl) d_PS_indexIn_24 (⟨rfl, ps_cn (fun q => c_4 q.2.1) rfl⟩)
end
section
theorem tw_141 : (.methodLink "PageStore" 85 ⟨"PageStore", "indexIn", "(III)I"⟩ : Cond) ∈ ps_tbl := ps_t2 0 rfl rfl
theorem tw_142 : (.fieldLink "PageStore" 102 "PageStore$Values" "numbers" "LPageStore$Column;" : Cond) ∈ ps_tbl := ps_t1 69 rfl rfl
theorem tw_143 : (.fieldLink "PageStore" 99 "PageStore$Values" "kinds" "LPageStore$Column;" : Cond) ∈ ps_tbl := ps_t1 66 rfl rfl
theorem tw_144 : (.methodLink "PageStore" 105 ⟨"PageStore$Column", "put", "(II)V"⟩ : Cond) ∈ ps_tbl := ps_t2 52 rfl rfl
theorem tw_145 : (.fieldLink "PageStore" 138 "PageStore" "cursorKeyKind" "I" : Cond) ∈ ps_tbl := ps_t1 134 rfl rfl
theorem tw_146 : (.fieldLink "PageStore" 142 "PageStore" "cursorKeyNumber" "I" : Cond) ∈ ps_tbl := ps_t1 135 rfl rfl
theorem tw_147 : (.methodLink "PageStore" 148 ⟨"PageStore", "isSave", "(I)Z"⟩ : Cond) ∈ ps_tbl := ps_t2 140 rfl rfl
theorem tw_148 : (.methodLink "PageStore" 151 ⟨"PageStore", "countAtSave", "(II)I"⟩ : Cond) ∈ ps_tbl := ps_t2 15 rfl rfl
theorem tw_149 : (.instanceMethod ⟨"PageStore", "indexIn", "(III)I"⟩ : Cond) ∈ ps_tbl := ps_t2 2 rfl rfl
theorem tw_150 : (.selects "PageStore" ⟨"PageStore", "indexIn", "(III)I"⟩ ⟨"PageStore", "indexIn", "(III)I"⟩ : Cond) ∈ ps_tbl := ps_ts (y := ⟨"PageStore", "indexIn", "(III)I"⟩) (n := 10) 3 rfl rfl
theorem tw_151 : (.code ⟨"PageStore", "indexIn", "(III)I"⟩ prog_1_method_30_code 4 (some .int) : Cond) ∈ ps_tbl := ps_t2 3 rfl rfl
theorem tw_152 : (.instanceMethod ⟨"PageStore", "isSave", "(I)Z"⟩ : Cond) ∈ ps_tbl := ps_t2 142 rfl rfl
theorem tw_153 : (.selects "PageStore" ⟨"PageStore", "isSave", "(I)Z"⟩ ⟨"PageStore", "isSave", "(I)Z"⟩ : Cond) ∈ ps_tbl := ps_ts (y := ⟨"PageStore", "isSave", "(I)Z"⟩) (n := 10) 13 rfl rfl
theorem tw_154 : (.code ⟨"PageStore", "isSave", "(I)Z"⟩ prog_1_method_27_code 2 (some .boolean) : Cond) ∈ ps_tbl := ps_t2 143 rfl rfl
theorem tw_155 : (.instanceMethod ⟨"PageStore", "countAtSave", "(II)I"⟩ : Cond) ∈ ps_tbl := ps_t2 17 rfl rfl
theorem tw_156 : (.selects "PageStore" ⟨"PageStore", "countAtSave", "(II)I"⟩ ⟨"PageStore", "countAtSave", "(II)I"⟩ : Cond) ∈ ps_tbl := ps_ts (y := ⟨"PageStore", "countAtSave", "(II)I"⟩) (n := 10) 6 rfl rfl
theorem tw_157 : (.code ⟨"PageStore", "countAtSave", "(II)I"⟩ prog_1_method_33_code 3 (some .int) : Cond) ∈ ps_tbl := ps_t2 18 rfl rfl
theorem k_PS_indexIn : ps_cdV ps_tbl y_PS_indexIn prog_1_method_30_code 4 (some .int) := ⟨tw_149, tw_150, tw_108, tw_151⟩
theorem k_PS_isSave : ps_cdV ps_tbl y_PS_isSave prog_1_method_27_code 2 (some .boolean) := ⟨tw_152, tw_153, tw_108, tw_154⟩
theorem k_PS_countAtSave : ps_cdV ps_tbl y_PS_countAtSave prog_1_method_33_code 3 (some .int) := ⟨tw_155, tw_156, tw_108, tw_157⟩
set_option maxHeartbeats 4000000 in
set_option maxRecDepth 100000 in
/-- PageStore.number -/
theorem c_number (l : Launch) (dC : Nat → ClassId) (dI : Nat → Nat → Nat) (cI : ClassId) (tys : List (ClassId × FieldType)) (ht : tys[0]? = some (cI, FieldType.int)) (a q K : Nat → Nat) (S : Nat) (ck cu : Int32) (F : Nat → Nat → Int32) (N : Nat → Nat) (hw : ps_wf F N) (hKb : ∀ j, K j ≤ 65536) (hSb : S ≤ 15) (row place : Int32) (hrw : ps_rows K F) : ps_mI classes l y_PS_number w_PS_number ({ frames := 2, cells := 0, slots := 0, locals := 44 }) (dC, dI) tys [.ref (a 0), .int row, .int place] (pw cI a q K S ck cu F N) (fun r u => u = pw cI a q K S ck cu F N ∧ ps_c (ps_ok K F (nI 1) row place) (r = F 3 (ps_ix F row place)) (r = 0)) := by
  refine ps_mI_of (by decide) rfl (Nat.le_of_ble_eq_true rfl) ?_
  intro p e s m below meth c A ls C0 hA hK hP hD hS hl
  obtain ⟨hx, hb, hr, hml, hts, hown, hlocks, hin⟩ := C0
  have hl : lv_has ls 4 [(0, .ref (a 0)), (1, .int row), (2, .int place)] := hl
  have hP : va_P (dC, dI) classes (pw cI a q K S ck cu F N) s.heap := hP
  have hD : va_D A (pw cI a q K S ck cu F N) := hD
  refine lv_aload_n hx hb d_PS_number_0 rfl (lv_at hl 0 rfl) ?_
  refine lv_iconst (v := nI 1) hx hb d_PS_number_1 (by decide) ?_
  refine lv_iload_n hx hb d_PS_number_2 rfl (lv_at hl 1 rfl) ?_
  refine lv_iload_n hx hb d_PS_number_3 rfl (lv_at hl 2 rfl) ?_
  refine ps_readI (wc := (pw cI a q K S ck cu F N)) hP hD hS hA [0, 1, 2, 3, 4, 5, 6, 7, 8, 9, 10, 11, 12, 13, 14, 15, 16, 17, 18, 19, 20, 21, 22, 23, 24, 25, 26, 27, 28, 29, 30, 31, 32, 33, 34, 35, 36, 37, 38, 39] rfl (fun _ _ h => h.1) (ps_runVI ⟨hx, hb, hml, hown, hts⟩ (c_ixin l dC dI cI tys ht a q K S ck cu F N hw hKb hSb (nI 1) row place) (ps_cwV ps_gd 3 hts tw_141 k_PS_indexIn e_PS_indexIn ⟨Nat.le_of_ble_eq_true rfl, Nat.le_of_ble_eq_true rfl⟩) hK hP hD [0, 1, 2, 3, 4, 5, 6, 7, 8, 9, 10, 11, 12, 13, 14, 15, 16, 17, 18, 19, 20, 21, 22, 23, 24, 25, 26, 27, 28, 29, 30, 31, 32, 33, 34, 35, 36, 37, 38, 39] (by decide) rfl 0 cPS rfl rfl rfl hl.1 rfl (Nat.le_of_ble_eq_true rfl) d_PS_number_4 ⟨Nat.zero_le _, Nat.zero_le _⟩) (fun r_1 H locs hr_1 hP hS => ?_)
  obtain ⟨-, hr_1⟩ := hr_1
  rcases hr_1 with ⟨hcr_1, hr_1⟩ | ⟨hcr_1, hr_1⟩
  · obtain ⟨eix, hix⟩ := ps_ok_ix hKb hrw (Or.inl rfl) hcr_1
    rw [eix] at hr_1
    subst hr_1
    have hix31 : ps_ix F row place < 2 ^ 31 := by have b1 := hKb 1; omega
    refine lv_istore_n (lv' := [(3, .int (nI (ps_ix F row place))), (0, .ref (a 0)), (1, .int row), (2, .int place)]) hx hb d_PS_number_7 rfl hl (by decide) rfl (fun ls hl => ?_)
    refine lv_iload_n hx hb d_PS_number_8 rfl (lv_at hl 0 rfl) ?_
    refine lv_iconst (v := (-1)) hx hb d_PS_number_9 (by decide) ?_
    refine lv_icmp_ne (tgt := 17) hx hb d_PS_number_10 (by decide) (fun c_2 => ?_) (fun c_2 => ?_)
    · refine lv_aload_n hx hb d_PS_number_17 rfl (lv_at hl 1 rfl) ?_
      refine va_get (D := (dC, dI)) (ci := cPS) (v := .ref (a 3)) (C := R_PS) (T := F_PS) (N := 10) hx hb hts i_PS hown hK hP 0 rfl rfl 4 (by decide) (hts _ tw_103) (fun _ h9 => h9) rfl d_PS_number_18 ?_
      refine va_get (D := (dC, dI)) (ci := cVal) (v := .ref (a 11)) (C := R_Val) (T := F_Val) (N := 2) hx hb hts i_Val hown hK hP 3 rfl rfl 1 (by decide) (hts _ tw_142) (fun _ h9 => h9) rfl d_PS_number_21 ?_
      refine lv_iload_n hx hb d_PS_number_24 rfl (lv_at hl 0 rfl) ?_
      refine ps_readI (wc := [(a 11, .inr (cCol, [.int (nI 32768), .ref (q 3)])), (q 3, .inl (cI, N 3, .inl (F 3)))]) hP hD hS hA [14, 15] rfl (fun _ _ h => h.1) (ps_runVI ⟨hx, hb, hml, hown, hts⟩ (c_at l dC dI cI tys ht (a 11) (q 3) 32768 (N 3) (F 3) (ps_ix F row place) (hw.z 3 (by decide)) (hw.n 3 (by decide)) hix31) (ps_cwV ps_gd 1 hts tw_102 k_Col_at e_Col_at ⟨Nat.le_of_ble_eq_true rfl, Nat.le_of_ble_eq_true rfl⟩) hK hP hD [14, 15] (by decide) rfl 0 cCol rfl rfl rfl hl.1 rfl (Nat.le_of_ble_eq_true rfl) d_PS_number_25 ⟨Nat.zero_le _, Nat.zero_le _⟩) (fun r_3 H locs hr_3 hP hS => ?_)
      obtain ⟨-, hr_3⟩ := hr_3
      subst hr_3
      exact ps_iret hx hb hr hlocks hK hP hD hS (Nat.le_of_ble_eq_true rfl) (Nat.le_of_ble_eq_true rfl) d_PS_number_28 (⟨rfl, ps_cy hcr_1 rfl⟩)
    · exact absurd c_2 (ps_m1 hix31)
  · subst hr_1
    refine lv_istore_n (lv' := [(3, .int (-1)), (0, .ref (a 0)), (1, .int row), (2, .int place)]) hx hb d_PS_number_7 rfl hl (by decide) rfl (fun ls hl => ?_)
    refine lv_iload_n hx hb d_PS_number_8 rfl (lv_at hl 0 rfl) ?_
    refine lv_iconst (v := (-1)) hx hb d_PS_number_9 (by decide) ?_
    refine lv_icmp_ne (tgt := 17) hx hb d_PS_number_10 (by decide) (fun c_4 => ?_) (fun c_4 => ?_)
    · exact absurd rfl c_4
    · refine lv_iconst (v := 0) hx hb d_PS_number_13 (by decide) ?_
      refine lv_goto (tgt := 28) hx hb d_PS_number_14 (by decide) ?_
      exact ps_iret hx hb hr hlocks hK hP hD hS (Nat.le_of_ble_eq_true rfl) (Nat.le_of_ble_eq_true rfl) d_PS_number_28 (⟨rfl, ps_cn hcr_1 rfl⟩)

set_option maxHeartbeats 4000000 in
set_option maxRecDepth 100000 in
/-- PageStore.get -/
theorem c_get (l : Launch) (dC : Nat → ClassId) (dI : Nat → Nat → Nat) (cI : ClassId) (tys : List (ClassId × FieldType)) (ht : tys[0]? = some (cI, FieldType.int)) (a q K : Nat → Nat) (S : Nat) (ck cu : Int32) (F : Nat → Nat → Int32) (N : Nat → Nat) (hw : ps_wf F N) (hKb : ∀ j, K j ≤ 65536) (hSb : S ≤ 15) (row place : Int32) (hrw : ps_rows K F) : ps_mI classes l y_PS_get w_PS_get ({ frames := 2, cells := 0, slots := 0, locals := 44 }) (dC, dI) tys [.ref (a 0), .int row, .int place] (pw cI a q K S ck cu F N) (fun r u => u = pw cI a q K S ck cu F N ∧ ps_c (ps_ok K F (nI 1) row place) (r = F 2 (ps_ix F row place)) (ps_c (ps_ok K F (nI 2) row place) (r = F 1 (ps_ix F row place)) (r = -1))) := by
  refine ps_mI_of (by decide) rfl (Nat.le_of_ble_eq_true rfl) ?_
  intro p e s m below meth c A ls C0 hA hK hP hD hS hl
  obtain ⟨hx, hb, hr, hml, hts, hown, hlocks, hin⟩ := C0
  have hl : lv_has ls 4 [(0, .ref (a 0)), (1, .int row), (2, .int place)] := hl
  have hP : va_P (dC, dI) classes (pw cI a q K S ck cu F N) s.heap := hP
  have hD : va_D A (pw cI a q K S ck cu F N) := hD
  refine lv_aload_n hx hb d_PS_get_0 rfl (lv_at hl 0 rfl) ?_
  refine lv_iconst (v := nI 1) hx hb d_PS_get_1 (by decide) ?_
  refine lv_iload_n hx hb d_PS_get_2 rfl (lv_at hl 1 rfl) ?_
  refine lv_iload_n hx hb d_PS_get_3 rfl (lv_at hl 2 rfl) ?_
  refine ps_readI (wc := (pw cI a q K S ck cu F N)) hP hD hS hA [0, 1, 2, 3, 4, 5, 6, 7, 8, 9, 10, 11, 12, 13, 14, 15, 16, 17, 18, 19, 20, 21, 22, 23, 24, 25, 26, 27, 28, 29, 30, 31, 32, 33, 34, 35, 36, 37, 38, 39] rfl (fun _ _ h => h.1) (ps_runVI ⟨hx, hb, hml, hown, hts⟩ (c_ixin l dC dI cI tys ht a q K S ck cu F N hw hKb hSb (nI 1) row place) (ps_cwV ps_gd 3 hts tw_141 k_PS_indexIn e_PS_indexIn ⟨Nat.le_of_ble_eq_true rfl, Nat.le_of_ble_eq_true rfl⟩) hK hP hD [0, 1, 2, 3, 4, 5, 6, 7, 8, 9, 10, 11, 12, 13, 14, 15, 16, 17, 18, 19, 20, 21, 22, 23, 24, 25, 26, 27, 28, 29, 30, 31, 32, 33, 34, 35, 36, 37, 38, 39] (by decide) rfl 0 cPS rfl rfl rfl hl.1 rfl (Nat.le_of_ble_eq_true rfl) d_PS_get_4 ⟨Nat.zero_le _, Nat.zero_le _⟩) (fun r_1 H locs hr_1 hP hS => ?_)
  obtain ⟨-, hr_1⟩ := hr_1
  rcases hr_1 with ⟨hcr_1, hr_1⟩ | ⟨hcr_1, hr_1⟩
  · obtain ⟨eix, hix⟩ := ps_ok_ix hKb hrw (Or.inl rfl) hcr_1
    rw [eix] at hr_1
    subst hr_1
    have hix31 : ps_ix F row place < 2 ^ 31 := by have b1 := hKb 1; omega
    refine lv_istore_n (lv' := [(3, .int (nI (ps_ix F row place))), (0, .ref (a 0)), (1, .int row), (2, .int place)]) hx hb d_PS_get_7 rfl hl (by decide) rfl (fun ls hl => ?_)
    refine lv_iload_n hx hb d_PS_get_8 rfl (lv_at hl 0 rfl) ?_
    refine lv_iconst (v := (-1)) hx hb d_PS_get_9 (by decide) ?_
    refine lv_icmp_eq (tgt := 25) hx hb d_PS_get_10 (by decide) (fun c_2 => ?_) (fun c_2 => ?_)
    · exact absurd c_2 (ps_m1 hix31)
    · refine lv_aload_n hx hb d_PS_get_13 rfl (lv_at hl 1 rfl) ?_
      refine va_get (D := (dC, dI)) (ci := cPS) (v := .ref (a 3)) (C := R_PS) (T := F_PS) (N := 10) hx hb hts i_PS hown hK hP 0 rfl rfl 4 (by decide) (hts _ tw_103) (fun _ h9 => h9) rfl d_PS_get_14 ?_
      refine va_get (D := (dC, dI)) (ci := cVal) (v := .ref (a 10)) (C := R_Val) (T := F_Val) (N := 2) hx hb hts i_Val hown hK hP 3 rfl rfl 0 (by decide) (hts _ tw_143) (fun _ h9 => h9) rfl d_PS_get_17 ?_
      refine lv_iload_n hx hb d_PS_get_20 rfl (lv_at hl 0 rfl) ?_
      refine ps_readI (wc := [(a 10, .inr (cCol, [.int (nI 32768), .ref (q 2)])), (q 2, .inl (cI, N 2, .inl (F 2)))]) hP hD hS hA [12, 13] rfl (fun _ _ h => h.1) (ps_runVI ⟨hx, hb, hml, hown, hts⟩ (c_at l dC dI cI tys ht (a 10) (q 2) 32768 (N 2) (F 2) (ps_ix F row place) (hw.z 2 (by decide)) (hw.n 2 (by decide)) hix31) (ps_cwV ps_gd 1 hts tw_102 k_Col_at e_Col_at ⟨Nat.le_of_ble_eq_true rfl, Nat.le_of_ble_eq_true rfl⟩) hK hP hD [12, 13] (by decide) rfl 0 cCol rfl rfl rfl hl.1 rfl (Nat.le_of_ble_eq_true rfl) d_PS_get_21 ⟨Nat.zero_le _, Nat.zero_le _⟩) (fun r_3 H locs hr_3 hP hS => ?_)
      obtain ⟨-, hr_3⟩ := hr_3
      subst hr_3
      exact ps_iret hx hb hr hlocks hK hP hD hS (Nat.le_of_ble_eq_true rfl) (Nat.le_of_ble_eq_true rfl) d_PS_get_24 (⟨rfl, ps_cy hcr_1 rfl⟩)
  · subst hr_1
    refine lv_istore_n (lv' := [(3, .int (-1)), (0, .ref (a 0)), (1, .int row), (2, .int place)]) hx hb d_PS_get_7 rfl hl (by decide) rfl (fun ls hl => ?_)
    refine lv_iload_n hx hb d_PS_get_8 rfl (lv_at hl 0 rfl) ?_
    refine lv_iconst (v := (-1)) hx hb d_PS_get_9 (by decide) ?_
    refine lv_icmp_eq (tgt := 25) hx hb d_PS_get_10 (by decide) (fun c_4 => ?_) (fun c_4 => ?_)
    · refine lv_aload_n hx hb d_PS_get_25 rfl (lv_at hl 1 rfl) ?_
      refine lv_iconst (v := nI 2) hx hb d_PS_get_26 (by decide) ?_
      refine lv_iload_n hx hb d_PS_get_27 rfl (lv_at hl 2 rfl) ?_
      refine lv_iload_n hx hb d_PS_get_28 rfl (lv_at hl 3 rfl) ?_
      refine ps_readI (wc := (pw cI a q K S ck cu F N)) hP hD hS hA [0, 1, 2, 3, 4, 5, 6, 7, 8, 9, 10, 11, 12, 13, 14, 15, 16, 17, 18, 19, 20, 21, 22, 23, 24, 25, 26, 27, 28, 29, 30, 31, 32, 33, 34, 35, 36, 37, 38, 39] rfl (fun _ _ h => h.1) (ps_runVI ⟨hx, hb, hml, hown, hts⟩ (c_ixin l dC dI cI tys ht a q K S ck cu F N hw hKb hSb (nI 2) row place) (ps_cwV ps_gd 3 hts tw_141 k_PS_indexIn e_PS_indexIn ⟨Nat.le_of_ble_eq_true rfl, Nat.le_of_ble_eq_true rfl⟩) hK hP hD [0, 1, 2, 3, 4, 5, 6, 7, 8, 9, 10, 11, 12, 13, 14, 15, 16, 17, 18, 19, 20, 21, 22, 23, 24, 25, 26, 27, 28, 29, 30, 31, 32, 33, 34, 35, 36, 37, 38, 39] (by decide) rfl 0 cPS rfl rfl rfl hl.1 rfl (Nat.le_of_ble_eq_true rfl) d_PS_get_29 ⟨Nat.zero_le _, Nat.zero_le _⟩) (fun r_5 H locs hr_5 hP hS => ?_)
      obtain ⟨-, hr_5⟩ := hr_5
      rcases hr_5 with ⟨hcr_5, hr_5⟩ | ⟨hcr_5, hr_5⟩
      · obtain ⟨eix, hix⟩ := ps_ok_ix hKb hrw (Or.inr rfl) hcr_5
        rw [eix] at hr_5
        subst hr_5
        have hix31 : ps_ix F row place < 2 ^ 31 := by have b1 := hKb 2; omega
        refine lv_istore_n (lv' := [(3, .int (nI (ps_ix F row place))), (0, .ref (a 0)), (1, .int row), (2, .int place)]) hx hb d_PS_get_32 rfl hl (by decide) rfl (fun ls hl => ?_)
        refine lv_iload_n hx hb d_PS_get_33 rfl (lv_at hl 0 rfl) ?_
        refine lv_iconst (v := (-1)) hx hb d_PS_get_34 (by decide) ?_
        refine lv_icmp_ne (tgt := 42) hx hb d_PS_get_35 (by decide) (fun c_6 => ?_) (fun c_6 => ?_)
        · refine lv_aload_n hx hb d_PS_get_42 rfl (lv_at hl 1 rfl) ?_
          refine va_get (D := (dC, dI)) (ci := cPS) (v := .ref (a 9)) (C := R_PS) (T := F_PS) (N := 10) hx hb hts i_PS hown hK hP 0 rfl rfl 5 (by decide) (hts _ tw_123) (fun _ h9 => h9) rfl d_PS_get_43 ?_
          refine lv_iload_n hx hb d_PS_get_46 rfl (lv_at hl 0 rfl) ?_
          refine ps_readI (wc := [(a 9, .inr (cCol, [.int (nI 65536), .ref (q 1)])), (q 1, .inl (cI, N 1, .inl (F 1)))]) hP hD hS hA [10, 11] rfl (fun _ _ h => h.1) (ps_runVI ⟨hx, hb, hml, hown, hts⟩ (c_at l dC dI cI tys ht (a 9) (q 1) 65536 (N 1) (F 1) (ps_ix F row place) (hw.z 1 (by decide)) (hw.n 1 (by decide)) hix31) (ps_cwV ps_gd 1 hts tw_102 k_Col_at e_Col_at ⟨Nat.le_of_ble_eq_true rfl, Nat.le_of_ble_eq_true rfl⟩) hK hP hD [10, 11] (by decide) rfl 0 cCol rfl rfl rfl hl.1 rfl (Nat.le_of_ble_eq_true rfl) d_PS_get_47 ⟨Nat.zero_le _, Nat.zero_le _⟩) (fun r_7 H locs hr_7 hP hS => ?_)
          obtain ⟨-, hr_7⟩ := hr_7
          subst hr_7
          exact ps_iret hx hb hr hlocks hK hP hD hS (Nat.le_of_ble_eq_true rfl) (Nat.le_of_ble_eq_true rfl) d_PS_get_50 (⟨rfl, ps_cn hcr_1 (ps_cy hcr_5 rfl)⟩)
        · exact absurd c_6 (ps_m1 hix31)
      · subst hr_5
        refine lv_istore_n (lv' := [(3, .int (-1)), (0, .ref (a 0)), (1, .int row), (2, .int place)]) hx hb d_PS_get_32 rfl hl (by decide) rfl (fun ls hl => ?_)
        refine lv_iload_n hx hb d_PS_get_33 rfl (lv_at hl 0 rfl) ?_
        refine lv_iconst (v := (-1)) hx hb d_PS_get_34 (by decide) ?_
        refine lv_icmp_ne (tgt := 42) hx hb d_PS_get_35 (by decide) (fun c_8 => ?_) (fun c_8 => ?_)
        · exact absurd rfl c_8
        · refine lv_iconst (v := (-1)) hx hb d_PS_get_38 (by decide) ?_
          refine lv_goto (tgt := 50) hx hb d_PS_get_39 (by decide) ?_
          exact ps_iret hx hb hr hlocks hK hP hD hS (Nat.le_of_ble_eq_true rfl) (Nat.le_of_ble_eq_true rfl) d_PS_get_50 (⟨rfl, ps_cn hcr_1 (ps_cn hcr_5 rfl)⟩)
    · exact absurd rfl c_4

set_option maxHeartbeats 4000000 in
set_option maxRecDepth 100000 in
/-- PageStore.setByte -/
theorem c_setByte (l : Launch) (dC : Nat → ClassId) (dI : Nat → Nat → Nat) (cI : ClassId) (tys : List (ClassId × FieldType)) (ht : tys[0]? = some (cI, FieldType.int)) (a q K : Nat → Nat) (S : Nat) (ck cu : Int32) (F : Nat → Nat → Int32) (N : Nat → Nat) (hw : ps_wf F N) (hKb : ∀ j, K j ≤ 65536) (hSb : S ≤ 15) (row place b : Int32) (hrw : ps_rows K F) (hk2 : K 2 ≤ 65536) (mc ms : Nat) (hm : ps_ok K F (nI 2) row place → ps_dc 65536 (N 1) (ps_ix F row place) ≤ mc ∧ ps_ds 65536 (N 1) (ps_ix F row place) ≤ ms) : ps_mI classes l y_PS_setByte w_PS_setByte ({ frames := 3, cells := mc, slots := ms, locals := 63 }) (dC, dI) tys [.ref (a 0), .int row, .int place, .int b] (pw cI a q K S ck cu F N) (fun r u => ps_c (ps_ok K F (nI 2) row place) (∃ q1 : Nat → Nat, r = 1 ∧ u = pw cI a q1 K S ck cu (ps_u F 1 (ps_ix F row place) (b &&& nI 255)) (ps_g N 1 (ps_ix F row place))) (r = -1 ∧ u = pw cI a q K S ck cu F N)) := by
  have b2x := hKb 2
  refine ps_mI_of (by decide) rfl (Nat.le_of_ble_eq_true rfl) ?_
  intro p e s m below meth c A ls C0 hA hK hP hD hS hl
  obtain ⟨hx, hb, hr, hml, hts, hown, hlocks, hin⟩ := C0
  have hl : lv_has ls 5 [(0, .ref (a 0)), (1, .int row), (2, .int place), (3, .int b)] := hl
  have hP : va_P (dC, dI) classes (pw cI a q K S ck cu F N) s.heap := hP
  have hD : va_D A (pw cI a q K S ck cu F N) := hD
  refine lv_aload_n hx hb d_PS_setByte_0 rfl (lv_at hl 0 rfl) ?_
  refine lv_iconst (v := nI 2) hx hb d_PS_setByte_1 (by decide) ?_
  refine lv_iload_n hx hb d_PS_setByte_2 rfl (lv_at hl 1 rfl) ?_
  refine lv_iload_n hx hb d_PS_setByte_3 rfl (lv_at hl 2 rfl) ?_
  refine ps_readI (wc := (pw cI a q K S ck cu F N)) hP hD hS hA [0, 1, 2, 3, 4, 5, 6, 7, 8, 9, 10, 11, 12, 13, 14, 15, 16, 17, 18, 19, 20, 21, 22, 23, 24, 25, 26, 27, 28, 29, 30, 31, 32, 33, 34, 35, 36, 37, 38, 39] rfl (fun _ _ h => h.1) (ps_runVI ⟨hx, hb, hml, hown, hts⟩ (c_ixin l dC dI cI tys ht a q K S ck cu F N hw hKb hSb (nI 2) row place) (ps_cwV ps_gd 3 hts tw_141 k_PS_indexIn e_PS_indexIn ⟨Nat.le_of_ble_eq_true rfl, Nat.le_of_ble_eq_true rfl⟩) hK hP hD [0, 1, 2, 3, 4, 5, 6, 7, 8, 9, 10, 11, 12, 13, 14, 15, 16, 17, 18, 19, 20, 21, 22, 23, 24, 25, 26, 27, 28, 29, 30, 31, 32, 33, 34, 35, 36, 37, 38, 39] (by decide) rfl 0 cPS rfl rfl rfl hl.1 rfl (Nat.le_of_ble_eq_true rfl) d_PS_setByte_4 ⟨Nat.zero_le _, Nat.zero_le _⟩) (fun r_1 H locs hr_1 hP hS => ?_)
  obtain ⟨-, hr_1⟩ := hr_1
  rcases hr_1 with ⟨hcr_1, hr_1⟩ | ⟨hcr_1, hr_1⟩
  · obtain ⟨eix, hix⟩ := ps_ok_ix hKb hrw (Or.inr rfl) hcr_1
    rw [eix] at hr_1
    subst hr_1
    have hix31 : ps_ix F row place < 2 ^ 31 := by have b1 := hKb 2; omega
    refine lv_istore (lv' := [(4, .int (nI (ps_ix F row place))), (0, .ref (a 0)), (1, .int row), (2, .int place), (3, .int b)]) hx hb d_PS_setByte_7 hl (by decide) rfl (fun ls hl => ?_)
    refine lv_iload hx hb d_PS_setByte_9 (lv_at hl 0 rfl) ?_
    refine lv_iconst (v := (-1)) hx hb d_PS_setByte_11 (by decide) ?_
    refine lv_icmp_ne (tgt := 17) hx hb d_PS_setByte_12 (by decide) (fun c_2 => ?_) (fun c_2 => ?_)
    · refine lv_aload_n hx hb d_PS_setByte_17 rfl (lv_at hl 1 rfl) ?_
      refine va_get (D := (dC, dI)) (ci := cPS) (v := .ref (a 9)) (C := R_PS) (T := F_PS) (N := 10) hx hb hts i_PS hown hK hP 0 rfl rfl 5 (by decide) (hts _ tw_123) (fun _ h9 => h9) rfl d_PS_setByte_18 ?_
      refine lv_iload hx hb d_PS_setByte_21 (lv_at hl 0 rfl) ?_
      refine lv_iload_n hx hb d_PS_setByte_23 rfl (lv_at hl 4 rfl) ?_
      refine lv_sipush (v := nI 255) hx hb d_PS_setByte_24 (by decide) ?_
      refine lv_iand hx hb d_PS_setByte_27 ?_
      refine ps_afterV (wc := [(a 9, .inr (cCol, [.int (nI 65536), .ref (q 1)])), (q 1, .inl (cI, N 1, .inl (F 1)))]) (wr := [0, 1, 2, 3, 4, 5, 6, 7, 8, 9, 12, 13, 14, 15, 16, 17, 18, 19, 20, 21, 22, 23, 24, 25, 26, 27, 28, 29, 30, 31, 32, 33, 34, 35, 36, 37, 38, 39].filterMap (fun z9 => ((pw cI a q K S ck cu F N) : va_W)[z9]?)) hP hD hS hA [10, 11] [0, 1, 2, 3, 4, 5, 6, 7, 8, 9, 12, 13, 14, 15, 16, 17, 18, 19, 20, 21, 22, 23, 24, 25, 26, 27, 28, 29, 30, 31, 32, 33, 34, 35, 36, 37, 38, 39] rfl rfl (by decide) (by decide) (ps_runVV ⟨hx, hb, hml, hown, hts⟩ (c_put l dC dI cI tys ht (a 9) (q 1) 65536 (N 1) (F 1) (ps_ix F row place) (b &&& (nI 255)) (hw.z 1 (by decide)) (by decide) (hw 1 (by decide)).2 (by have b2 := hKb 2; omega)) (ps_cwV ps_gd 2 hts tw_144 k_Col_put e_Col_put ⟨Nat.le_of_ble_eq_true rfl, Nat.le_of_ble_eq_true rfl⟩) hK hP hD [10, 11] (by decide) rfl 0 cCol rfl rfl rfl hl.1 rfl (Nat.le_of_ble_eq_true rfl) d_PS_setByte_28 ⟨by have h1 := hm hcr_1; show 0 + 0 + ps_dc 65536 (N 1) (ps_ix F row place) ≤ mc; omega, by have h1 := hm hcr_1; show 0 + 0 + ps_ds 65536 (N 1) (ps_ix F row place) ≤ ms; omega⟩) (fun u_3 H locs hu_3 hP hD hS => ?_)
      obtain ⟨q_5, hu_3⟩ := hu_3
      subst hu_3
      obtain ⟨hP, hD⟩ := ps_perm (ws' := (pw cI a (va_up q 1 q_5) K S ck cu (va_up F 1 (upd (F 1) (ps_ix F row place) (b &&& (nI 255)))) (va_up N 1 (ps_len 65536 (N 1) (ps_ix F row place))))) hP hD [0, 1, 2, 3, 4, 5, 6, 7, 8, 9, 38, 39, 10, 11, 12, 13, 14, 15, 16, 17, 18, 19, 20, 21, 22, 23, 24, 25, 26, 27, 28, 29, 30, 31, 32, 33, 34, 35, 36, 37] (by decide) rfl
      refine lv_iconst (v := 1) hx hb d_PS_setByte_31 (by decide) ?_
      exact ps_iret hx hb hr hlocks hK hP hD hS (by have h1 := hm hcr_1; show 0 + 0 + ps_dc 65536 (N 1) (ps_ix F row place) ≤ mc; omega) (by have h1 := hm hcr_1; show 0 + 0 + ps_ds 65536 (N 1) (ps_ix F row place) ≤ ms; omega) d_PS_setByte_32 (ps_cy hcr_1 ⟨(va_up q 1 q_5), rfl, rfl⟩)
    · exact absurd c_2 (ps_m1 hix31)
  · subst hr_1
    refine lv_istore (lv' := [(4, .int (-1)), (0, .ref (a 0)), (1, .int row), (2, .int place), (3, .int b)]) hx hb d_PS_setByte_7 hl (by decide) rfl (fun ls hl => ?_)
    refine lv_iload hx hb d_PS_setByte_9 (lv_at hl 0 rfl) ?_
    refine lv_iconst (v := (-1)) hx hb d_PS_setByte_11 (by decide) ?_
    refine lv_icmp_ne (tgt := 17) hx hb d_PS_setByte_12 (by decide) (fun c_6 => ?_) (fun c_6 => ?_)
    · exact absurd rfl c_6
    · refine lv_iconst (v := (-1)) hx hb d_PS_setByte_15 (by decide) ?_
      exact ps_iret hx hb hr hlocks hK hP hD hS (Nat.zero_le _) (Nat.zero_le _) d_PS_setByte_16 (ps_cn hcr_1 ⟨rfl, rfl⟩)

set_option maxHeartbeats 4000000 in
set_option maxRecDepth 100000 in
/-- PageStore.dictionary -/
theorem c_dictionary (l : Launch) (dC : Nat → ClassId) (dI : Nat → Nat → Nat) (cI : ClassId) (tys : List (ClassId × FieldType)) (ht : tys[0]? = some (cI, FieldType.int)) (a q K : Nat → Nat) (S : Nat) (ck cu : Int32) (F : Nat → Nat → Int32) (N : Nat → Nat) (hw : ps_wf F N) (hKb : ∀ j, K j ≤ 65536) (hSb : S ≤ 15) : ps_mI classes l y_PS_dictionary w_PS_dictionary ({ frames := 0, cells := 0, slots := 0, locals := 0 }) (dC, dI) tys [.ref (a 0)] (pw cI a q K S ck cu F N) (fun r u => ps_c (1024 ≤ K 3) (r = -3 ∧ u = pw cI a q K S ck cu F N) (r = nI (K 3 + 1) ∧ u = pw cI a q (va_up K 3 (K 3 + 1)) S ck cu F N)) := by
  refine ps_mI_of (by decide) rfl (Nat.le_of_ble_eq_true rfl) ?_
  intro p e s m below meth c A ls C0 hA hK hP hD hS hl
  obtain ⟨hx, hb, hr, hml, hts, hown, hlocks, hin⟩ := C0
  have hl : lv_has ls 1 [(0, .ref (a 0))] := hl
  have hP : va_P (dC, dI) classes (pw cI a q K S ck cu F N) s.heap := hP
  have hD : va_D A (pw cI a q K S ck cu F N) := hD
  refine lv_aload_n hx hb d_PS_dictionary_0 rfl (lv_at hl 0 rfl) ?_
  refine va_get (D := (dC, dI)) (ci := cPS) (v := .ref (a 1)) (C := R_PS) (T := F_PS) (N := 10) hx hb hts i_PS hown hK hP 0 rfl rfl 0 (by decide) (hts _ tw_97) (fun _ h9 => h9) rfl d_PS_dictionary_1 ?_
  refine lv_iconst (v := nI 3) hx hb d_PS_dictionary_4 (by decide) ?_
  refine va_iald hx hb hK hP 1 0 rfl ht (vp_in_nI (show 3 < 6 by decide) (by decide)) d_PS_dictionary_5 ?_
  refine ps_top (z := nI (K 3)) (ps_kat _ 3 (by decide)) ?_
  refine lv_sipush (v := nI 1024) hx hb d_PS_dictionary_6 (by decide) ?_
  refine lv_icmp_lt (tgt := 15) hx hb d_PS_dictionary_9 (by decide) (fun c_1 => ?_) (fun c_1 => ?_)
  · have c_1 : K 3 < 1024 := (nI_ltI (by have h0 := hKb 0; have h1 := hKb 1; have h2 := hKb 2; have h3 := hKb 3; have h4 := hKb 4; have h5 := hKb 5; omega) (by have h0 := hKb 0; have h1 := hKb 1; have h2 := hKb 2; have h3 := hKb 3; have h4 := hKb 4; have h5 := hKb 5; omega)).mp c_1
    refine lv_aload_n hx hb d_PS_dictionary_15 rfl (lv_at hl 0 rfl) ?_
    refine va_get (D := (dC, dI)) (ci := cPS) (v := .ref (a 1)) (C := R_PS) (T := F_PS) (N := 10) hx hb hts i_PS hown hK hP 0 rfl rfl 0 (by decide) (hts _ tw_97) (fun _ h9 => h9) rfl d_PS_dictionary_16 ?_
    refine lv_iconst (v := nI 3) hx hb d_PS_dictionary_19 (by decide) ?_
    refine lv_dup2_11 hx hb d_PS_dictionary_20 rfl rfl ?_
    refine va_iald hx hb hK hP 1 0 rfl ht (vp_in_nI (show 3 < 6 by decide) (by decide)) d_PS_dictionary_21 ?_
    refine ps_top (z := nI (K 3)) (ps_kat _ 3 (by decide)) ?_
    refine lv_iconst (v := nI 1) hx hb d_PS_dictionary_22 (by decide) ?_
    refine lv_iadd hx hb d_PS_dictionary_23 ?_
    refine ps_top (z := nI (K 3 + 1)) (nI_add _ _) ?_
    refine va_iast hx hb hK hP hD hS 1 0 rfl ht (vp_in_nI (show 3 < 6 by decide) (by decide)) d_PS_dictionary_24 (fun H locs hP hD hS => ?_)
    rw [nI_clamp (show 3 < 2 ^ 31 by decide)] at hP hD
    rw [ps_kup] at hP hD
    have hP : va_P (dC, dI) classes (pw cI a q (va_up K 3 (K 3 + 1)) S ck cu F N) H := hP
    have hD : va_D A (pw cI a q (va_up K 3 (K 3 + 1)) S ck cu F N) := hD
    refine lv_aload_n hx hb d_PS_dictionary_25 rfl (lv_at hl 0 rfl) ?_
    refine va_get (D := (dC, dI)) (ci := cPS) (v := .ref (a 1)) (C := R_PS) (T := F_PS) (N := 10) hx hb hts i_PS hown hK hP 0 rfl rfl 0 (by decide) (hts _ tw_97) (fun _ h9 => h9) rfl d_PS_dictionary_26 ?_
    refine lv_iconst (v := nI 3) hx hb d_PS_dictionary_29 (by decide) ?_
    refine va_iald hx hb hK hP 1 0 rfl ht (vp_in_nI (show 3 < 6 by decide) (by decide)) d_PS_dictionary_30 ?_
    refine ps_top (z := nI (K 3 + 1)) (ps_kat _ 3 (by decide)) ?_
    exact ps_iret hx hb hr hlocks hK hP hD hS (Nat.le_of_ble_eq_true rfl) (Nat.le_of_ble_eq_true rfl) d_PS_dictionary_31 (ps_cn (by omega) ⟨rfl, rfl⟩)
  · have c_1 : ¬ K 3 < 1024 := fun q => c_1 ((nI_ltI (by have h0 := hKb 0; have h1 := hKb 1; have h2 := hKb 2; have h3 := hKb 3; have h4 := hKb 4; have h5 := hKb 5; omega) (by have h0 := hKb 0; have h1 := hKb 1; have h2 := hKb 2; have h3 := hKb 3; have h4 := hKb 4; have h5 := hKb 5; omega)).mpr q)
    refine lv_bipush (v := (-3)) hx hb d_PS_dictionary_12 (by decide) ?_
    exact ps_iret hx hb hr hlocks hK hP hD hS (Nat.le_of_ble_eq_true rfl) (Nat.le_of_ble_eq_true rfl) d_PS_dictionary_14 (ps_cy (by omega) ⟨rfl, rfl⟩)

set_option maxHeartbeats 4000000 in
set_option maxRecDepth 100000 in
/-- PageStore.cursorKind -/
theorem c_cursorKind (l : Launch) (dC : Nat → ClassId) (dI : Nat → Nat → Nat) (cI : ClassId) (tys : List (ClassId × FieldType)) (ht : tys[0]? = some (cI, FieldType.int)) (a q K : Nat → Nat) (S : Nat) (ck cu : Int32) (F : Nat → Nat → Int32) (N : Nat → Nat) (hw : ps_wf F N) (hKb : ∀ j, K j ≤ 65536) (hSb : S ≤ 15) : ps_mI classes l y_PS_cursorKind w_PS_cursorKind ({ frames := 0, cells := 0, slots := 0, locals := 0 }) (dC, dI) tys [.ref (a 0)] (pw cI a q K S ck cu F N) (fun r u => u = pw cI a q K S ck cu F N ∧ r = ck) := by
  refine ps_mI_of (by decide) rfl (Nat.le_of_ble_eq_true rfl) ?_
  intro p e s m below meth c A ls C0 hA hK hP hD hS hl
  obtain ⟨hx, hb, hr, hml, hts, hown, hlocks, hin⟩ := C0
  have hl : lv_has ls 1 [(0, .ref (a 0))] := hl
  have hP : va_P (dC, dI) classes (pw cI a q K S ck cu F N) s.heap := hP
  have hD : va_D A (pw cI a q K S ck cu F N) := hD
  refine lv_aload_n hx hb d_PS_cursorKind_0 rfl (lv_at hl 0 rfl) ?_
  refine va_get (D := (dC, dI)) (ci := cPS) (v := .int ck) (C := R_PS) (T := F_PS) (N := 10) hx hb hts i_PS hown hK hP 0 rfl rfl 8 (by decide) (hts _ tw_145) (fun _ h9 => h9) rfl d_PS_cursorKind_1 ?_
  exact ps_iret hx hb hr hlocks hK hP hD hS (Nat.le_of_ble_eq_true rfl) (Nat.le_of_ble_eq_true rfl) d_PS_cursorKind_4 (⟨rfl, rfl⟩)

set_option maxHeartbeats 4000000 in
set_option maxRecDepth 100000 in
/-- PageStore.cursorNumber -/
theorem c_cursorNumber (l : Launch) (dC : Nat → ClassId) (dI : Nat → Nat → Nat) (cI : ClassId) (tys : List (ClassId × FieldType)) (ht : tys[0]? = some (cI, FieldType.int)) (a q K : Nat → Nat) (S : Nat) (ck cu : Int32) (F : Nat → Nat → Int32) (N : Nat → Nat) (hw : ps_wf F N) (hKb : ∀ j, K j ≤ 65536) (hSb : S ≤ 15) : ps_mI classes l y_PS_cursorNumber w_PS_cursorNumber ({ frames := 0, cells := 0, slots := 0, locals := 0 }) (dC, dI) tys [.ref (a 0)] (pw cI a q K S ck cu F N) (fun r u => u = pw cI a q K S ck cu F N ∧ r = cu) := by
  refine ps_mI_of (by decide) rfl (Nat.le_of_ble_eq_true rfl) ?_
  intro p e s m below meth c A ls C0 hA hK hP hD hS hl
  obtain ⟨hx, hb, hr, hml, hts, hown, hlocks, hin⟩ := C0
  have hl : lv_has ls 1 [(0, .ref (a 0))] := hl
  have hP : va_P (dC, dI) classes (pw cI a q K S ck cu F N) s.heap := hP
  have hD : va_D A (pw cI a q K S ck cu F N) := hD
  refine lv_aload_n hx hb d_PS_cursorNumber_0 rfl (lv_at hl 0 rfl) ?_
  refine va_get (D := (dC, dI)) (ci := cPS) (v := .int cu) (C := R_PS) (T := F_PS) (N := 10) hx hb hts i_PS hown hK hP 0 rfl rfl 9 (by decide) (hts _ tw_146) (fun _ h9 => h9) rfl d_PS_cursorNumber_1 ?_
  exact ps_iret hx hb hr hlocks hK hP hD hS (Nat.le_of_ble_eq_true rfl) (Nat.le_of_ble_eq_true rfl) d_PS_cursorNumber_4 (⟨rfl, rfl⟩)

set_option maxHeartbeats 4000000 in
set_option maxRecDepth 100000 in
/-- PageStore.noted -/
theorem c_noted (l : Launch) (dC : Nat → ClassId) (dI : Nat → Nat → Nat) (cI : ClassId) (tys : List (ClassId × FieldType)) (ht : tys[0]? = some (cI, FieldType.int)) (a q K : Nat → Nat) (S : Nat) (ck cu : Int32) (F : Nat → Nat → Int32) (N : Nat → Nat) (hw : ps_wf F N) (hKb : ∀ j, K j ≤ 65536) (hSb : S ≤ 15) (k w : Int32) : ps_mI classes l y_PS_noted w_PS_noted ({ frames := 2, cells := 0, slots := 0, locals := 43 }) (dC, dI) tys [.ref (a 0), .int k, .int w] (pw cI a q K S ck cu F N) (fun r u => u = pw cI a q K S ck cu F N ∧ ps_c (w < 0 ∨ nI 6 ≤ w) (r = -1) (ps_c (k = 0) (r = nI (K w.toNatClampNeg)) (ps_c ((nI 1 ≤ k ∧ k ≤ nI S) ∧ ¬ w = nI 5) (r = F 0 ((k.toNatClampNeg - 1) * 6 + w.toNatClampNeg)) (r = -1)))) := by
  refine ps_mI_of (by decide) rfl (Nat.le_of_ble_eq_true rfl) ?_
  intro p e s m below meth c A ls C0 hA hK hP hD hS hl
  obtain ⟨hx, hb, hr, hml, hts, hown, hlocks, hin⟩ := C0
  have hl : lv_has ls 3 [(0, .ref (a 0)), (1, .int k), (2, .int w)] := hl
  have hP : va_P (dC, dI) classes (pw cI a q K S ck cu F N) s.heap := hP
  have hD : va_D A (pw cI a q K S ck cu F N) := hD
  refine lv_iload_n hx hb d_PS_noted_0 rfl (lv_at hl 2 rfl) ?_
  refine lv_if_lt (tgt := 10) hx hb d_PS_noted_1 (by decide) (fun c_1 => ?_) (fun c_1 => ?_)
  · refine lv_iconst (v := (-1)) hx hb d_PS_noted_10 (by decide) ?_
    exact ps_iret hx hb hr hlocks hK hP hD hS (Nat.le_of_ble_eq_true rfl) (Nat.le_of_ble_eq_true rfl) d_PS_noted_11 (⟨rfl, ps_cy (Or.inl c_1) rfl⟩)
  · refine lv_iload_n hx hb d_PS_noted_4 rfl (lv_at hl 2 rfl) ?_
    refine lv_bipush (v := nI 6) hx hb d_PS_noted_5 (by decide) ?_
    refine lv_icmp_lt (tgt := 12) hx hb d_PS_noted_7 (by decide) (fun c_2 => ?_) (fun c_2 => ?_)
    · obtain ⟨w0, hw31, rfl⟩ := nI_of c_1
      have c_2 : w0 < 6 := (nI_ltI hw31 (by decide)).mp c_2
      rw [nI_clamp hw31]
      have hna : ¬ (nI w0 < 0 ∨ nI 6 ≤ nI w0) := fun q => q.elim (nI_pos hw31) (fun q => absurd ((nI_leI (by decide) hw31).mp q) (by omega))
      refine lv_iload_n hx hb d_PS_noted_12 rfl (lv_at hl 1 rfl) ?_
      refine lv_if_ne (tgt := 23) hx hb d_PS_noted_13 (by decide) (fun c_3 => ?_) (fun c_3 => ?_)
      · refine lv_aload_n hx hb d_PS_noted_23 rfl (lv_at hl 0 rfl) ?_
        refine lv_iload_n hx hb d_PS_noted_24 rfl (lv_at hl 1 rfl) ?_
        refine ps_readI (wc := (pw cI a q K S ck cu F N)) hP hD hS hA [0, 1, 2, 3, 4, 5, 6, 7, 8, 9, 10, 11, 12, 13, 14, 15, 16, 17, 18, 19, 20, 21, 22, 23, 24, 25, 26, 27, 28, 29, 30, 31, 32, 33, 34, 35, 36, 37, 38, 39] rfl (fun _ _ h => h.1) (ps_runVI ⟨hx, hb, hml, hown, hts⟩ (c_isSave l dC dI cI tys ht a q K S ck cu F N hw hKb hSb k) (ps_cwV ps_gd 1 hts tw_147 k_PS_isSave e_PS_isSave ⟨Nat.le_of_ble_eq_true rfl, Nat.le_of_ble_eq_true rfl⟩) hK hP hD [0, 1, 2, 3, 4, 5, 6, 7, 8, 9, 10, 11, 12, 13, 14, 15, 16, 17, 18, 19, 20, 21, 22, 23, 24, 25, 26, 27, 28, 29, 30, 31, 32, 33, 34, 35, 36, 37, 38, 39] (by decide) rfl 0 cPS rfl rfl rfl hl.1 rfl (Nat.le_of_ble_eq_true rfl) d_PS_noted_25 ⟨Nat.zero_le _, Nat.zero_le _⟩) (fun r_4 H locs hr_4 hP hS => ?_)
        obtain ⟨-, hr_4⟩ := hr_4
        subst hr_4
        refine lv_if_eq (tgt := 45) hx hb d_PS_noted_28 (by decide) (fun c_5 => ?_) (fun c_5 => ?_)
        · have c_5 := ps_ite0 c_5
          refine lv_iconst (v := (-1)) hx hb d_PS_noted_45 (by decide) ?_
          exact ps_iret hx hb hr hlocks hK hP hD hS (Nat.le_of_ble_eq_true rfl) (Nat.le_of_ble_eq_true rfl) d_PS_noted_46 (⟨rfl, ps_cn hna (ps_cn c_3 (ps_cn (fun q => c_5 q.1) rfl))⟩)
        · have c_5 := ps_ite1 c_5
          have hc := c_5
          obtain ⟨k0, hk1, hk2, rfl⟩ := ps_rng (by omega) c_5
          rw [nI_clamp (show k0 < 2 ^ 31 by omega)]
          refine lv_iload_n hx hb d_PS_noted_31 rfl (lv_at hl 2 rfl) ?_
          refine lv_iconst (v := nI 5) hx hb d_PS_noted_32 (by decide) ?_
          refine lv_icmp_eq (tgt := 45) hx hb d_PS_noted_33 (by decide) (fun c_6 => ?_) (fun c_6 => ?_)
          · have c_6 : w0 = 5 := (nI_eq (by have h0 := hKb 0; have h1 := hKb 1; have h2 := hKb 2; have h3 := hKb 3; have h4 := hKb 4; have h5 := hKb 5; omega) (by have h0 := hKb 0; have h1 := hKb 1; have h2 := hKb 2; have h3 := hKb 3; have h4 := hKb 4; have h5 := hKb 5; omega)).mp c_6
            refine lv_iconst (v := (-1)) hx hb d_PS_noted_45 (by decide) ?_
            exact ps_iret hx hb hr hlocks hK hP hD hS (Nat.le_of_ble_eq_true rfl) (Nat.le_of_ble_eq_true rfl) d_PS_noted_46 (⟨rfl, ps_cn hna (ps_cn c_3 (ps_cn (fun q => q.2 (by rw [c_6])) rfl))⟩)
          · have c_6 : ¬ w0 = 5 := fun q => c_6 ((nI_eq (by have h0 := hKb 0; have h1 := hKb 1; have h2 := hKb 2; have h3 := hKb 3; have h4 := hKb 4; have h5 := hKb 5; omega) (by have h0 := hKb 0; have h1 := hKb 1; have h2 := hKb 2; have h3 := hKb 3; have h4 := hKb 4; have h5 := hKb 5; omega)).mpr q)
            refine lv_aload_n hx hb d_PS_noted_36 rfl (lv_at hl 0 rfl) ?_
            refine lv_iload_n hx hb d_PS_noted_37 rfl (lv_at hl 1 rfl) ?_
            refine lv_iload_n hx hb d_PS_noted_38 rfl (lv_at hl 2 rfl) ?_
            refine ps_readI (wc := (pw cI a q K S ck cu F N)) hP hD hS hA [0, 1, 2, 3, 4, 5, 6, 7, 8, 9, 10, 11, 12, 13, 14, 15, 16, 17, 18, 19, 20, 21, 22, 23, 24, 25, 26, 27, 28, 29, 30, 31, 32, 33, 34, 35, 36, 37, 38, 39] rfl (fun _ _ h => h.1) (ps_runVI ⟨hx, hb, hml, hown, hts⟩ (c_cas l dC dI cI tys ht a q K S ck cu F N hw hKb hSb k0 w0 hk1 (by omega) c_2) (ps_cwV ps_gd 2 hts tw_148 k_PS_countAtSave e_PS_countAtSave ⟨Nat.le_of_ble_eq_true rfl, Nat.le_of_ble_eq_true rfl⟩) hK hP hD [0, 1, 2, 3, 4, 5, 6, 7, 8, 9, 10, 11, 12, 13, 14, 15, 16, 17, 18, 19, 20, 21, 22, 23, 24, 25, 26, 27, 28, 29, 30, 31, 32, 33, 34, 35, 36, 37, 38, 39] (by decide) rfl 0 cPS rfl rfl rfl hl.1 rfl (Nat.le_of_ble_eq_true rfl) d_PS_noted_39 ⟨Nat.zero_le _, Nat.zero_le _⟩) (fun r_7 H locs hr_7 hP hS => ?_)
            obtain ⟨-, hr_7⟩ := hr_7
            subst hr_7
            refine lv_goto (tgt := 46) hx hb d_PS_noted_42 (by decide) ?_
            exact ps_iret hx hb hr hlocks hK hP hD hS (Nat.le_of_ble_eq_true rfl) (Nat.le_of_ble_eq_true rfl) d_PS_noted_46 (⟨rfl, ps_cn hna (ps_cn c_3 (ps_cy ⟨hc, fun q => c_6 ((nI_eq hw31 (by decide)).mp q)⟩ rfl))⟩)
      · refine lv_aload_n hx hb d_PS_noted_16 rfl (lv_at hl 0 rfl) ?_
        refine va_get (D := (dC, dI)) (ci := cPS) (v := .ref (a 1)) (C := R_PS) (T := F_PS) (N := 10) hx hb hts i_PS hown hK hP 0 rfl rfl 0 (by decide) (hts _ tw_97) (fun _ h9 => h9) rfl d_PS_noted_17 ?_
        refine lv_iload_n hx hb d_PS_noted_20 rfl (lv_at hl 2 rfl) ?_
        refine va_iald hx hb hK hP 1 0 rfl ht (vp_in_nI (show w0 < 6 by omega) (by decide)) d_PS_noted_21 ?_
        refine ps_top (z := nI (K w0)) (ps_kat _ w0 hw31) ?_
        exact ps_iret hx hb hr hlocks hK hP hD hS (Nat.le_of_ble_eq_true rfl) (Nat.le_of_ble_eq_true rfl) d_PS_noted_22 (⟨rfl, ps_cn hna (ps_cy c_3 rfl)⟩)
    · refine lv_iconst (v := (-1)) hx hb d_PS_noted_10 (by decide) ?_
      exact ps_iret hx hb hr hlocks hK hP hD hS (Nat.le_of_ble_eq_true rfl) (Nat.le_of_ble_eq_true rfl) d_PS_noted_11 (⟨rfl, ps_cy (Or.inr (k2_le c_2)) rfl⟩)

set_option maxHeartbeats 4000000 in
set_option maxRecDepth 100000 in
/-- PageStore.save -/
theorem c_save (l : Launch) (dC : Nat → ClassId) (dI : Nat → Nat → Nat) (cI : ClassId) (tys : List (ClassId × FieldType)) (ht : tys[0]? = some (cI, FieldType.int)) (a q K : Nat → Nat) (S : Nat) (ck cu : Int32) (F : Nat → Nat → Int32) (N : Nat → Nat) (hw : ps_wf F N) (hKb : ∀ j, K j ≤ 65536) (hSb : S ≤ 15) (mc ms : Nat) (hm : ¬ 15 ≤ S → (ps_nl (N 0) (S * 6) 6 - N 0) ≤ mc ∧ (ps_psi 90 (ps_nl (N 0) (S * 6) 6) - ps_psi 90 (N 0)) ≤ ms) : ps_mI classes l y_PS_save w_PS_save ({ frames := 3, cells := mc, slots := ms, locals := 63 }) (dC, dI) tys [.ref (a 0)] (pw cI a q K S ck cu F N) (fun r u => ps_c (15 ≤ S) (r = -3 ∧ u = pw cI a q K S ck cu F N) (∃ q1 : Nat → Nat, r = nI (S + 1) ∧ u = pw cI a q1 K (S + 1) ck cu (va_up F 0 (ps_nt (F 0) K (S * 6) 6)) (va_up N 0 (ps_nl (N 0) (S * 6) 6)))) := by
  refine ps_mI_of (by decide) rfl (Nat.le_of_ble_eq_true rfl) ?_
  intro p e s m below meth c A ls C0 hA hK hP hD hS hl
  obtain ⟨hx, hb, hr, hml, hts, hown, hlocks, hin⟩ := C0
  have hl : lv_has ls 2 [(0, .ref (a 0))] := hl
  have hP : va_P (dC, dI) classes (pw cI a q K S ck cu F N) s.heap := hP
  have hD : va_D A (pw cI a q K S ck cu F N) := hD
  refine lv_aload_n hx hb d_PS_save_0 rfl (lv_at hl 0 rfl) ?_
  refine va_get (D := (dC, dI)) (ci := cPS) (v := .int (nI S)) (C := R_PS) (T := F_PS) (N := 10) hx hb hts i_PS hown hK hP 0 rfl rfl 2 (by decide) (hts _ tw_98) (fun _ h9 => h9) rfl d_PS_save_1 ?_
  refine lv_bipush (v := nI 15) hx hb d_PS_save_4 (by decide) ?_
  refine lv_icmp_lt (tgt := 12) hx hb d_PS_save_6 (by decide) (fun c_1 => ?_) (fun c_1 => ?_)
  · have c_1 : S < 15 := (nI_ltI (by have h0 := hKb 0; have h1 := hKb 1; have h2 := hKb 2; have h3 := hKb 3; have h4 := hKb 4; have h5 := hKb 5; omega) (by have h0 := hKb 0; have h1 := hKb 1; have h2 := hKb 2; have h3 := hKb 3; have h4 := hKb 4; have h5 := hKb 5; omega)).mp c_1
    refine lv_iconst (v := nI 0) hx hb d_PS_save_12 (by decide) ?_
    refine lv_istore_n (lv' := [(1, .int (nI 0)), (0, .ref (a 0))]) hx hb d_PS_save_13 rfl hl (by decide) rfl (fun ls hl => ?_)
    refine W.widen (k := ps_nl (N 0) (S * 6) 0 - N 0) (n := ps_psi 90 (ps_nl (N 0) (S * 6) 0) - ps_psi 90 (N 0)) (Nat.zero_le _) (Nat.zero_le _) ?_
    refine ps_loop (α := Nat × (Nat → Nat)) (fun x => (ps_nl (N 0) (S * 6) x.1 - N 0)) (fun x => (ps_psi 90 (ps_nl (N 0) (S * 6) x.1) - ps_psi 90 (N 0))) (fun x => 6 - x.1) (fun x H locs ls => lv_has ls 2 [(1, .int (nI x.1)), (0, .ref (a 0))] ∧ va_P (dC, dI) classes (pw cI a x.2 K S ck cu (va_up F 0 (ps_nt (F 0) K (S * 6) x.1)) (va_up N 0 (ps_nl (N 0) (S * 6) x.1))) H ∧ va_D A (pw cI a x.2 K S ck cu (va_up F 0 (ps_nt (F 0) K (S * 6) x.1)) (va_up N 0 (ps_nl (N 0) (S * 6) x.1))) ∧ va_S A s.heap H locs ∧ x.1 ≤ 6) ?_ (0, q) _ _ ls ⟨lv_sub hl [0, 1] rfl, (by have e : va_up F 0 (ps_nt (F 0) K (S * 6) 0) = F := (funext fun j => by by_cases h : j = 0 <;> simp [va_up, h, ps_nt]); have e2 : va_up N 0 (ps_nl (N 0) (S * 6) 0) = N := (funext fun j => by by_cases h : j = 0 <;> simp [va_up, h, ps_nl]); rw [e, e2]; exact hP), (by have e : va_up F 0 (ps_nt (F 0) K (S * 6) 0) = F := (funext fun j => by by_cases h : j = 0 <;> simp [va_up, h, ps_nt]); have e2 : va_up N 0 (ps_nl (N 0) (S * 6) 0) = N := (funext fun j => by by_cases h : j = 0 <;> simp [va_up, h, ps_nl]); rw [e, e2]; exact hD), hS, Nat.zero_le _⟩
    intro x H locs ls hI ih
    obtain ⟨hl, hP, hD, hS, hw6⟩ := hI
    have hN0 : N 0 ≤ 90 := (hw 0 (by decide)).2
    have hg0 := ps_nl_ge (N 0) (S * 6) x.1
    refine lv_iload_n hx hb d_PS_save_14 rfl (lv_at hl 0 rfl) ?_
    refine lv_bipush (v := nI 6) hx hb d_PS_save_15 (by decide) ?_
    refine lv_icmp_ge (tgt := 48) hx hb d_PS_save_17 (by decide) (fun c_2 => ?_) (fun c_2 => ?_)
    · have c_2 : 6 ≤ x.1 := (nI_leI (by have h0 := hKb 0; have h1 := hKb 1; have h2 := hKb 2; have h3 := hKb 3; have h4 := hKb 4; have h5 := hKb 5; omega) (by have h0 := hKb 0; have h1 := hKb 1; have h2 := hKb 2; have h3 := hKb 3; have h4 := hKb 4; have h5 := hKb 5; omega)).mp c_2
      refine lv_aload_n hx hb d_PS_save_48 rfl (lv_at hl 1 rfl) ?_
      refine lv_dup hx hb d_PS_save_49 rfl ?_
      refine va_get (D := (dC, dI)) (ci := cPS) (v := .int (nI S)) (C := R_PS) (T := F_PS) (N := 10) hx hb hts i_PS hown hK hP 0 rfl rfl 2 (by decide) (hts _ tw_98) (fun _ h9 => h9) rfl d_PS_save_50 ?_
      refine lv_iconst (v := nI 1) hx hb d_PS_save_53 (by decide) ?_
      refine lv_iadd hx hb d_PS_save_54 ?_
      refine ps_top (z := nI (S + 1)) (nI_add _ _) ?_
      refine va_put (D := (dC, dI)) (ci := cPS) (v := .int (nI (S + 1))) (ty := .int) (C := R_PS) (T := F_PS) (N := 10) hx hb hts i_PS t_PS t_PS_ok n_PS hown hK hP hD hS 0 rfl rfl 2 (by decide) (hts _ tw_98) (fun _ h9 => h9) rfl (by decide +kernel) rfl rfl (Nat.le_of_ble_eq_true rfl) d_PS_save_55 (fun H locs hP hD hS => ?_)
      have hP : va_P (dC, dI) classes (pw cI a x.2 K (S + 1) ck cu (va_up F 0 (ps_nt (F 0) K (S * 6) x.1)) (va_up N 0 (ps_nl (N 0) (S * 6) x.1))) H := hP
      have hD : va_D A (pw cI a x.2 K (S + 1) ck cu (va_up F 0 (ps_nt (F 0) K (S * 6) x.1)) (va_up N 0 (ps_nl (N 0) (S * 6) x.1))) := hD
      refine lv_aload_n hx hb d_PS_save_58 rfl (lv_at hl 1 rfl) ?_
      refine va_get (D := (dC, dI)) (ci := cPS) (v := .int (nI (S + 1))) (C := R_PS) (T := F_PS) (N := 10) hx hb hts i_PS hown hK hP 0 rfl rfl 2 (by decide) (hts _ tw_98) (fun _ h9 => h9) rfl d_PS_save_59 ?_
      obtain ⟨w, q9⟩ := x
      have hw9 : w = 6 := by have h1 : w ≤ 6 := hw6; omega
      subst hw9
      exact ps_iret hx hb hr hlocks hK hP hD hS ((hm (by omega)).1) ((hm (by omega)).2) d_PS_save_62 (ps_cn (by omega) ⟨q9, rfl, rfl⟩)
    · have c_2 : ¬ 6 ≤ x.1 := fun q => c_2 ((nI_leI (by have h0 := hKb 0; have h1 := hKb 1; have h2 := hKb 2; have h3 := hKb 3; have h4 := hKb 4; have h5 := hKb 5; omega) (by have h0 := hKb 0; have h1 := hKb 1; have h2 := hKb 2; have h3 := hKb 3; have h4 := hKb 4; have h5 := hKb 5; omega)).mpr q)
      refine lv_aload_n hx hb d_PS_save_20 rfl (lv_at hl 1 rfl) ?_
      refine va_get (D := (dC, dI)) (ci := cPS) (v := .ref (a 8)) (C := R_PS) (T := F_PS) (N := 10) hx hb hts i_PS hown hK hP 0 rfl rfl 1 (by decide) (hts _ tw_101) (fun _ h9 => h9) rfl d_PS_save_21 ?_
      refine lv_aload_n hx hb d_PS_save_24 rfl (lv_at hl 1 rfl) ?_
      refine va_get (D := (dC, dI)) (ci := cPS) (v := .int (nI S)) (C := R_PS) (T := F_PS) (N := 10) hx hb hts i_PS hown hK hP 0 rfl rfl 2 (by decide) (hts _ tw_98) (fun _ h9 => h9) rfl d_PS_save_25 ?_
      refine lv_bipush (v := nI 6) hx hb d_PS_save_28 (by decide) ?_
      refine lv_imul hx hb d_PS_save_30 ?_
      refine ps_top (z := nI (S * 6)) (pk_mul _ _) ?_
      refine lv_iload_n hx hb d_PS_save_31 rfl (lv_at hl 0 rfl) ?_
      refine lv_iadd hx hb d_PS_save_32 ?_
      refine ps_top (z := nI (S * 6 + x.1)) (nI_add _ _) ?_
      refine lv_aload_n hx hb d_PS_save_33 rfl (lv_at hl 1 rfl) ?_
      refine va_get (D := (dC, dI)) (ci := cPS) (v := .ref (a 1)) (C := R_PS) (T := F_PS) (N := 10) hx hb hts i_PS hown hK hP 0 rfl rfl 0 (by decide) (hts _ tw_97) (fun _ h9 => h9) rfl d_PS_save_34 ?_
      refine lv_iload_n hx hb d_PS_save_37 rfl (lv_at hl 0 rfl) ?_
      refine va_iald hx hb hK hP 1 0 rfl ht (vp_in_nI (show x.1 < 6 by omega) (by decide)) d_PS_save_38 ?_
      refine ps_top (z := nI (K x.1)) (ps_kat _ x.1 (by omega)) ?_
      have hle := ps_nl_le (n := N 0) (b := S * 6) (w := x.1) hN0 (by omega)
      have hle1 := ps_nl_le (n := N 0) (b := S * 6) (w := x.1 + 1) hN0 (by omega)
      have hle6 := ps_nl_le (n := N 0) (b := S * 6) (w := 6) hN0 (by omega)
      have hm1 := ps_nl_mono (N 0) (S * 6) (show x.1 ≤ x.1 + 1 by omega)
      have hm6 := ps_nl_mono (N 0) (S * 6) (show x.1 + 1 ≤ 6 by omega)
      have hp0 := ps_psi_le hg0 hle
      have hp1 := ps_psi_le hm1 hle1
      have hp6 := ps_psi_le hm6 hle6
      have hmm := hm (by omega)
      refine ps_afterV (wc := [(a 8, .inr (cCol, [.int (nI 90), .ref (x.2 0)])), (x.2 0, .inl (cI, ps_nl (N 0) (S * 6) x.1, .inl (ps_nt (F 0) K (S * 6) x.1)))]) (wr := [0, 1, 2, 3, 4, 5, 6, 7, 10, 11, 12, 13, 14, 15, 16, 17, 18, 19, 20, 21, 22, 23, 24, 25, 26, 27, 28, 29, 30, 31, 32, 33, 34, 35, 36, 37, 38, 39].filterMap (fun z9 => ((pw cI a x.2 K S ck cu (va_up F 0 (ps_nt (F 0) K (S * 6) x.1)) (va_up N 0 (ps_nl (N 0) (S * 6) x.1))) : va_W)[z9]?)) hP hD hS hA [8, 9] [0, 1, 2, 3, 4, 5, 6, 7, 10, 11, 12, 13, 14, 15, 16, 17, 18, 19, 20, 21, 22, 23, 24, 25, 26, 27, 28, 29, 30, 31, 32, 33, 34, 35, 36, 37, 38, 39] rfl rfl (by decide) (by decide) (ps_runVV ⟨hx, hb, hml, hown, hts⟩ (c_put l dC dI cI tys ht (a 8) (x.2 0) 90 (ps_nl (N 0) (S * 6) x.1) (ps_nt (F 0) K (S * 6) x.1) (S * 6 + x.1) (nI (K x.1)) (ps_nt_z (hw.z 0 (by decide))) (by decide) hle (by omega)) (ps_cwV ps_gd 2 hts tw_144 k_Col_put e_Col_put ⟨Nat.le_of_ble_eq_true rfl, Nat.le_of_ble_eq_true rfl⟩) hK hP hD [8, 9] (by decide) rfl 0 cCol rfl rfl rfl hl.1 rfl (Nat.le_of_ble_eq_true rfl) d_PS_save_39 ⟨by show ps_nl (N 0) (S * 6) x.1 - N 0 + (ps_nl (N 0) (S * 6) (x.1 + 1) - ps_nl (N 0) (S * 6) x.1) ≤ mc; omega, by show ps_psi 90 (ps_nl (N 0) (S * 6) x.1) - ps_psi 90 (N 0) + (ps_psi 90 (ps_nl (N 0) (S * 6) (x.1 + 1)) - ps_psi 90 (ps_nl (N 0) (S * 6) x.1)) ≤ ms; omega⟩) (fun u_3 H locs hu_3 hP hD hS => ?_)
      obtain ⟨q_5, hu_3⟩ := hu_3
      subst hu_3
      obtain ⟨hP, hD⟩ := ps_perm (ws' := (pw cI a (va_up x.2 0 q_5) K S ck cu (va_up F 0 (ps_nt (F 0) K (S * 6) (x.1 + 1))) (va_up N 0 (ps_nl (N 0) (S * 6) (x.1 + 1))))) hP hD [0, 1, 2, 3, 4, 5, 6, 7, 38, 39, 8, 9, 10, 11, 12, 13, 14, 15, 16, 17, 18, 19, 20, 21, 22, 23, 24, 25, 26, 27, 28, 29, 30, 31, 32, 33, 34, 35, 36, 37] (by decide) rfl
      refine W.widen (k := ps_nl (N 0) (S * 6) (x.1 + 1) - N 0) (n := ps_psi 90 (ps_nl (N 0) (S * 6) (x.1 + 1)) - ps_psi 90 (N 0)) (by show ps_nl (N 0) (S * 6) x.1 - N 0 + (ps_nl (N 0) (S * 6) (x.1 + 1) - ps_nl (N 0) (S * 6) x.1) ≤ ps_nl (N 0) (S * 6) (x.1 + 1) - N 0; omega) (by show ps_psi 90 (ps_nl (N 0) (S * 6) x.1) - ps_psi 90 (N 0) + (ps_psi 90 (ps_nl (N 0) (S * 6) (x.1 + 1)) - ps_psi 90 (ps_nl (N 0) (S * 6) x.1)) ≤ ps_psi 90 (ps_nl (N 0) (S * 6) (x.1 + 1)) - ps_psi 90 (N 0); omega) ?_
      refine lv_iinc (v := nI (x.1 + 1)) (lv' := [(1, .int (nI (x.1 + 1))), (0, .ref (a 0))]) hx hb d_PS_save_42 hl (k := 0) rfl (nI_1 _) (by decide) rfl (fun ls hl => ?_)
      refine lv_goto (tgt := 14) hx hb d_PS_save_45 (by decide) ?_
      exact ih (x.1 + 1, (va_up x.2 0 q_5)) _ _ ls (by show 6 - (x.1 + 1) < 6 - x.1; omega) ⟨lv_sub hl [0, 1] rfl, hP, hD, hS, by show x.1 + 1 ≤ 6; omega⟩
  · have c_1 : ¬ S < 15 := fun q => c_1 ((nI_ltI (by have h0 := hKb 0; have h1 := hKb 1; have h2 := hKb 2; have h3 := hKb 3; have h4 := hKb 4; have h5 := hKb 5; omega) (by have h0 := hKb 0; have h1 := hKb 1; have h2 := hKb 2; have h3 := hKb 3; have h4 := hKb 4; have h5 := hKb 5; omega)).mpr q)
    refine lv_bipush (v := (-3)) hx hb d_PS_save_9 (by decide) ?_
    exact ps_iret hx hb hr hlocks hK hP hD hS (Nat.zero_le _) (Nat.zero_le _) d_PS_save_11 (ps_cy (by omega) ⟨rfl, rfl⟩)
end
section
theorem tw_158 : (.methodLink "PageStore" 160 ⟨"PageStore$Keys", "write", "(IIII)V"⟩ : Cond) ∈ ps_tbl := ps_t2 78 rfl rfl
theorem tw_159 : (.methodLink "PageStore" 95 ⟨"PageStore$Values", "write", "(III)V"⟩ : Cond) ∈ ps_tbl := ps_t2 39 rfl rfl
theorem tw_160 : (.fieldLink "PageStore" 161 "PageStore$Keys" "kinds" "LPageStore$Column;" : Cond) ∈ ps_tbl := ps_t1 88 rfl rfl
theorem tw_161 : (.fieldLink "PageStore" 162 "PageStore$Keys" "numbers" "LPageStore$Column;" : Cond) ∈ ps_tbl := ps_t1 90 rfl rfl
theorem tw_162 : (.fieldLink "PageStore" 51 "PageStore" "memories" "LPageStore$Memories;" : Cond) ∈ ps_tbl := ps_t1 133 rfl rfl
theorem tw_163 : (.methodLink "PageStore" 174 ⟨"PageStore$Memories", "hold", "(IIII)Z"⟩ : Cond) ∈ ps_tbl := ps_t2 19 rfl rfl
theorem tw_164 : (.methodLink "PageStore" 163 ⟨"PageStore", "mustRemember", "(II)Z"⟩ : Cond) ∈ ps_tbl := ps_t2 11 rfl rfl
theorem tw_165 : (.constant "PageStore" 166 40000 : Cond) ∈ ps_tbl := ps_t2 24 rfl rfl
theorem tw_166 : (.methodLink "PageStore" 167 ⟨"PageStore", "valuesOf", "(I)LPageStore$Values;"⟩ : Cond) ∈ ps_tbl := ps_t2 25 rfl rfl
theorem tw_167 : (.methodLink "PageStore" 171 ⟨"PageStore$Memories", "write", "(IIILPageStore$Values;)V"⟩ : Cond) ∈ ps_tbl := ps_t2 29 rfl rfl
theorem tw_168 : (.instanceMethod ⟨"PageStore$Keys", "write", "(IIII)V"⟩ : Cond) ∈ ps_tbl := ps_t2 79 rfl rfl
theorem tw_169 : (.selects "PageStore$Keys" ⟨"PageStore$Keys", "write", "(IIII)V"⟩ ⟨"PageStore$Keys", "write", "(IIII)V"⟩ : Cond) ∈ ps_tbl := ps_t2 80 rfl rfl
theorem tw_170 : (.code ⟨"PageStore$Keys", "write", "(IIII)V"⟩ prog_3_method_2_code 5 none : Cond) ∈ ps_tbl := ps_t2 81 rfl rfl
theorem tw_171 : (.instanceMethod ⟨"PageStore$Memories", "hold", "(IIII)Z"⟩ : Cond) ∈ ps_tbl := ps_t2 20 rfl rfl
theorem tw_172 : (.selects "PageStore$Memories" ⟨"PageStore$Memories", "hold", "(IIII)Z"⟩ ⟨"PageStore$Memories", "hold", "(IIII)Z"⟩ : Cond) ∈ ps_tbl := ps_t2 21 rfl rfl
theorem tw_173 : (.initialized "PageStore$Memories" : Cond) ∈ ps_tbl := ps_t1 6 rfl rfl
theorem tw_174 : (.code ⟨"PageStore$Memories", "hold", "(IIII)Z"⟩ prog_4_method_3_code 6 (some .boolean) : Cond) ∈ ps_tbl := ps_t2 22 rfl rfl
theorem tw_175 : (.instanceMethod ⟨"PageStore", "mustRemember", "(II)Z"⟩ : Cond) ∈ ps_tbl := ps_t2 13 rfl rfl
theorem tw_176 : (.selects "PageStore" ⟨"PageStore", "mustRemember", "(II)Z"⟩ ⟨"PageStore", "mustRemember", "(II)Z"⟩ : Cond) ∈ ps_tbl := ps_ts (y := ⟨"PageStore", "mustRemember", "(II)Z"⟩) (n := 10) 5 rfl rfl
theorem tw_177 : (.code ⟨"PageStore", "mustRemember", "(II)Z"⟩ prog_1_method_35_code 4 (some .boolean) : Cond) ∈ ps_tbl := ps_t2 14 rfl rfl
theorem tw_178 : (.instanceMethod ⟨"PageStore", "valuesOf", "(I)LPageStore$Values;"⟩ : Cond) ∈ ps_tbl := ps_t2 27 rfl rfl
theorem tw_179 : (.selects "PageStore" ⟨"PageStore", "valuesOf", "(I)LPageStore$Values;"⟩ ⟨"PageStore", "valuesOf", "(I)LPageStore$Values;"⟩ : Cond) ∈ ps_tbl := ps_ts (y := ⟨"PageStore", "valuesOf", "(I)LPageStore$Values;"⟩) (n := 10) 7 rfl rfl
theorem tw_180 : (.code ⟨"PageStore", "valuesOf", "(I)LPageStore$Values;"⟩ prog_1_method_37_code 2 (some (.object "PageStore$Values")) : Cond) ∈ ps_tbl := ps_t2 28 rfl rfl
theorem tw_181 : (.instanceMethod ⟨"PageStore$Memories", "write", "(IIILPageStore$Values;)V"⟩ : Cond) ∈ ps_tbl := ps_t2 30 rfl rfl
theorem tw_182 : (.selects "PageStore$Memories" ⟨"PageStore$Memories", "write", "(IIILPageStore$Values;)V"⟩ ⟨"PageStore$Memories", "write", "(IIILPageStore$Values;)V"⟩ : Cond) ∈ ps_tbl := ps_t2 31 rfl rfl
theorem tw_183 : (.code ⟨"PageStore$Memories", "write", "(IIILPageStore$Values;)V"⟩ prog_4_method_2_code 5 none : Cond) ∈ ps_tbl := ps_t2 32 rfl rfl
theorem k_Key_write : ps_cdV ps_tbl y_Key_write prog_3_method_2_code 5 none := ⟨tw_168, tw_169, tw_54, tw_170⟩
theorem k_Mem_hold : ps_cdV ps_tbl y_Mem_hold prog_4_method_3_code 6 (some .boolean) := ⟨tw_171, tw_172, tw_173, tw_174⟩
theorem k_PS_mustRemember : ps_cdV ps_tbl y_PS_mustRemember prog_1_method_35_code 4 (some .boolean) := ⟨tw_175, tw_176, tw_108, tw_177⟩
theorem k_PS_valuesOf : ps_cdV ps_tbl y_PS_valuesOf prog_1_method_37_code 2 (some (.object "PageStore$Values")) := ⟨tw_178, tw_179, tw_108, tw_180⟩
theorem k_Mem_write : ps_cdV ps_tbl y_Mem_write prog_4_method_2_code 5 none := ⟨tw_181, tw_182, tw_173, tw_183⟩
/-- Values at the columns k, k + 1: place i becomes v, w -/
def ps_Fv (F : Nat → Nat → Int32) (k i : Nat) (v w : Int32) : Nat → Nat → Int32 := ps_u (ps_u F k i v) (k + 1) i (if v = 0 then 0 else w)
def ps_Nv (N : Nat → Nat) (k i : Nat) : Nat → Nat := ps_g (ps_g N k i) (k + 1) i
def ps_vc (lim : Nat) (N : Nat → Nat) (k i : Nat) : Nat := ps_dc lim (N k) i + ps_dc lim (N (k + 1)) i
def ps_vs (lim : Nat) (N : Nat → Nat) (k i : Nat) : Nat := ps_ds lim (N k) i + ps_ds lim (N (k + 1)) i
/-- memory m: whose, which, and what it was -/
def ps_Fm (F : Nat → Nat → Int32) (m : Nat) (o : Int32) (i : Nat) (v w : Int32) : Nat → Nat → Int32 := ps_u (ps_u (ps_u (ps_u F 12 m o) 13 m (nI i)) 14 m v) 15 m (if v = 0 then 0 else w)
def ps_Nm (N : Nat → Nat) (m : Nat) : Nat → Nat := ps_g (ps_g (ps_g (ps_g N 12 m) 13 m) 14 m) 15 m
def ps_mc (N : Nat → Nat) (m : Nat) : Nat := ps_dc 40000 (N 12) m + ps_dc 40000 (N 13) m + (ps_dc 40000 (N 14) m + ps_dc 40000 (N 15) m)
def ps_ms (N : Nat → Nat) (m : Nat) : Nat := ps_ds 40000 (N 12) m + ps_ds 40000 (N 13) m + (ps_ds 40000 (N 14) m + ps_ds 40000 (N 15) m)
/-- a key comes -/
def ps_Fk (F : Nat → Nat → Int32) (j : Nat) (d kk key v w : Int32) : Nat → Nat → Int32 := ps_Fv (ps_u (ps_u (ps_u F 7 j d) 8 j kk) 9 j key) 10 j v w
def ps_Nk (N : Nat → Nat) (j : Nat) : Nat → Nat := ps_Nv (ps_g (ps_g (ps_g N 7 j) 8 j) 9 j) 10 j
def ps_kc (N : Nat → Nat) (j : Nat) : Nat := ps_dc 16384 (N 7) j + ps_dc 16384 (N 8) j + ps_dc 16384 (N 9) j + (ps_dc 16384 (N 10) j + ps_dc 16384 (N 11) j)
def ps_ks (N : Nat → Nat) (j : Nat) : Nat := ps_ds 16384 (N 7) j + ps_ds 16384 (N 8) j + ps_ds 16384 (N 9) j + (ps_ds 16384 (N 10) j + ps_ds 16384 (N 11) j)
/-- place i of whose w must be remembered: t of them there were at the latest save, whose memories begin at b -/
def ps_must (S t b k5 : Nat) (F : Nat → Nat → Int32) (w i : Nat) : Prop := ¬ S = 0 ∧ i < t ∧ ps_not (fun j => F 13 j = nI i ∧ F 12 j = nI w) b k5
theorem ps_wf_u {F : Nat → Nat → Int32} {N : Nat → Nat} (k : Nat) {i : Nat} {x : Int32} (h : ps_wf F N) (hi : i < ps_lim k) : ps_wf (ps_u F k i x) (ps_g N k i) := fun j hj => by
  unfold ps_u ps_g
  by_cases e : j = k
  · subst e; rw [va_up_self, va_up_self]; exact ⟨ps_Z_upd (h j hj).1, ps_len_le (h j hj).2 hi⟩
  · rw [va_up_ne _ _ e, va_up_ne _ _ e]; exact h j hj
theorem ps_wf_m {F : Nat → Nat → Int32} {N : Nat → Nat} {m i : Nat} {o v w : Int32} (h : ps_wf F N) (hm : m < 40000) : ps_wf (ps_Fm F m o i v w) (ps_Nm N m) := ps_wf_u 15 (ps_wf_u 14 (ps_wf_u 13 (ps_wf_u 12 h hm) hm) hm) hm
theorem ps_wf_k {F : Nat → Nat → Int32} {N : Nat → Nat} {j : Nat} {d kk key : Int32} (h : ps_wf F N) (hj : j < 16384) : ps_wf (ps_u (ps_u (ps_u F 7 j d) 8 j kk) 9 j key) (ps_g (ps_g (ps_g N 7 j) 8 j) 9 j) := ps_wf_u 9 (ps_wf_u 8 (ps_wf_u 7 h hj) hj) hj
theorem ps_ift {M : Nat → Prop} {f1 fv : Nat → Int32} {d : Int32} {E : Nat} {r : Int32} (hE : E < 2 ^ 31) (hM : ∀ j, M j → f1 j = d) (h : ∃ z : Int32, ps_fst M 0 E z ∧ ((∃ j : Nat, z = nI j ∧ j < E ∧ f1 j = d ∧ ¬ fv j = -1 ∧ r = nI j) ∨ ((z = -1 ∨ ∃ j : Nat, z = nI j ∧ j < E ∧ fv j = -1) ∧ r = -1))) :
    (ps_not M 0 E ∧ r = -1) ∨ ∃ j, j < E ∧ M j ∧ ps_not M 0 j ∧ ((fv j = -1 ∧ r = -1) ∨ (¬ fv j = -1 ∧ r = nI j)) := by
  obtain ⟨z, h1, h2⟩ := h
  rcases h1 with ⟨j, -, hj, hm, hn, rfl⟩ | ⟨hn, rfl⟩
  · refine Or.inr ⟨j, hj, hm, hn, ?_⟩
    rcases h2 with ⟨i, e, hi, -, h4, h5⟩ | ⟨h3 | ⟨i, e, hi, h4⟩, h5⟩
    · have := (nI_eq (by omega) (by omega)).mp e
      subst this
      exact Or.inr ⟨h4, h5⟩
    · exact absurd h3 (ps_m1 (by omega))
    · have := (nI_eq (by omega) (by omega)).mp e
      subst this
      exact Or.inl ⟨h4, h5⟩
  · refine Or.inl ⟨hn, ?_⟩
    rcases h2 with ⟨i, e, hi, -⟩ | ⟨-, h5⟩
    · exact absurd e.symm (ps_m1 (by omega))
    · exact h5

set_option maxHeartbeats 4000000 in
set_option maxRecDepth 100000 in
/-- PageStore.addKey -/
theorem c_addKey (l : Launch) (dC : Nat → ClassId) (dI : Nat → Nat → Nat) (cI : ClassId) (tys : List (ClassId × FieldType)) (ht : tys[0]? = some (cI, FieldType.int)) (a q K : Nat → Nat) (S : Nat) (ck cu : Int32) (F : Nat → Nat → Int32) (N : Nat → Nat) (hw : ps_wf F N) (hKb : ∀ j, K j ≤ 65536) (hSb : S ≤ 15) (d kk key v x : Int32) (mc ms : Nat) (hm : ¬ 16384 ≤ K 4 → ps_kc N (K 4) ≤ mc ∧ ps_ks N (K 4) ≤ ms) : ps_mI classes l y_PS_addKey w_PS_addKey ({ frames := 4, cells := mc, slots := ms, locals := 87 }) (dC, dI) tys [.ref (a 0), .int d, .int kk, .int key, .int v, .int x] (pw cI a q K S ck cu F N) (fun r u => ps_c (16384 ≤ K 4) (r = -3 ∧ u = pw cI a q K S ck cu F N) (∃ q1 : Nat → Nat, r = 1 ∧ u = pw cI a q1 (va_up K 4 (K 4 + 1)) S ck cu (ps_Fk F (K 4) d kk key v x) (ps_Nk N (K 4)))) := by
  refine ps_mI_of (by decide) rfl (Nat.le_of_ble_eq_true rfl) ?_
  intro p e s m below meth c A ls C0 hA hK hP hD hS hl
  obtain ⟨hx, hb, hr, hml, hts, hown, hlocks, hin⟩ := C0
  have hl : lv_has ls 7 [(0, .ref (a 0)), (1, .int d), (2, .int kk), (3, .int key), (4, .int v), (5, .int x)] := hl
  have hP : va_P (dC, dI) classes (pw cI a q K S ck cu F N) s.heap := hP
  have hD : va_D A (pw cI a q K S ck cu F N) := hD
  refine lv_aload_n hx hb d_PS_addKey_0 rfl (lv_at hl 0 rfl) ?_
  refine va_get (D := (dC, dI)) (ci := cPS) (v := .ref (a 1)) (C := R_PS) (T := F_PS) (N := 10) hx hb hts i_PS hown hK hP 0 rfl rfl 0 (by decide) (hts _ tw_97) (fun _ h9 => h9) rfl d_PS_addKey_1 ?_
  refine lv_iconst (v := nI 4) hx hb d_PS_addKey_4 (by decide) ?_
  refine va_iald hx hb hK hP 1 0 rfl ht (vp_in_nI (show 4 < 6 by decide) (by decide)) d_PS_addKey_5 ?_
  refine ps_top (z := nI (K 4)) (ps_kat _ 4 (by decide)) ?_
  refine lv_istore (lv' := [(6, .int (nI (K 4))), (0, .ref (a 0)), (1, .int d), (2, .int kk), (3, .int key), (4, .int v), (5, .int x)]) hx hb d_PS_addKey_6 hl (by decide) rfl (fun ls hl => ?_)
  refine lv_iload hx hb d_PS_addKey_8 (lv_at hl 0 rfl) ?_
  refine lv_sipush (v := nI 16384) hx hb d_PS_addKey_10 (by decide) ?_
  refine lv_icmp_lt (tgt := 19) hx hb d_PS_addKey_13 (by decide) (fun c_1 => ?_) (fun c_1 => ?_)
  · have c_1 : K 4 < 16384 := (nI_ltI (by have h0 := hKb 0; have h1 := hKb 1; have h2 := hKb 2; have h3 := hKb 3; have h4 := hKb 4; have h5 := hKb 5; omega) (by have h0 := hKb 0; have h1 := hKb 1; have h2 := hKb 2; have h3 := hKb 3; have h4 := hKb 4; have h5 := hKb 5; omega)).mp c_1
    refine lv_aload_n hx hb d_PS_addKey_19 rfl (lv_at hl 1 rfl) ?_
    refine va_get (D := (dC, dI)) (ci := cPS) (v := .ref (a 4)) (C := R_PS) (T := F_PS) (N := 10) hx hb hts i_PS hown hK hP 0 rfl rfl 6 (by decide) (hts _ tw_104) (fun _ h9 => h9) rfl d_PS_addKey_20 ?_
    refine lv_iload hx hb d_PS_addKey_23 (lv_at hl 0 rfl) ?_
    refine lv_iload_n hx hb d_PS_addKey_25 rfl (lv_at hl 2 rfl) ?_
    refine lv_iload_n hx hb d_PS_addKey_26 rfl (lv_at hl 3 rfl) ?_
    refine lv_iload_n hx hb d_PS_addKey_27 rfl (lv_at hl 4 rfl) ?_
    have hm1 := hm (by omega)
    unfold ps_kc ps_ks at hm1
    refine ps_afterV (wc := [(a 4, .inr (cKey, [.ref (a 15), .ref (a 16), .ref (a 17), .ref (a 5)])), (a 15, .inr (cCol, [.int (nI 16384), .ref (q 7)])), (q 7, .inl (cI, N 7, .inl (F 7))), (a 16, .inr (cCol, [.int (nI 16384), .ref (q 8)])), (q 8, .inl (cI, N 8, .inl (F 8))), (a 17, .inr (cCol, [.int (nI 16384), .ref (q 9)])), (q 9, .inl (cI, N 9, .inl (F 9)))]) (wr := [0, 1, 2, 3, 5, 6, 7, 8, 9, 10, 11, 12, 13, 14, 15, 16, 17, 18, 19, 20, 21, 28, 29, 30, 31, 32, 33, 34, 35, 36, 37, 38, 39].filterMap (fun z9 => ((pw cI a q K S ck cu F N) : va_W)[z9]?)) hP hD hS hA [4, 22, 23, 24, 25, 26, 27] [0, 1, 2, 3, 5, 6, 7, 8, 9, 10, 11, 12, 13, 14, 15, 16, 17, 18, 19, 20, 21, 28, 29, 30, 31, 32, 33, 34, 35, 36, 37, 38, 39] rfl rfl (by decide) (by decide) (ps_runVV ⟨hx, hb, hml, hown, hts⟩ (c_kwrite l dC dI cI tys ht (a 4) (a 15) (q 7) (a 16) (q 8) (a 17) (q 9) 16384 (N 7) (N 8) (N 9) (F 7) (F 8) (F 9) (a 5) (K 4) d kk key (hw.z 7 (by decide)) (hw.z 8 (by decide)) (hw.z 9 (by decide)) (by decide) (hw 7 (by decide)).2 (hw 8 (by decide)).2 (hw 9 (by decide)).2 (by omega)) (ps_cwV ps_gd 4 hts tw_158 k_Key_write e_Key_write ⟨Nat.le_of_ble_eq_true rfl, Nat.le_of_ble_eq_true rfl⟩) hK hP hD [4, 22, 23, 24, 25, 26, 27] (by decide) rfl 0 cKey rfl rfl rfl hl.1 rfl (Nat.le_of_ble_eq_true rfl) d_PS_addKey_28 ⟨by show 0 + (ps_dc 16384 (N 7) (K 4) + ps_dc 16384 (N 8) (K 4) + ps_dc 16384 (N 9) (K 4)) ≤ mc; omega, by show 0 + (ps_ds 16384 (N 7) (K 4) + ps_ds 16384 (N 8) (K 4) + ps_ds 16384 (N 9) (K 4)) ≤ ms; omega⟩) (fun u_2 H locs hu_2 hP hD hS => ?_)
    obtain ⟨q_4, q_5, q_6, hu_2⟩ := hu_2
    subst hu_2
    obtain ⟨hP, hD⟩ := ps_perm (ws' := (pw cI a (va_up (va_up (va_up q 7 q_4) 8 q_5) 9 q_6) K S ck cu (va_up (va_up (va_up F 7 (upd (F 7) (K 4) d)) 8 (upd (F 8) (K 4) kk)) 9 (upd (F 9) (K 4) key)) (va_up (va_up (va_up N 7 (ps_len 16384 (N 7) (K 4))) 8 (ps_len 16384 (N 8) (K 4))) 9 (ps_len 16384 (N 9) (K 4))))) hP hD [0, 1, 2, 3, 33, 4, 5, 6, 7, 8, 9, 10, 11, 12, 13, 14, 15, 16, 17, 18, 19, 20, 34, 35, 36, 37, 38, 39, 21, 22, 23, 24, 25, 26, 27, 28, 29, 30, 31, 32] (by decide) rfl
    refine lv_aload_n hx hb d_PS_addKey_31 rfl (lv_at hl 1 rfl) ?_
    refine va_get (D := (dC, dI)) (ci := cPS) (v := .ref (a 4)) (C := R_PS) (T := F_PS) (N := 10) hx hb hts i_PS hown hK hP 0 rfl rfl 6 (by decide) (hts _ tw_104) (fun _ h9 => h9) rfl d_PS_addKey_32 ?_
    refine va_get (D := (dC, dI)) (ci := cKey) (v := .ref (a 5)) (C := R_Key) (T := F_Key) (N := 4) hx hb hts i_Key hown hK hP 4 rfl rfl 3 (by decide) (hts _ tw_105) (fun _ h9 => h9) rfl d_PS_addKey_35 ?_
    refine lv_iload hx hb d_PS_addKey_38 (lv_at hl 0 rfl) ?_
    refine lv_iload hx hb d_PS_addKey_40 (lv_at hl 5 rfl) ?_
    refine lv_iload hx hb d_PS_addKey_42 (lv_at hl 6 rfl) ?_
    refine ps_afterV (wc := [(a 5, .inr (cVal, [.ref (a 18), .ref (a 19)])), (a 18, .inr (cCol, [.int (nI 16384), .ref (q 10)])), (q 10, .inl (cI, N 10, .inl (F 10))), (a 19, .inr (cCol, [.int (nI 16384), .ref (q 11)])), (q 11, .inl (cI, N 11, .inl (F 11)))]) (wr := [0, 1, 2, 3, 4, 6, 7, 8, 9, 10, 11, 12, 13, 14, 15, 16, 17, 18, 19, 20, 21, 22, 23, 24, 25, 26, 27, 32, 33, 34, 35, 36, 37, 38, 39].filterMap (fun z9 => ((pw cI a (va_up (va_up (va_up q 7 q_4) 8 q_5) 9 q_6) K S ck cu (va_up (va_up (va_up F 7 (upd (F 7) (K 4) d)) 8 (upd (F 8) (K 4) kk)) 9 (upd (F 9) (K 4) key)) (va_up (va_up (va_up N 7 (ps_len 16384 (N 7) (K 4))) 8 (ps_len 16384 (N 8) (K 4))) 9 (ps_len 16384 (N 9) (K 4)))) : va_W)[z9]?)) hP hD hS hA [5, 28, 29, 30, 31] [0, 1, 2, 3, 4, 6, 7, 8, 9, 10, 11, 12, 13, 14, 15, 16, 17, 18, 19, 20, 21, 22, 23, 24, 25, 26, 27, 32, 33, 34, 35, 36, 37, 38, 39] rfl rfl (by decide) (by decide) (ps_runVV ⟨hx, hb, hml, hown, hts⟩ (c_vwrite l dC dI cI tys ht (a 5) (a 18) (q 10) (a 19) (q 11) 16384 (N 10) (N 11) (F 10) (F 11) (K 4) v x (hw.z 10 (by decide)) (hw.z 11 (by decide)) (by decide) (hw 10 (by decide)).2 (hw 11 (by decide)).2 (by omega)) (ps_cwV ps_gd 3 hts tw_159 k_Val_write e_Val_write ⟨Nat.le_of_ble_eq_true rfl, Nat.le_of_ble_eq_true rfl⟩) hK hP hD [5, 28, 29, 30, 31] (by decide) rfl 0 cVal rfl rfl rfl hl.1 rfl (Nat.le_of_ble_eq_true rfl) d_PS_addKey_44 ⟨by show 0 + (ps_dc 16384 (N 7) (K 4) + ps_dc 16384 (N 8) (K 4) + ps_dc 16384 (N 9) (K 4)) + (ps_dc 16384 (N 10) (K 4) + ps_dc 16384 (N 11) (K 4)) ≤ mc; omega, by show 0 + (ps_ds 16384 (N 7) (K 4) + ps_ds 16384 (N 8) (K 4) + ps_ds 16384 (N 9) (K 4)) + (ps_ds 16384 (N 10) (K 4) + ps_ds 16384 (N 11) (K 4)) ≤ ms; omega⟩) (fun u_7 H locs hu_7 hP hD hS => ?_)
    obtain ⟨q_9, q_10, hu_7⟩ := hu_7
    subst hu_7
    obtain ⟨hP, hD⟩ := ps_perm (ws' := (pw cI a (va_up (va_up (va_up (va_up (va_up q 7 q_4) 8 q_5) 9 q_6) 10 q_9) 11 q_10) K S ck cu (va_up (va_up (va_up (va_up (va_up F 7 (upd (F 7) (K 4) d)) 8 (upd (F 8) (K 4) kk)) 9 (upd (F 9) (K 4) key)) 10 (upd (F 10) (K 4) v)) 11 (upd (F 11) (K 4) (if v = 0 then 0 else x))) (va_up (va_up (va_up (va_up (va_up N 7 (ps_len 16384 (N 7) (K 4))) 8 (ps_len 16384 (N 8) (K 4))) 9 (ps_len 16384 (N 9) (K 4))) 10 (ps_len 16384 (N 10) (K 4))) 11 (ps_len 16384 (N 11) (K 4))))) hP hD [0, 1, 2, 3, 4, 35, 5, 6, 7, 8, 9, 10, 11, 12, 13, 14, 15, 16, 17, 18, 19, 20, 21, 22, 23, 24, 25, 26, 36, 37, 38, 39, 27, 28, 29, 30, 31, 32, 33, 34] (by decide) rfl
    refine lv_aload_n hx hb d_PS_addKey_47 rfl (lv_at hl 1 rfl) ?_
    refine va_get (D := (dC, dI)) (ci := cPS) (v := .ref (a 1)) (C := R_PS) (T := F_PS) (N := 10) hx hb hts i_PS hown hK hP 0 rfl rfl 0 (by decide) (hts _ tw_97) (fun _ h9 => h9) rfl d_PS_addKey_48 ?_
    refine lv_iconst (v := nI 4) hx hb d_PS_addKey_51 (by decide) ?_
    refine lv_iload hx hb d_PS_addKey_52 (lv_at hl 0 rfl) ?_
    refine lv_iconst (v := nI 1) hx hb d_PS_addKey_54 (by decide) ?_
    refine lv_iadd hx hb d_PS_addKey_55 ?_
    refine ps_top (z := nI (K 4 + 1)) (nI_add _ _) ?_
    refine va_iast hx hb hK hP hD hS 1 0 rfl ht (vp_in_nI (show 4 < 6 by decide) (by decide)) d_PS_addKey_56 (fun H locs hP hD hS => ?_)
    rw [nI_clamp (show 4 < 2 ^ 31 by decide)] at hP hD
    rw [ps_kup] at hP hD
    have hP : va_P (dC, dI) classes (pw cI a (va_up (va_up (va_up (va_up (va_up q 7 q_4) 8 q_5) 9 q_6) 10 q_9) 11 q_10) (va_up K 4 (K 4 + 1)) S ck cu (va_up (va_up (va_up (va_up (va_up F 7 (upd (F 7) (K 4) d)) 8 (upd (F 8) (K 4) kk)) 9 (upd (F 9) (K 4) key)) 10 (upd (F 10) (K 4) v)) 11 (upd (F 11) (K 4) (if v = 0 then 0 else x))) (va_up (va_up (va_up (va_up (va_up N 7 (ps_len 16384 (N 7) (K 4))) 8 (ps_len 16384 (N 8) (K 4))) 9 (ps_len 16384 (N 9) (K 4))) 10 (ps_len 16384 (N 10) (K 4))) 11 (ps_len 16384 (N 11) (K 4)))) H := hP
    have hD : va_D A (pw cI a (va_up (va_up (va_up (va_up (va_up q 7 q_4) 8 q_5) 9 q_6) 10 q_9) 11 q_10) (va_up K 4 (K 4 + 1)) S ck cu (va_up (va_up (va_up (va_up (va_up F 7 (upd (F 7) (K 4) d)) 8 (upd (F 8) (K 4) kk)) 9 (upd (F 9) (K 4) key)) 10 (upd (F 10) (K 4) v)) 11 (upd (F 11) (K 4) (if v = 0 then 0 else x))) (va_up (va_up (va_up (va_up (va_up N 7 (ps_len 16384 (N 7) (K 4))) 8 (ps_len 16384 (N 8) (K 4))) 9 (ps_len 16384 (N 9) (K 4))) 10 (ps_len 16384 (N 10) (K 4))) 11 (ps_len 16384 (N 11) (K 4)))) := hD
    refine lv_iconst (v := 1) hx hb d_PS_addKey_57 (by decide) ?_
    exact ps_iret hx hb hr hlocks hK hP hD hS (by show 0 + (ps_dc 16384 (N 7) (K 4) + ps_dc 16384 (N 8) (K 4) + ps_dc 16384 (N 9) (K 4)) + (ps_dc 16384 (N 10) (K 4) + ps_dc 16384 (N 11) (K 4)) ≤ mc; omega) (by show 0 + (ps_ds 16384 (N 7) (K 4) + ps_ds 16384 (N 8) (K 4) + ps_ds 16384 (N 9) (K 4)) + (ps_ds 16384 (N 10) (K 4) + ps_ds 16384 (N 11) (K 4)) ≤ ms; omega) d_PS_addKey_58 (ps_cn (by omega) ⟨(va_up (va_up (va_up (va_up (va_up q 7 q_4) 8 q_5) 9 q_6) 10 q_9) 11 q_10), rfl, rfl⟩)
  · have c_1 : ¬ K 4 < 16384 := fun q => c_1 ((nI_ltI (by have h0 := hKb 0; have h1 := hKb 1; have h2 := hKb 2; have h3 := hKb 3; have h4 := hKb 4; have h5 := hKb 5; omega) (by have h0 := hKb 0; have h1 := hKb 1; have h2 := hKb 2; have h3 := hKb 3; have h4 := hKb 4; have h5 := hKb 5; omega)).mpr q)
    refine lv_bipush (v := (-3)) hx hb d_PS_addKey_16 (by decide) ?_
    exact ps_iret hx hb hr hlocks hK hP hD hS (Nat.zero_le _) (Nat.zero_le _) d_PS_addKey_18 (ps_cy (by omega) ⟨rfl, rfl⟩)

set_option maxHeartbeats 4000000 in
set_option maxRecDepth 100000 in
/-- PageStore.moveCursor -/
theorem c_mvcN (l : Launch) (dC : Nat → ClassId) (dI : Nat → Nat → Nat) (cI : ClassId) (tys : List (ClassId × FieldType)) (ht : tys[0]? = some (cI, FieldType.int)) (a q K : Nat → Nat) (S : Nat) (ck cu : Int32) (F : Nat → Nat → Int32) (N : Nat → Nat) (hw : ps_wf F N) (hKb : ∀ j, K j ≤ 65536) (hSb : S ≤ 15) : ps_mI classes l y_PS_moveCursor w_PS_moveCursor ({ frames := 0, cells := 0, slots := 0, locals := 0 }) (dC, dI) tys [.ref (a 0), .int (-1)] (pw cI a q K S ck cu F N) (fun r u => r = 0 ∧ u = pw cI a q K S 0 0 F N) := by
  refine ps_mI_of (by decide) rfl (Nat.le_of_ble_eq_true rfl) ?_
  intro p e s m below meth c A ls C0 hA hK hP hD hS hl
  obtain ⟨hx, hb, hr, hml, hts, hown, hlocks, hin⟩ := C0
  have hl : lv_has ls 2 [(0, .ref (a 0)), (1, .int (-1))] := hl
  have hP : va_P (dC, dI) classes (pw cI a q K S ck cu F N) s.heap := hP
  have hD : va_D A (pw cI a q K S ck cu F N) := hD
  refine lv_iload_n hx hb d_PS_moveCursor_0 rfl (lv_at hl 1 rfl) ?_
  refine lv_iconst (v := (-1)) hx hb d_PS_moveCursor_1 (by decide) ?_
  refine lv_icmp_ne (tgt := 17) hx hb d_PS_moveCursor_2 (by decide) (fun c_1 => ?_) (fun c_1 => ?_)
  · exact absurd rfl c_1
  · refine lv_aload_n hx hb d_PS_moveCursor_5 rfl (lv_at hl 0 rfl) ?_
    refine lv_iconst (v := 0) hx hb d_PS_moveCursor_6 (by decide) ?_
    refine va_put (D := (dC, dI)) (ci := cPS) (v := .int 0) (ty := .int) (C := R_PS) (T := F_PS) (N := 10) hx hb hts i_PS t_PS t_PS_ok n_PS hown hK hP hD hS 0 rfl rfl 8 (by decide) (hts _ tw_145) (fun _ h9 => h9) rfl (by decide +kernel) rfl rfl (Nat.le_of_ble_eq_true rfl) d_PS_moveCursor_7 (fun H locs hP hD hS => ?_)
    have hP : va_P (dC, dI) classes (pw cI a q K S 0 cu F N) H := hP
    have hD : va_D A (pw cI a q K S 0 cu F N) := hD
    refine lv_aload_n hx hb d_PS_moveCursor_10 rfl (lv_at hl 0 rfl) ?_
    refine lv_iconst (v := 0) hx hb d_PS_moveCursor_11 (by decide) ?_
    refine va_put (D := (dC, dI)) (ci := cPS) (v := .int 0) (ty := .int) (C := R_PS) (T := F_PS) (N := 10) hx hb hts i_PS t_PS t_PS_ok n_PS hown hK hP hD hS 0 rfl rfl 9 (by decide) (hts _ tw_146) (fun _ h9 => h9) rfl (by decide +kernel) rfl rfl (Nat.le_of_ble_eq_true rfl) d_PS_moveCursor_12 (fun H locs hP hD hS => ?_)
    have hP : va_P (dC, dI) classes (pw cI a q K S 0 0 F N) H := hP
    have hD : va_D A (pw cI a q K S 0 0 F N) := hD
    refine lv_iconst (v := 0) hx hb d_PS_moveCursor_15 (by decide) ?_
    exact ps_iret hx hb hr hlocks hK hP hD hS (Nat.le_of_ble_eq_true rfl) (Nat.le_of_ble_eq_true rfl) d_PS_moveCursor_16 (⟨rfl, rfl⟩)

set_option maxHeartbeats 4000000 in
set_option maxRecDepth 100000 in
/-- PageStore.moveCursor -/
theorem c_mvcS (l : Launch) (dC : Nat → ClassId) (dI : Nat → Nat → Nat) (cI : ClassId) (tys : List (ClassId × FieldType)) (ht : tys[0]? = some (cI, FieldType.int)) (a q K : Nat → Nat) (S : Nat) (ck cu : Int32) (F : Nat → Nat → Int32) (N : Nat → Nat) (hw : ps_wf F N) (hKb : ∀ j, K j ≤ 65536) (hSb : S ≤ 15) (i : Nat) (hi : i < 2 ^ 31) : ps_mI classes l y_PS_moveCursor w_PS_moveCursor ({ frames := 1, cells := 0, slots := 0, locals := 21 }) (dC, dI) tys [.ref (a 0), .int (nI i)] (pw cI a q K S ck cu F N) (fun r u => r = 1 ∧ u = pw cI a q K S (F 8 i) (F 9 i) F N) := by
  refine ps_mI_of (by decide) rfl (Nat.le_of_ble_eq_true rfl) ?_
  intro p e s m below meth c A ls C0 hA hK hP hD hS hl
  obtain ⟨hx, hb, hr, hml, hts, hown, hlocks, hin⟩ := C0
  have hl : lv_has ls 2 [(0, .ref (a 0)), (1, .int (nI i))] := hl
  have hP : va_P (dC, dI) classes (pw cI a q K S ck cu F N) s.heap := hP
  have hD : va_D A (pw cI a q K S ck cu F N) := hD
  refine lv_iload_n hx hb d_PS_moveCursor_0 rfl (lv_at hl 1 rfl) ?_
  refine lv_iconst (v := (-1)) hx hb d_PS_moveCursor_1 (by decide) ?_
  refine lv_icmp_ne (tgt := 17) hx hb d_PS_moveCursor_2 (by decide) (fun c_1 => ?_) (fun c_1 => ?_)
  · refine lv_aload_n hx hb d_PS_moveCursor_17 rfl (lv_at hl 0 rfl) ?_
    refine lv_aload_n hx hb d_PS_moveCursor_18 rfl (lv_at hl 0 rfl) ?_
    refine va_get (D := (dC, dI)) (ci := cPS) (v := .ref (a 4)) (C := R_PS) (T := F_PS) (N := 10) hx hb hts i_PS hown hK hP 0 rfl rfl 6 (by decide) (hts _ tw_104) (fun _ h9 => h9) rfl d_PS_moveCursor_19 ?_
    refine va_get (D := (dC, dI)) (ci := cKey) (v := .ref (a 16)) (C := R_Key) (T := F_Key) (N := 4) hx hb hts i_Key hown hK hP 4 rfl rfl 1 (by decide) (hts _ tw_160) (fun _ h9 => h9) rfl d_PS_moveCursor_22 ?_
    refine lv_iload_n hx hb d_PS_moveCursor_25 rfl (lv_at hl 1 rfl) ?_
    refine ps_readI (wc := [(a 16, .inr (cCol, [.int (nI 16384), .ref (q 8)])), (q 8, .inl (cI, N 8, .inl (F 8)))]) hP hD hS hA [24, 25] rfl (fun _ _ h => h.1) (ps_runVI ⟨hx, hb, hml, hown, hts⟩ (c_at l dC dI cI tys ht (a 16) (q 8) 16384 (N 8) (F 8) i (hw.z 8 (by decide)) (hw.n 8 (by decide)) hi) (ps_cwV ps_gd 1 hts tw_102 k_Col_at e_Col_at ⟨Nat.le_of_ble_eq_true rfl, Nat.le_of_ble_eq_true rfl⟩) hK hP hD [24, 25] (by decide) rfl 0 cCol rfl rfl rfl hl.1 rfl (Nat.le_of_ble_eq_true rfl) d_PS_moveCursor_26 ⟨Nat.zero_le _, Nat.zero_le _⟩) (fun r_2 H locs hr_2 hP hS => ?_)
    obtain ⟨-, hr_2⟩ := hr_2
    subst hr_2
    refine va_put (D := (dC, dI)) (ci := cPS) (v := .int ((F 8) i)) (ty := .int) (C := R_PS) (T := F_PS) (N := 10) hx hb hts i_PS t_PS t_PS_ok n_PS hown hK hP hD hS 0 rfl rfl 8 (by decide) (hts _ tw_145) (fun _ h9 => h9) rfl (by decide +kernel) rfl rfl (Nat.le_of_ble_eq_true rfl) d_PS_moveCursor_29 (fun H locs hP hD hS => ?_)
    have hP : va_P (dC, dI) classes (pw cI a q K S ((F 8) i) cu F N) H := hP
    have hD : va_D A (pw cI a q K S ((F 8) i) cu F N) := hD
    refine lv_aload_n hx hb d_PS_moveCursor_32 rfl (lv_at hl 0 rfl) ?_
    refine lv_aload_n hx hb d_PS_moveCursor_33 rfl (lv_at hl 0 rfl) ?_
    refine va_get (D := (dC, dI)) (ci := cPS) (v := .ref (a 4)) (C := R_PS) (T := F_PS) (N := 10) hx hb hts i_PS hown hK hP 0 rfl rfl 6 (by decide) (hts _ tw_104) (fun _ h9 => h9) rfl d_PS_moveCursor_34 ?_
    refine va_get (D := (dC, dI)) (ci := cKey) (v := .ref (a 17)) (C := R_Key) (T := F_Key) (N := 4) hx hb hts i_Key hown hK hP 4 rfl rfl 2 (by decide) (hts _ tw_161) (fun _ h9 => h9) rfl d_PS_moveCursor_37 ?_
    refine lv_iload_n hx hb d_PS_moveCursor_40 rfl (lv_at hl 1 rfl) ?_
    refine ps_readI (wc := [(a 17, .inr (cCol, [.int (nI 16384), .ref (q 9)])), (q 9, .inl (cI, N 9, .inl (F 9)))]) hP hD hS hA [26, 27] rfl (fun _ _ h => h.1) (ps_runVI ⟨hx, hb, hml, hown, hts⟩ (c_at l dC dI cI tys ht (a 17) (q 9) 16384 (N 9) (F 9) i (hw.z 9 (by decide)) (hw.n 9 (by decide)) hi) (ps_cwV ps_gd 1 hts tw_102 k_Col_at e_Col_at ⟨Nat.le_of_ble_eq_true rfl, Nat.le_of_ble_eq_true rfl⟩) hK hP hD [26, 27] (by decide) rfl 0 cCol rfl rfl rfl hl.1 rfl (Nat.le_of_ble_eq_true rfl) d_PS_moveCursor_41 ⟨Nat.zero_le _, Nat.zero_le _⟩) (fun r_3 H locs hr_3 hP hS => ?_)
    obtain ⟨-, hr_3⟩ := hr_3
    subst hr_3
    refine va_put (D := (dC, dI)) (ci := cPS) (v := .int ((F 9) i)) (ty := .int) (C := R_PS) (T := F_PS) (N := 10) hx hb hts i_PS t_PS t_PS_ok n_PS hown hK hP hD hS 0 rfl rfl 9 (by decide) (hts _ tw_146) (fun _ h9 => h9) rfl (by decide +kernel) rfl rfl (Nat.le_of_ble_eq_true rfl) d_PS_moveCursor_44 (fun H locs hP hD hS => ?_)
    have hP : va_P (dC, dI) classes (pw cI a q K S ((F 8) i) ((F 9) i) F N) H := hP
    have hD : va_D A (pw cI a q K S ((F 8) i) ((F 9) i) F N) := hD
    refine lv_iconst (v := 1) hx hb d_PS_moveCursor_47 (by decide) ?_
    exact ps_iret hx hb hr hlocks hK hP hD hS (Nat.le_of_ble_eq_true rfl) (Nat.le_of_ble_eq_true rfl) d_PS_moveCursor_48 (⟨rfl, rfl⟩)
  · exact absurd c_1 (ps_m1 hi)

set_option maxHeartbeats 4000000 in
set_option maxRecDepth 100000 in
/-- PageStore.mustRemember -/
theorem c_must (l : Launch) (dC : Nat → ClassId) (dI : Nat → Nat → Nat) (cI : ClassId) (tys : List (ClassId × FieldType)) (ht : tys[0]? = some (cI, FieldType.int)) (a q K : Nat → Nat) (S : Nat) (ck cu : Int32) (F : Nat → Nat → Int32) (N : Nat → Nat) (hw : ps_wf F N) (hKb : ∀ j, K j ≤ 65536) (hSb : S ≤ 15) (w i : Nat) (t b : Nat) (ht0 : t ≤ 65536) (hb0 : b ≤ 65536) (hw6 : w < 6) (hi : i < 2 ^ 31) (htw : ¬ S = 0 → F 0 ((S - 1) * 6 + w) = nI t) (htb : ¬ S = 0 → F 0 ((S - 1) * 6 + 5) = nI b) : ps_mI classes l y_PS_mustRemember w_PS_mustRemember ({ frames := 2, cells := 0, slots := 0, locals := 46 }) (dC, dI) tys [.ref (a 0), .int (nI w), .int (nI i)] (pw cI a q K S ck cu F N) (fun r u => u = pw cI a q K S ck cu F N ∧ ps_c (ps_must S t b (K 5) F w i) (r = 1) (r = 0)) := by
  refine ps_mI_of (by decide) rfl (Nat.le_of_ble_eq_true rfl) ?_
  intro p e s m below meth c A ls C0 hA hK hP hD hS hl
  obtain ⟨hx, hb, hr, hml, hts, hown, hlocks, hin⟩ := C0
  have hl : lv_has ls 4 [(0, .ref (a 0)), (1, .int (nI w)), (2, .int (nI i))] := hl
  have hP : va_P (dC, dI) classes (pw cI a q K S ck cu F N) s.heap := hP
  have hD : va_D A (pw cI a q K S ck cu F N) := hD
  refine lv_aload_n hx hb d_PS_mustRemember_0 rfl (lv_at hl 0 rfl) ?_
  refine va_get (D := (dC, dI)) (ci := cPS) (v := .int (nI S)) (C := R_PS) (T := F_PS) (N := 10) hx hb hts i_PS hown hK hP 0 rfl rfl 2 (by decide) (hts _ tw_98) (fun _ h9 => h9) rfl d_PS_mustRemember_1 ?_
  refine lv_if_eq (tgt := 20) hx hb d_PS_mustRemember_4 (by decide) (fun c_1 => ?_) (fun c_1 => ?_)
  · have c_1 : S = 0 := (nI_eq (by have h0 := hKb 0; have h1 := hKb 1; have h2 := hKb 2; have h3 := hKb 3; have h4 := hKb 4; have h5 := hKb 5; omega) (by decide)).mp (c_1.trans nI_0.symm)
    refine lv_iconst (v := 0) hx hb d_PS_mustRemember_20 (by decide) ?_
    exact ps_zret hx hb hr hlocks hK hP hD hS rfl (Nat.le_of_ble_eq_true rfl) (Nat.le_of_ble_eq_true rfl) d_PS_mustRemember_21 (⟨rfl, ps_cn (fun q => q.1 c_1) rfl⟩)
  · have c_1 : ¬ S = 0 := fun q => c_1 (by rw [q]; exact nI_0)
    refine lv_iload_n hx hb d_PS_mustRemember_7 rfl (lv_at hl 2 rfl) ?_
    refine lv_aload_n hx hb d_PS_mustRemember_8 rfl (lv_at hl 0 rfl) ?_
    refine lv_aload_n hx hb d_PS_mustRemember_9 rfl (lv_at hl 0 rfl) ?_
    refine va_get (D := (dC, dI)) (ci := cPS) (v := .int (nI S)) (C := R_PS) (T := F_PS) (N := 10) hx hb hts i_PS hown hK hP 0 rfl rfl 2 (by decide) (hts _ tw_98) (fun _ h9 => h9) rfl d_PS_mustRemember_10 ?_
    refine lv_iload_n hx hb d_PS_mustRemember_13 rfl (lv_at hl 1 rfl) ?_
    refine ps_readI (wc := (pw cI a q K S ck cu F N)) hP hD hS hA [0, 1, 2, 3, 4, 5, 6, 7, 8, 9, 10, 11, 12, 13, 14, 15, 16, 17, 18, 19, 20, 21, 22, 23, 24, 25, 26, 27, 28, 29, 30, 31, 32, 33, 34, 35, 36, 37, 38, 39] rfl (fun _ _ h => h.1) (ps_runVI ⟨hx, hb, hml, hown, hts⟩ (c_cas l dC dI cI tys ht a q K S ck cu F N hw hKb hSb S w (by omega) hSb (by omega)) (ps_cwV ps_gd 2 hts tw_148 k_PS_countAtSave e_PS_countAtSave ⟨Nat.le_of_ble_eq_true rfl, Nat.le_of_ble_eq_true rfl⟩) hK hP hD [0, 1, 2, 3, 4, 5, 6, 7, 8, 9, 10, 11, 12, 13, 14, 15, 16, 17, 18, 19, 20, 21, 22, 23, 24, 25, 26, 27, 28, 29, 30, 31, 32, 33, 34, 35, 36, 37, 38, 39] (by decide) rfl 0 cPS rfl rfl rfl hl.1 rfl (Nat.le_of_ble_eq_true rfl) d_PS_mustRemember_14 ⟨Nat.zero_le _, Nat.zero_le _⟩) (fun r_2 H locs hr_2 hP hS => ?_)
    obtain ⟨-, hr_2⟩ := hr_2
    subst hr_2
    refine ps_top (z := nI t) (htw c_1) ?_
    refine lv_icmp_lt (tgt := 22) hx hb d_PS_mustRemember_17 (by decide) (fun c_3 => ?_) (fun c_3 => ?_)
    · have c_3 : i < t := (nI_ltI (by have h0 := hKb 0; have h1 := hKb 1; have h2 := hKb 2; have h3 := hKb 3; have h4 := hKb 4; have h5 := hKb 5; omega) (by have h0 := hKb 0; have h1 := hKb 1; have h2 := hKb 2; have h3 := hKb 3; have h4 := hKb 4; have h5 := hKb 5; omega)).mp c_3
      refine lv_aload_n hx hb d_PS_mustRemember_22 rfl (lv_at hl 0 rfl) ?_
      refine lv_aload_n hx hb d_PS_mustRemember_23 rfl (lv_at hl 0 rfl) ?_
      refine va_get (D := (dC, dI)) (ci := cPS) (v := .int (nI S)) (C := R_PS) (T := F_PS) (N := 10) hx hb hts i_PS hown hK hP 0 rfl rfl 2 (by decide) (hts _ tw_98) (fun _ h9 => h9) rfl d_PS_mustRemember_24 ?_
      refine lv_iconst (v := nI 5) hx hb d_PS_mustRemember_27 (by decide) ?_
      refine ps_readI (wc := (pw cI a q K S ck cu F N)) hP hD hS hA [0, 1, 2, 3, 4, 5, 6, 7, 8, 9, 10, 11, 12, 13, 14, 15, 16, 17, 18, 19, 20, 21, 22, 23, 24, 25, 26, 27, 28, 29, 30, 31, 32, 33, 34, 35, 36, 37, 38, 39] rfl (fun _ _ h => h.1) (ps_runVI ⟨hx, hb, hml, hown, hts⟩ (c_cas l dC dI cI tys ht a q K S ck cu F N hw hKb hSb S 5 (by omega) hSb (by omega)) (ps_cwV ps_gd 2 hts tw_148 k_PS_countAtSave e_PS_countAtSave ⟨Nat.le_of_ble_eq_true rfl, Nat.le_of_ble_eq_true rfl⟩) hK hP hD [0, 1, 2, 3, 4, 5, 6, 7, 8, 9, 10, 11, 12, 13, 14, 15, 16, 17, 18, 19, 20, 21, 22, 23, 24, 25, 26, 27, 28, 29, 30, 31, 32, 33, 34, 35, 36, 37, 38, 39] (by decide) rfl 0 cPS rfl rfl rfl hl.1 rfl (Nat.le_of_ble_eq_true rfl) d_PS_mustRemember_28 ⟨Nat.zero_le _, Nat.zero_le _⟩) (fun r_4 H locs hr_4 hP hS => ?_)
      obtain ⟨-, hr_4⟩ := hr_4
      subst hr_4
      refine ps_top (z := nI b) (htb c_1) ?_
      refine lv_istore_n (lv' := [(3, .int (nI b)), (0, .ref (a 0)), (1, .int (nI w)), (2, .int (nI i))]) hx hb d_PS_mustRemember_31 rfl hl (by decide) rfl (fun ls hl => ?_)
      refine lv_aload_n hx hb d_PS_mustRemember_32 rfl (lv_at hl 1 rfl) ?_
      refine va_get (D := (dC, dI)) (ci := cPS) (v := .ref (a 6)) (C := R_PS) (T := F_PS) (N := 10) hx hb hts i_PS hown hK hP 0 rfl rfl 7 (by decide) (hts _ tw_162) (fun _ h9 => h9) rfl d_PS_mustRemember_33 ?_
      refine lv_iload_n hx hb d_PS_mustRemember_36 rfl (lv_at hl 2 rfl) ?_
      refine lv_iload_n hx hb d_PS_mustRemember_37 rfl (lv_at hl 3 rfl) ?_
      refine lv_iload_n hx hb d_PS_mustRemember_38 rfl (lv_at hl 0 rfl) ?_
      refine lv_aload_n hx hb d_PS_mustRemember_39 rfl (lv_at hl 1 rfl) ?_
      refine va_get (D := (dC, dI)) (ci := cPS) (v := .ref (a 1)) (C := R_PS) (T := F_PS) (N := 10) hx hb hts i_PS hown hK hP 0 rfl rfl 0 (by decide) (hts _ tw_97) (fun _ h9 => h9) rfl d_PS_mustRemember_40 ?_
      refine lv_iconst (v := nI 5) hx hb d_PS_mustRemember_43 (by decide) ?_
      refine va_iald hx hb hK hP 1 0 rfl ht (vp_in_nI (show 5 < 6 by decide) (by decide)) d_PS_mustRemember_44 ?_
      refine ps_top (z := nI (K 5)) (ps_kat _ 5 (by decide)) ?_
      refine ps_readI (wc := [(a 6, .inr (cMem, [.ref (a 20), .ref (a 21), .ref (a 7)])), (a 20, .inr (cCol, [.int (nI 40000), .ref (q 12)])), (q 12, .inl (cI, N 12, .inl (F 12))), (a 21, .inr (cCol, [.int (nI 40000), .ref (q 13)])), (q 13, .inl (cI, N 13, .inl (F 13)))]) hP hD hS hA [6, 32, 33, 34, 35] rfl (fun _ _ h => h.1) (ps_runVI ⟨hx, hb, hml, hown, hts⟩ (c_mhold l dC dI cI tys ht (a 6) (a 7) (a 20) (q 12) (a 21) (q 13) 40000 (N 12) (N 13) (F 12) (F 13) (nI w) (nI i) b (K 5) (hw.z 12 (by decide)) (hw.z 13 (by decide)) (hw.n 12 (by decide)) (hw.n 13 (by decide)) (by have b5 := hKb 5; omega) (by omega)) (ps_cwV ps_gd 4 hts tw_163 k_Mem_hold e_Mem_hold ⟨Nat.le_of_ble_eq_true rfl, Nat.le_of_ble_eq_true rfl⟩) hK hP hD [6, 32, 33, 34, 35] (by decide) rfl 0 cMem rfl rfl rfl hl.1 rfl (Nat.le_of_ble_eq_true rfl) d_PS_mustRemember_45 ⟨Nat.zero_le _, Nat.zero_le _⟩) (fun r_5 H locs hr_5 hP hS => ?_)
      obtain ⟨-, hr_5⟩ := hr_5
      rcases hr_5 with ⟨rfl, hno⟩ | ⟨rfl, j, hj1, hj2, hj3⟩
      · refine lv_if_ne (tgt := 55) hx hb d_PS_mustRemember_48 (by decide) (fun c_6 => ?_) (fun c_6 => ?_)
        · exact absurd rfl c_6
        · refine lv_iconst (v := 1) hx hb d_PS_mustRemember_51 (by decide) ?_
          refine lv_goto (tgt := 56) hx hb d_PS_mustRemember_52 (by decide) ?_
          exact ps_zret hx hb hr hlocks hK hP hD hS rfl (Nat.le_of_ble_eq_true rfl) (Nat.le_of_ble_eq_true rfl) d_PS_mustRemember_56 (⟨rfl, ps_cy ⟨c_1, c_3, hno⟩ rfl⟩)
      · refine lv_if_ne (tgt := 55) hx hb d_PS_mustRemember_48 (by decide) (fun c_7 => ?_) (fun c_7 => ?_)
        · refine lv_iconst (v := 0) hx hb d_PS_mustRemember_55 (by decide) ?_
          exact ps_zret hx hb hr hlocks hK hP hD hS rfl (Nat.le_of_ble_eq_true rfl) (Nat.le_of_ble_eq_true rfl) d_PS_mustRemember_56 (⟨rfl, ps_cn (fun q => q.2.2 j hj1 hj2 hj3) rfl⟩)
        · exact absurd c_7 (by decide)
    · have c_3 : ¬ i < t := fun q => c_3 ((nI_ltI (by have h0 := hKb 0; have h1 := hKb 1; have h2 := hKb 2; have h3 := hKb 3; have h4 := hKb 4; have h5 := hKb 5; omega) (by have h0 := hKb 0; have h1 := hKb 1; have h2 := hKb 2; have h3 := hKb 3; have h4 := hKb 4; have h5 := hKb 5; omega)).mpr q)
      refine lv_iconst (v := 0) hx hb d_PS_mustRemember_20 (by decide) ?_
      exact ps_zret hx hb hr hlocks hK hP hD hS rfl (Nat.le_of_ble_eq_true rfl) (Nat.le_of_ble_eq_true rfl) d_PS_mustRemember_21 (⟨rfl, ps_cn (fun q => c_3 q.2.1) rfl⟩)

set_option maxHeartbeats 4000000 in
set_option maxRecDepth 100000 in
/-- PageStore.remember -/
theorem c_rem1 (l : Launch) (dC : Nat → ClassId) (dI : Nat → Nat → Nat) (cI : ClassId) (tys : List (ClassId × FieldType)) (ht : tys[0]? = some (cI, FieldType.int)) (a q K : Nat → Nat) (S : Nat) (ck cu : Int32) (F : Nat → Nat → Int32) (N : Nat → Nat) (hw : ps_wf F N) (hKb : ∀ j, K j ≤ 65536) (hSb : S ≤ 15) (i : Nat) (t b : Nat) (ht0 : t ≤ 65536) (hb0 : b ≤ 65536) (hi : i < 2 ^ 31) (htw : ¬ S = 0 → F 0 ((S - 1) * 6 + 1) = nI t) (htb : ¬ S = 0 → F 0 ((S - 1) * 6 + 5) = nI b) (mc ms : Nat) (hm : ps_must S t b (K 5) F 1 i → ¬ 40000 ≤ K 5 → ps_mc N (K 5) ≤ mc ∧ ps_ms N (K 5) ≤ ms) : ps_mI classes l y_PS_remember w_PS_remember ({ frames := 5, cells := mc, slots := ms, locals := 110 }) (dC, dI) tys [.ref (a 0), .int (nI 1), .int (nI i)] (pw cI a q K S ck cu F N) (fun r u => ps_c (ps_must S t b (K 5) F 1 i) (ps_c (40000 ≤ K 5) (r = 0 ∧ u = pw cI a q K S ck cu F N) (∃ q1 : Nat → Nat, r = 1 ∧ u = pw cI a q1 (va_up K 5 (K 5 + 1)) S ck cu (ps_Fm F (K 5) (nI 1) i (F 2 i) (F 3 i)) (ps_Nm N (K 5)))) (r = 1 ∧ u = pw cI a q K S ck cu F N)) := by
  refine ps_mI_of (by decide) rfl (Nat.le_of_ble_eq_true rfl) ?_
  intro p e s m below meth c A ls C0 hA hK hP hD hS hl
  obtain ⟨hx, hb, hr, hml, hts, hown, hlocks, hin⟩ := C0
  have hl : lv_has ls 4 [(0, .ref (a 0)), (1, .int (nI 1)), (2, .int (nI i))] := hl
  have hP : va_P (dC, dI) classes (pw cI a q K S ck cu F N) s.heap := hP
  have hD : va_D A (pw cI a q K S ck cu F N) := hD
  refine lv_aload_n hx hb d_PS_remember_0 rfl (lv_at hl 0 rfl) ?_
  refine lv_iload_n hx hb d_PS_remember_1 rfl (lv_at hl 1 rfl) ?_
  refine lv_iload_n hx hb d_PS_remember_2 rfl (lv_at hl 2 rfl) ?_
  refine ps_readI (wc := (pw cI a q K S ck cu F N)) hP hD hS hA [0, 1, 2, 3, 4, 5, 6, 7, 8, 9, 10, 11, 12, 13, 14, 15, 16, 17, 18, 19, 20, 21, 22, 23, 24, 25, 26, 27, 28, 29, 30, 31, 32, 33, 34, 35, 36, 37, 38, 39] rfl (fun _ _ h => h.1) (ps_runVI ⟨hx, hb, hml, hown, hts⟩ (c_must l dC dI cI tys ht a q K S ck cu F N hw hKb hSb 1 i t b ht0 hb0 (by decide) hi htw htb) (ps_cwV ps_gd 2 hts tw_164 k_PS_mustRemember e_PS_mustRemember ⟨Nat.le_of_ble_eq_true rfl, Nat.le_of_ble_eq_true rfl⟩) hK hP hD [0, 1, 2, 3, 4, 5, 6, 7, 8, 9, 10, 11, 12, 13, 14, 15, 16, 17, 18, 19, 20, 21, 22, 23, 24, 25, 26, 27, 28, 29, 30, 31, 32, 33, 34, 35, 36, 37, 38, 39] (by decide) rfl 0 cPS rfl rfl rfl hl.1 rfl (Nat.le_of_ble_eq_true rfl) d_PS_remember_3 ⟨Nat.zero_le _, Nat.zero_le _⟩) (fun r_1 H locs hr_1 hP hS => ?_)
  obtain ⟨-, hr_1⟩ := hr_1
  rcases hr_1 with ⟨hcr_1, hr_1⟩ | ⟨hcr_1, hr_1⟩
  · subst hr_1
    refine lv_if_ne (tgt := 11) hx hb d_PS_remember_6 (by decide) (fun c_2 => ?_) (fun c_2 => ?_)
    · refine lv_aload_n hx hb d_PS_remember_11 rfl (lv_at hl 0 rfl) ?_
      refine va_get (D := (dC, dI)) (ci := cPS) (v := .ref (a 1)) (C := R_PS) (T := F_PS) (N := 10) hx hb hts i_PS hown hK hP 0 rfl rfl 0 (by decide) (hts _ tw_97) (fun _ h9 => h9) rfl d_PS_remember_12 ?_
      refine lv_iconst (v := nI 5) hx hb d_PS_remember_15 (by decide) ?_
      refine va_iald hx hb hK hP 1 0 rfl ht (vp_in_nI (show 5 < 6 by decide) (by decide)) d_PS_remember_16 ?_
      refine ps_top (z := nI (K 5)) (ps_kat _ 5 (by decide)) ?_
      refine lv_istore_n (lv' := [(3, .int (nI (K 5))), (0, .ref (a 0)), (1, .int (nI 1)), (2, .int (nI i))]) hx hb d_PS_remember_17 rfl hl (by decide) rfl (fun ls hl => ?_)
      refine lv_iload_n hx hb d_PS_remember_18 rfl (lv_at hl 0 rfl) ?_
      refine lv_ldc (v := 40000) hx hb hown (hts _ tw_165) d_PS_remember_19 ?_
      refine ps_top (z := nI 40000) (by decide) ?_
      refine lv_icmp_lt (tgt := 26) hx hb d_PS_remember_21 (by decide) (fun c_3 => ?_) (fun c_3 => ?_)
      · have c_3 : K 5 < 40000 := (nI_ltI (by have h0 := hKb 0; have h1 := hKb 1; have h2 := hKb 2; have h3 := hKb 3; have h4 := hKb 4; have h5 := hKb 5; omega) (by have h0 := hKb 0; have h1 := hKb 1; have h2 := hKb 2; have h3 := hKb 3; have h4 := hKb 4; have h5 := hKb 5; omega)).mp c_3
        refine lv_aload_n hx hb d_PS_remember_26 rfl (lv_at hl 1 rfl) ?_
        refine va_get (D := (dC, dI)) (ci := cPS) (v := .ref (a 6)) (C := R_PS) (T := F_PS) (N := 10) hx hb hts i_PS hown hK hP 0 rfl rfl 7 (by decide) (hts _ tw_162) (fun _ h9 => h9) rfl d_PS_remember_27 ?_
        refine lv_iload_n hx hb d_PS_remember_30 rfl (lv_at hl 0 rfl) ?_
        refine lv_iload_n hx hb d_PS_remember_31 rfl (lv_at hl 2 rfl) ?_
        refine lv_iload_n hx hb d_PS_remember_32 rfl (lv_at hl 3 rfl) ?_
        refine lv_aload_n hx hb d_PS_remember_33 rfl (lv_at hl 1 rfl) ?_
        refine lv_iload_n hx hb d_PS_remember_34 rfl (lv_at hl 2 rfl) ?_
        refine ps_afterR (wc := (pw cI a q K S ck cu F N)) (wr := []) hP hD hS hA [0, 1, 2, 3, 4, 5, 6, 7, 8, 9, 10, 11, 12, 13, 14, 15, 16, 17, 18, 19, 20, 21, 22, 23, 24, 25, 26, 27, 28, 29, 30, 31, 32, 33, 34, 35, 36, 37, 38, 39] [] rfl rfl (by decide) (by decide) (ps_runVR ⟨hx, hb, hml, hown, hts⟩ (c_vof l dC dI cI tys ht a q K S ck cu F N hw hKb hSb (nI 1)) (ps_cwV ps_gd 1 hts tw_166 k_PS_valuesOf e_PS_valuesOf ⟨Nat.le_of_ble_eq_true rfl, Nat.le_of_ble_eq_true rfl⟩) hK hP hD [0, 1, 2, 3, 4, 5, 6, 7, 8, 9, 10, 11, 12, 13, 14, 15, 16, 17, 18, 19, 20, 21, 22, 23, 24, 25, 26, 27, 28, 29, 30, 31, 32, 33, 34, 35, 36, 37, 38, 39] (by decide) rfl 0 cPS rfl rfl rfl hl.1 rfl (Nat.le_of_ble_eq_true rfl) d_PS_remember_35 ⟨Nat.zero_le _, Nat.zero_le _⟩) (fun r_5 u_4 H locs hu_4 hP hD hS => ?_)
        obtain ⟨hu_4, hr_5⟩ := hu_4
        rw [if_neg (by decide)] at hr_5
        subst hr_5
        subst hu_4
        have hP : va_P (dC, dI) classes (pw cI a q K S ck cu F N) H := hP
        have hD : va_D A (pw cI a q K S ck cu F N) := hD
        have hm1 := hm hcr_1 (by omega)
        refine ps_afterV (wc := [(a 6, .inr (cMem, [.ref (a 20), .ref (a 21), .ref (a 7)])), (a 20, .inr (cCol, [.int (nI 40000), .ref (q 12)])), (q 12, .inl (cI, N 12, .inl (F 12))), (a 21, .inr (cCol, [.int (nI 40000), .ref (q 13)])), (q 13, .inl (cI, N 13, .inl (F 13))), (a 7, .inr (cVal, [.ref (a 22), .ref (a 23)])), (a 22, .inr (cCol, [.int (nI 40000), .ref (q 14)])), (q 14, .inl (cI, N 14, .inl (F 14))), (a 23, .inr (cCol, [.int (nI 40000), .ref (q 15)])), (q 15, .inl (cI, N 15, .inl (F 15))), (a 3, .inr (cVal, [.ref (a 10), .ref (a 11)])), (a 10, .inr (cCol, [.int (nI 32768), .ref (q 2)])), (q 2, .inl (cI, N 2, .inl (F 2))), (a 11, .inr (cCol, [.int (nI 32768), .ref (q 3)])), (q 3, .inl (cI, N 3, .inl (F 3)))]) (wr := [0, 1, 2, 4, 5, 8, 9, 10, 11, 16, 17, 18, 19, 20, 21, 22, 23, 24, 25, 26, 27, 28, 29, 30, 31].filterMap (fun z9 => ((pw cI a q K S ck cu F N) : va_W)[z9]?)) hP hD hS hA [6, 32, 33, 34, 35, 7, 36, 37, 38, 39, 3, 12, 13, 14, 15] [0, 1, 2, 4, 5, 8, 9, 10, 11, 16, 17, 18, 19, 20, 21, 22, 23, 24, 25, 26, 27, 28, 29, 30, 31] rfl rfl (by decide) (by decide) (ps_runVV ⟨hx, hb, hml, hown, hts⟩ (c_mwrite l dC dI cI tys ht (a 6) (a 20) (q 12) (a 21) (q 13) (a 7) (a 22) (q 14) (a 23) (q 15) (a 3) (a 10) (q 2) (a 11) (q 3) 40000 32768 (N 12) (N 13) (N 14) (N 15) (N 2) (N 3) (F 12) (F 13) (F 14) (F 15) (F 2) (F 3) (K 5) (nI 1) i (hw.z 12 (by decide)) (hw 12 (by decide)).2 (hw.z 13 (by decide)) (hw 13 (by decide)).2 (hw.z 14 (by decide)) (hw 14 (by decide)).2 (hw.z 15 (by decide)) (hw 15 (by decide)).2 (hw.z 2 (by decide)) (hw.z 3 (by decide)) (hw.n 2 (by decide)) (hw.n 3 (by decide)) (by decide) (by omega) hi) (ps_cwV ps_gd 4 hts tw_167 k_Mem_write e_Mem_write ⟨Nat.le_of_ble_eq_true rfl, Nat.le_of_ble_eq_true rfl⟩) hK hP hD [6, 32, 33, 34, 35, 7, 36, 37, 38, 39, 3, 12, 13, 14, 15] (by decide) rfl 0 cMem rfl rfl rfl hl.1 rfl (Nat.le_of_ble_eq_true rfl) d_PS_remember_38 ⟨by show 0 + 0 + 0 + ps_mc N (K 5) ≤ mc; omega, by show 0 + 0 + 0 + ps_ms N (K 5) ≤ ms; omega⟩) (fun u_6 H locs hu_6 hP hD hS => ?_)
        obtain ⟨q_8, q_9, q_10, q_11, hu_6⟩ := hu_6
        subst hu_6
        obtain ⟨hP, hD⟩ := ps_perm (ws' := (pw cI a (va_up (va_up (va_up (va_up q 12 q_8) 13 q_9) 14 q_10) 15 q_11) K S ck cu (va_up (va_up (va_up (va_up F 12 (upd (F 12) (K 5) (nI 1))) 13 (upd (F 13) (K 5) (nI i))) 14 (upd (F 14) (K 5) (F 2 i))) 15 (upd (F 15) (K 5) (if F 2 i = 0 then 0 else F 3 i))) (va_up (va_up (va_up (va_up N 12 (ps_len 40000 (N 12) (K 5))) 13 (ps_len 40000 (N 13) (K 5))) 14 (ps_len 40000 (N 14) (K 5))) 15 (ps_len 40000 (N 15) (K 5))))) hP hD [0, 1, 2, 35, 3, 4, 25, 30, 5, 6, 7, 8, 36, 37, 38, 39, 9, 10, 11, 12, 13, 14, 15, 16, 17, 18, 19, 20, 21, 22, 23, 24, 26, 27, 28, 29, 31, 32, 33, 34] (by decide) rfl
        refine lv_aload_n hx hb d_PS_remember_41 rfl (lv_at hl 1 rfl) ?_
        refine va_get (D := (dC, dI)) (ci := cPS) (v := .ref (a 1)) (C := R_PS) (T := F_PS) (N := 10) hx hb hts i_PS hown hK hP 0 rfl rfl 0 (by decide) (hts _ tw_97) (fun _ h9 => h9) rfl d_PS_remember_42 ?_
        refine lv_iconst (v := nI 5) hx hb d_PS_remember_45 (by decide) ?_
        refine lv_dup2_11 hx hb d_PS_remember_46 rfl rfl ?_
        refine va_iald hx hb hK hP 1 0 rfl ht (vp_in_nI (show 5 < 6 by decide) (by decide)) d_PS_remember_47 ?_
        refine ps_top (z := nI (K 5)) (ps_kat _ 5 (by decide)) ?_
        refine lv_iconst (v := nI 1) hx hb d_PS_remember_48 (by decide) ?_
        refine lv_iadd hx hb d_PS_remember_49 ?_
        refine ps_top (z := nI (K 5 + 1)) (nI_add _ _) ?_
        refine va_iast hx hb hK hP hD hS 1 0 rfl ht (vp_in_nI (show 5 < 6 by decide) (by decide)) d_PS_remember_50 (fun H locs hP hD hS => ?_)
        rw [nI_clamp (show 5 < 2 ^ 31 by decide)] at hP hD
        rw [ps_kup] at hP hD
        have hP : va_P (dC, dI) classes (pw cI a (va_up (va_up (va_up (va_up q 12 q_8) 13 q_9) 14 q_10) 15 q_11) (va_up K 5 (K 5 + 1)) S ck cu (va_up (va_up (va_up (va_up F 12 (upd (F 12) (K 5) (nI 1))) 13 (upd (F 13) (K 5) (nI i))) 14 (upd (F 14) (K 5) (F 2 i))) 15 (upd (F 15) (K 5) (if F 2 i = 0 then 0 else F 3 i))) (va_up (va_up (va_up (va_up N 12 (ps_len 40000 (N 12) (K 5))) 13 (ps_len 40000 (N 13) (K 5))) 14 (ps_len 40000 (N 14) (K 5))) 15 (ps_len 40000 (N 15) (K 5)))) H := hP
        have hD : va_D A (pw cI a (va_up (va_up (va_up (va_up q 12 q_8) 13 q_9) 14 q_10) 15 q_11) (va_up K 5 (K 5 + 1)) S ck cu (va_up (va_up (va_up (va_up F 12 (upd (F 12) (K 5) (nI 1))) 13 (upd (F 13) (K 5) (nI i))) 14 (upd (F 14) (K 5) (F 2 i))) 15 (upd (F 15) (K 5) (if F 2 i = 0 then 0 else F 3 i))) (va_up (va_up (va_up (va_up N 12 (ps_len 40000 (N 12) (K 5))) 13 (ps_len 40000 (N 13) (K 5))) 14 (ps_len 40000 (N 14) (K 5))) 15 (ps_len 40000 (N 15) (K 5)))) := hD
        refine lv_iconst (v := 1) hx hb d_PS_remember_51 (by decide) ?_
        exact ps_zret hx hb hr hlocks hK hP hD hS rfl (by show 0 + 0 + 0 + ps_mc N (K 5) ≤ mc; omega) (by show 0 + 0 + 0 + ps_ms N (K 5) ≤ ms; omega) d_PS_remember_52 (ps_cy hcr_1 (ps_cn (by omega) ⟨(va_up (va_up (va_up (va_up q 12 q_8) 13 q_9) 14 q_10) 15 q_11), rfl, rfl⟩))
      · have c_3 : ¬ K 5 < 40000 := fun q => c_3 ((nI_ltI (by have h0 := hKb 0; have h1 := hKb 1; have h2 := hKb 2; have h3 := hKb 3; have h4 := hKb 4; have h5 := hKb 5; omega) (by have h0 := hKb 0; have h1 := hKb 1; have h2 := hKb 2; have h3 := hKb 3; have h4 := hKb 4; have h5 := hKb 5; omega)).mpr q)
        refine lv_iconst (v := 0) hx hb d_PS_remember_24 (by decide) ?_
        exact ps_zret hx hb hr hlocks hK hP hD hS rfl (Nat.zero_le _) (Nat.zero_le _) d_PS_remember_25 (ps_cy hcr_1 (ps_cy (by omega) ⟨rfl, rfl⟩))
    · exact absurd c_2 (by decide)
  · subst hr_1
    refine lv_if_ne (tgt := 11) hx hb d_PS_remember_6 (by decide) (fun c_12 => ?_) (fun c_12 => ?_)
    · exact absurd rfl c_12
    · refine lv_iconst (v := 1) hx hb d_PS_remember_9 (by decide) ?_
      exact ps_zret hx hb hr hlocks hK hP hD hS rfl (Nat.zero_le _) (Nat.zero_le _) d_PS_remember_10 (ps_cn hcr_1 ⟨rfl, rfl⟩)

set_option maxHeartbeats 4000000 in
set_option maxRecDepth 100000 in
/-- PageStore.remember -/
theorem c_rem4 (l : Launch) (dC : Nat → ClassId) (dI : Nat → Nat → Nat) (cI : ClassId) (tys : List (ClassId × FieldType)) (ht : tys[0]? = some (cI, FieldType.int)) (a q K : Nat → Nat) (S : Nat) (ck cu : Int32) (F : Nat → Nat → Int32) (N : Nat → Nat) (hw : ps_wf F N) (hKb : ∀ j, K j ≤ 65536) (hSb : S ≤ 15) (i : Nat) (t b : Nat) (ht0 : t ≤ 65536) (hb0 : b ≤ 65536) (hi : i < 2 ^ 31) (htw : ¬ S = 0 → F 0 ((S - 1) * 6 + 4) = nI t) (htb : ¬ S = 0 → F 0 ((S - 1) * 6 + 5) = nI b) (mc ms : Nat) (hm : ps_must S t b (K 5) F 4 i → ¬ 40000 ≤ K 5 → ps_mc N (K 5) ≤ mc ∧ ps_ms N (K 5) ≤ ms) : ps_mI classes l y_PS_remember w_PS_remember ({ frames := 5, cells := mc, slots := ms, locals := 110 }) (dC, dI) tys [.ref (a 0), .int (nI 4), .int (nI i)] (pw cI a q K S ck cu F N) (fun r u => ps_c (ps_must S t b (K 5) F 4 i) (ps_c (40000 ≤ K 5) (r = 0 ∧ u = pw cI a q K S ck cu F N) (∃ q1 : Nat → Nat, r = 1 ∧ u = pw cI a q1 (va_up K 5 (K 5 + 1)) S ck cu (ps_Fm F (K 5) (nI 4) i (F 10 i) (F 11 i)) (ps_Nm N (K 5)))) (r = 1 ∧ u = pw cI a q K S ck cu F N)) := by
  refine ps_mI_of (by decide) rfl (Nat.le_of_ble_eq_true rfl) ?_
  intro p e s m below meth c A ls C0 hA hK hP hD hS hl
  obtain ⟨hx, hb, hr, hml, hts, hown, hlocks, hin⟩ := C0
  have hl : lv_has ls 4 [(0, .ref (a 0)), (1, .int (nI 4)), (2, .int (nI i))] := hl
  have hP : va_P (dC, dI) classes (pw cI a q K S ck cu F N) s.heap := hP
  have hD : va_D A (pw cI a q K S ck cu F N) := hD
  refine lv_aload_n hx hb d_PS_remember_0 rfl (lv_at hl 0 rfl) ?_
  refine lv_iload_n hx hb d_PS_remember_1 rfl (lv_at hl 1 rfl) ?_
  refine lv_iload_n hx hb d_PS_remember_2 rfl (lv_at hl 2 rfl) ?_
  refine ps_readI (wc := (pw cI a q K S ck cu F N)) hP hD hS hA [0, 1, 2, 3, 4, 5, 6, 7, 8, 9, 10, 11, 12, 13, 14, 15, 16, 17, 18, 19, 20, 21, 22, 23, 24, 25, 26, 27, 28, 29, 30, 31, 32, 33, 34, 35, 36, 37, 38, 39] rfl (fun _ _ h => h.1) (ps_runVI ⟨hx, hb, hml, hown, hts⟩ (c_must l dC dI cI tys ht a q K S ck cu F N hw hKb hSb 4 i t b ht0 hb0 (by decide) hi htw htb) (ps_cwV ps_gd 2 hts tw_164 k_PS_mustRemember e_PS_mustRemember ⟨Nat.le_of_ble_eq_true rfl, Nat.le_of_ble_eq_true rfl⟩) hK hP hD [0, 1, 2, 3, 4, 5, 6, 7, 8, 9, 10, 11, 12, 13, 14, 15, 16, 17, 18, 19, 20, 21, 22, 23, 24, 25, 26, 27, 28, 29, 30, 31, 32, 33, 34, 35, 36, 37, 38, 39] (by decide) rfl 0 cPS rfl rfl rfl hl.1 rfl (Nat.le_of_ble_eq_true rfl) d_PS_remember_3 ⟨Nat.zero_le _, Nat.zero_le _⟩) (fun r_1 H locs hr_1 hP hS => ?_)
  obtain ⟨-, hr_1⟩ := hr_1
  rcases hr_1 with ⟨hcr_1, hr_1⟩ | ⟨hcr_1, hr_1⟩
  · subst hr_1
    refine lv_if_ne (tgt := 11) hx hb d_PS_remember_6 (by decide) (fun c_2 => ?_) (fun c_2 => ?_)
    · refine lv_aload_n hx hb d_PS_remember_11 rfl (lv_at hl 0 rfl) ?_
      refine va_get (D := (dC, dI)) (ci := cPS) (v := .ref (a 1)) (C := R_PS) (T := F_PS) (N := 10) hx hb hts i_PS hown hK hP 0 rfl rfl 0 (by decide) (hts _ tw_97) (fun _ h9 => h9) rfl d_PS_remember_12 ?_
      refine lv_iconst (v := nI 5) hx hb d_PS_remember_15 (by decide) ?_
      refine va_iald hx hb hK hP 1 0 rfl ht (vp_in_nI (show 5 < 6 by decide) (by decide)) d_PS_remember_16 ?_
      refine ps_top (z := nI (K 5)) (ps_kat _ 5 (by decide)) ?_
      refine lv_istore_n (lv' := [(3, .int (nI (K 5))), (0, .ref (a 0)), (1, .int (nI 4)), (2, .int (nI i))]) hx hb d_PS_remember_17 rfl hl (by decide) rfl (fun ls hl => ?_)
      refine lv_iload_n hx hb d_PS_remember_18 rfl (lv_at hl 0 rfl) ?_
      refine lv_ldc (v := 40000) hx hb hown (hts _ tw_165) d_PS_remember_19 ?_
      refine ps_top (z := nI 40000) (by decide) ?_
      refine lv_icmp_lt (tgt := 26) hx hb d_PS_remember_21 (by decide) (fun c_3 => ?_) (fun c_3 => ?_)
      · have c_3 : K 5 < 40000 := (nI_ltI (by have h0 := hKb 0; have h1 := hKb 1; have h2 := hKb 2; have h3 := hKb 3; have h4 := hKb 4; have h5 := hKb 5; omega) (by have h0 := hKb 0; have h1 := hKb 1; have h2 := hKb 2; have h3 := hKb 3; have h4 := hKb 4; have h5 := hKb 5; omega)).mp c_3
        refine lv_aload_n hx hb d_PS_remember_26 rfl (lv_at hl 1 rfl) ?_
        refine va_get (D := (dC, dI)) (ci := cPS) (v := .ref (a 6)) (C := R_PS) (T := F_PS) (N := 10) hx hb hts i_PS hown hK hP 0 rfl rfl 7 (by decide) (hts _ tw_162) (fun _ h9 => h9) rfl d_PS_remember_27 ?_
        refine lv_iload_n hx hb d_PS_remember_30 rfl (lv_at hl 0 rfl) ?_
        refine lv_iload_n hx hb d_PS_remember_31 rfl (lv_at hl 2 rfl) ?_
        refine lv_iload_n hx hb d_PS_remember_32 rfl (lv_at hl 3 rfl) ?_
        refine lv_aload_n hx hb d_PS_remember_33 rfl (lv_at hl 1 rfl) ?_
        refine lv_iload_n hx hb d_PS_remember_34 rfl (lv_at hl 2 rfl) ?_
        refine ps_afterR (wc := (pw cI a q K S ck cu F N)) (wr := []) hP hD hS hA [0, 1, 2, 3, 4, 5, 6, 7, 8, 9, 10, 11, 12, 13, 14, 15, 16, 17, 18, 19, 20, 21, 22, 23, 24, 25, 26, 27, 28, 29, 30, 31, 32, 33, 34, 35, 36, 37, 38, 39] [] rfl rfl (by decide) (by decide) (ps_runVR ⟨hx, hb, hml, hown, hts⟩ (c_vof l dC dI cI tys ht a q K S ck cu F N hw hKb hSb (nI 4)) (ps_cwV ps_gd 1 hts tw_166 k_PS_valuesOf e_PS_valuesOf ⟨Nat.le_of_ble_eq_true rfl, Nat.le_of_ble_eq_true rfl⟩) hK hP hD [0, 1, 2, 3, 4, 5, 6, 7, 8, 9, 10, 11, 12, 13, 14, 15, 16, 17, 18, 19, 20, 21, 22, 23, 24, 25, 26, 27, 28, 29, 30, 31, 32, 33, 34, 35, 36, 37, 38, 39] (by decide) rfl 0 cPS rfl rfl rfl hl.1 rfl (Nat.le_of_ble_eq_true rfl) d_PS_remember_35 ⟨Nat.zero_le _, Nat.zero_le _⟩) (fun r_5 u_4 H locs hu_4 hP hD hS => ?_)
        obtain ⟨hu_4, hr_5⟩ := hu_4
        rw [if_pos rfl] at hr_5
        subst hr_5
        subst hu_4
        have hP : va_P (dC, dI) classes (pw cI a q K S ck cu F N) H := hP
        have hD : va_D A (pw cI a q K S ck cu F N) := hD
        have hm1 := hm hcr_1 (by omega)
        refine ps_afterV (wc := [(a 6, .inr (cMem, [.ref (a 20), .ref (a 21), .ref (a 7)])), (a 20, .inr (cCol, [.int (nI 40000), .ref (q 12)])), (q 12, .inl (cI, N 12, .inl (F 12))), (a 21, .inr (cCol, [.int (nI 40000), .ref (q 13)])), (q 13, .inl (cI, N 13, .inl (F 13))), (a 7, .inr (cVal, [.ref (a 22), .ref (a 23)])), (a 22, .inr (cCol, [.int (nI 40000), .ref (q 14)])), (q 14, .inl (cI, N 14, .inl (F 14))), (a 23, .inr (cCol, [.int (nI 40000), .ref (q 15)])), (q 15, .inl (cI, N 15, .inl (F 15))), (a 5, .inr (cVal, [.ref (a 18), .ref (a 19)])), (a 18, .inr (cCol, [.int (nI 16384), .ref (q 10)])), (q 10, .inl (cI, N 10, .inl (F 10))), (a 19, .inr (cCol, [.int (nI 16384), .ref (q 11)])), (q 11, .inl (cI, N 11, .inl (F 11)))]) (wr := [0, 1, 2, 3, 4, 8, 9, 10, 11, 12, 13, 14, 15, 16, 17, 18, 19, 20, 21, 22, 23, 24, 25, 26, 27].filterMap (fun z9 => ((pw cI a q K S ck cu F N) : va_W)[z9]?)) hP hD hS hA [6, 32, 33, 34, 35, 7, 36, 37, 38, 39, 5, 28, 29, 30, 31] [0, 1, 2, 3, 4, 8, 9, 10, 11, 12, 13, 14, 15, 16, 17, 18, 19, 20, 21, 22, 23, 24, 25, 26, 27] rfl rfl (by decide) (by decide) (ps_runVV ⟨hx, hb, hml, hown, hts⟩ (c_mwrite l dC dI cI tys ht (a 6) (a 20) (q 12) (a 21) (q 13) (a 7) (a 22) (q 14) (a 23) (q 15) (a 5) (a 18) (q 10) (a 19) (q 11) 40000 16384 (N 12) (N 13) (N 14) (N 15) (N 10) (N 11) (F 12) (F 13) (F 14) (F 15) (F 10) (F 11) (K 5) (nI 4) i (hw.z 12 (by decide)) (hw 12 (by decide)).2 (hw.z 13 (by decide)) (hw 13 (by decide)).2 (hw.z 14 (by decide)) (hw 14 (by decide)).2 (hw.z 15 (by decide)) (hw 15 (by decide)).2 (hw.z 10 (by decide)) (hw.z 11 (by decide)) (hw.n 10 (by decide)) (hw.n 11 (by decide)) (by decide) (by omega) hi) (ps_cwV ps_gd 4 hts tw_167 k_Mem_write e_Mem_write ⟨Nat.le_of_ble_eq_true rfl, Nat.le_of_ble_eq_true rfl⟩) hK hP hD [6, 32, 33, 34, 35, 7, 36, 37, 38, 39, 5, 28, 29, 30, 31] (by decide) rfl 0 cMem rfl rfl rfl hl.1 rfl (Nat.le_of_ble_eq_true rfl) d_PS_remember_38 ⟨by show 0 + 0 + 0 + ps_mc N (K 5) ≤ mc; omega, by show 0 + 0 + 0 + ps_ms N (K 5) ≤ ms; omega⟩) (fun u_6 H locs hu_6 hP hD hS => ?_)
        obtain ⟨q_8, q_9, q_10, q_11, hu_6⟩ := hu_6
        subst hu_6
        obtain ⟨hP, hD⟩ := ps_perm (ws' := (pw cI a (va_up (va_up (va_up (va_up q 12 q_8) 13 q_9) 14 q_10) 15 q_11) K S ck cu (va_up (va_up (va_up (va_up F 12 (upd (F 12) (K 5) (nI 4))) 13 (upd (F 13) (K 5) (nI i))) 14 (upd (F 14) (K 5) (F 10 i))) 15 (upd (F 15) (K 5) (if F 10 i = 0 then 0 else F 11 i))) (va_up (va_up (va_up (va_up N 12 (ps_len 40000 (N 12) (K 5))) 13 (ps_len 40000 (N 13) (K 5))) 14 (ps_len 40000 (N 14) (K 5))) 15 (ps_len 40000 (N 15) (K 5))))) hP hD [0, 1, 2, 3, 4, 35, 25, 30, 5, 6, 7, 8, 9, 10, 11, 12, 13, 14, 15, 16, 17, 18, 19, 20, 21, 22, 23, 24, 36, 37, 38, 39, 26, 27, 28, 29, 31, 32, 33, 34] (by decide) rfl
        refine lv_aload_n hx hb d_PS_remember_41 rfl (lv_at hl 1 rfl) ?_
        refine va_get (D := (dC, dI)) (ci := cPS) (v := .ref (a 1)) (C := R_PS) (T := F_PS) (N := 10) hx hb hts i_PS hown hK hP 0 rfl rfl 0 (by decide) (hts _ tw_97) (fun _ h9 => h9) rfl d_PS_remember_42 ?_
        refine lv_iconst (v := nI 5) hx hb d_PS_remember_45 (by decide) ?_
        refine lv_dup2_11 hx hb d_PS_remember_46 rfl rfl ?_
        refine va_iald hx hb hK hP 1 0 rfl ht (vp_in_nI (show 5 < 6 by decide) (by decide)) d_PS_remember_47 ?_
        refine ps_top (z := nI (K 5)) (ps_kat _ 5 (by decide)) ?_
        refine lv_iconst (v := nI 1) hx hb d_PS_remember_48 (by decide) ?_
        refine lv_iadd hx hb d_PS_remember_49 ?_
        refine ps_top (z := nI (K 5 + 1)) (nI_add _ _) ?_
        refine va_iast hx hb hK hP hD hS 1 0 rfl ht (vp_in_nI (show 5 < 6 by decide) (by decide)) d_PS_remember_50 (fun H locs hP hD hS => ?_)
        rw [nI_clamp (show 5 < 2 ^ 31 by decide)] at hP hD
        rw [ps_kup] at hP hD
        have hP : va_P (dC, dI) classes (pw cI a (va_up (va_up (va_up (va_up q 12 q_8) 13 q_9) 14 q_10) 15 q_11) (va_up K 5 (K 5 + 1)) S ck cu (va_up (va_up (va_up (va_up F 12 (upd (F 12) (K 5) (nI 4))) 13 (upd (F 13) (K 5) (nI i))) 14 (upd (F 14) (K 5) (F 10 i))) 15 (upd (F 15) (K 5) (if F 10 i = 0 then 0 else F 11 i))) (va_up (va_up (va_up (va_up N 12 (ps_len 40000 (N 12) (K 5))) 13 (ps_len 40000 (N 13) (K 5))) 14 (ps_len 40000 (N 14) (K 5))) 15 (ps_len 40000 (N 15) (K 5)))) H := hP
        have hD : va_D A (pw cI a (va_up (va_up (va_up (va_up q 12 q_8) 13 q_9) 14 q_10) 15 q_11) (va_up K 5 (K 5 + 1)) S ck cu (va_up (va_up (va_up (va_up F 12 (upd (F 12) (K 5) (nI 4))) 13 (upd (F 13) (K 5) (nI i))) 14 (upd (F 14) (K 5) (F 10 i))) 15 (upd (F 15) (K 5) (if F 10 i = 0 then 0 else F 11 i))) (va_up (va_up (va_up (va_up N 12 (ps_len 40000 (N 12) (K 5))) 13 (ps_len 40000 (N 13) (K 5))) 14 (ps_len 40000 (N 14) (K 5))) 15 (ps_len 40000 (N 15) (K 5)))) := hD
        refine lv_iconst (v := 1) hx hb d_PS_remember_51 (by decide) ?_
        exact ps_zret hx hb hr hlocks hK hP hD hS rfl (by show 0 + 0 + 0 + ps_mc N (K 5) ≤ mc; omega) (by show 0 + 0 + 0 + ps_ms N (K 5) ≤ ms; omega) d_PS_remember_52 (ps_cy hcr_1 (ps_cn (by omega) ⟨(va_up (va_up (va_up (va_up q 12 q_8) 13 q_9) 14 q_10) 15 q_11), rfl, rfl⟩))
      · have c_3 : ¬ K 5 < 40000 := fun q => c_3 ((nI_ltI (by have h0 := hKb 0; have h1 := hKb 1; have h2 := hKb 2; have h3 := hKb 3; have h4 := hKb 4; have h5 := hKb 5; omega) (by have h0 := hKb 0; have h1 := hKb 1; have h2 := hKb 2; have h3 := hKb 3; have h4 := hKb 4; have h5 := hKb 5; omega)).mpr q)
        refine lv_iconst (v := 0) hx hb d_PS_remember_24 (by decide) ?_
        exact ps_zret hx hb hr hlocks hK hP hD hS rfl (Nat.zero_le _) (Nat.zero_le _) d_PS_remember_25 (ps_cy hcr_1 (ps_cy (by omega) ⟨rfl, rfl⟩))
    · exact absurd c_2 (by decide)
  · subst hr_1
    refine lv_if_ne (tgt := 11) hx hb d_PS_remember_6 (by decide) (fun c_12 => ?_) (fun c_12 => ?_)
    · exact absurd rfl c_12
    · refine lv_iconst (v := 1) hx hb d_PS_remember_9 (by decide) ?_
      exact ps_zret hx hb hr hlocks hK hP hD hS rfl (Nat.zero_le _) (Nat.zero_le _) d_PS_remember_10 (ps_cn hcr_1 ⟨rfl, rfl⟩)
end
section
theorem tw_184 : (.methodLink "PageStore" 92 ⟨"PageStore", "remember", "(II)Z"⟩ : Cond) ∈ ps_tbl := ps_t2 7 rfl rfl
theorem tw_185 : (.methodLink "PageStore" 128 ⟨"PageStore$Keys", "howManyThere", "(II)I"⟩ : Cond) ∈ ps_tbl := ps_t2 108 rfl rfl
theorem tw_186 : (.methodLink "PageStore" 108 ⟨"PageStore", "isKeyPossible", "(II)Z"⟩ : Cond) ∈ ps_tbl := ps_t2 61 rfl rfl
theorem tw_187 : (.methodLink "PageStore" 122 ⟨"PageStore$Keys", "indexIfThere", "(IIII)I"⟩ : Cond) ∈ ps_tbl := ps_t2 87 rfl rfl
theorem tw_188 : (.instanceMethod ⟨"PageStore", "remember", "(II)Z"⟩ : Cond) ∈ ps_tbl := ps_t2 9 rfl rfl
theorem tw_189 : (.selects "PageStore" ⟨"PageStore", "remember", "(II)Z"⟩ ⟨"PageStore", "remember", "(II)Z"⟩ : Cond) ∈ ps_tbl := ps_ts (y := ⟨"PageStore", "remember", "(II)Z"⟩) (n := 10) 4 rfl rfl
theorem tw_190 : (.code ⟨"PageStore", "remember", "(II)Z"⟩ prog_1_method_34_code 4 (some .boolean) : Cond) ∈ ps_tbl := ps_t2 10 rfl rfl
theorem tw_191 : (.instanceMethod ⟨"PageStore$Keys", "howManyThere", "(II)I"⟩ : Cond) ∈ ps_tbl := ps_t2 109 rfl rfl
theorem tw_192 : (.selects "PageStore$Keys" ⟨"PageStore$Keys", "howManyThere", "(II)I"⟩ ⟨"PageStore$Keys", "howManyThere", "(II)I"⟩ : Cond) ∈ ps_tbl := ps_t2 110 rfl rfl
theorem tw_193 : (.code ⟨"PageStore$Keys", "howManyThere", "(II)I"⟩ prog_3_method_6_code 5 (some .int) : Cond) ∈ ps_tbl := ps_t2 111 rfl rfl
theorem tw_194 : (.instanceMethod ⟨"PageStore", "isKeyPossible", "(II)Z"⟩ : Cond) ∈ ps_tbl := ps_t2 63 rfl rfl
theorem tw_195 : (.selects "PageStore" ⟨"PageStore", "isKeyPossible", "(II)Z"⟩ ⟨"PageStore", "isKeyPossible", "(II)Z"⟩ : Cond) ∈ ps_tbl := ps_ts (y := ⟨"PageStore", "isKeyPossible", "(II)Z"⟩) (n := 10) 8 rfl rfl
theorem tw_196 : (.code ⟨"PageStore", "isKeyPossible", "(II)Z"⟩ prog_1_method_26_code 3 (some .boolean) : Cond) ∈ ps_tbl := ps_t2 64 rfl rfl
theorem tw_197 : (.instanceMethod ⟨"PageStore$Keys", "indexIfThere", "(IIII)I"⟩ : Cond) ∈ ps_tbl := ps_t2 88 rfl rfl
theorem tw_198 : (.selects "PageStore$Keys" ⟨"PageStore$Keys", "indexIfThere", "(IIII)I"⟩ ⟨"PageStore$Keys", "indexIfThere", "(IIII)I"⟩ : Cond) ∈ ps_tbl := ps_t2 89 rfl rfl
theorem tw_199 : (.code ⟨"PageStore$Keys", "indexIfThere", "(IIII)I"⟩ prog_3_method_4_code 6 (some .int) : Cond) ∈ ps_tbl := ps_t2 90 rfl rfl
theorem k_PS_remember : ps_cdV ps_tbl y_PS_remember prog_1_method_34_code 4 (some .boolean) := ⟨tw_188, tw_189, tw_108, tw_190⟩
theorem k_Key_howManyThere : ps_cdV ps_tbl y_Key_howManyThere prog_3_method_6_code 5 (some .int) := ⟨tw_191, tw_192, tw_54, tw_193⟩
theorem k_PS_isKeyPossible : ps_cdV ps_tbl y_PS_isKeyPossible prog_1_method_26_code 3 (some .boolean) := ⟨tw_194, tw_195, tw_108, tw_196⟩
theorem k_Key_indexIfThere : ps_cdV ps_tbl y_Key_indexIfThere prog_3_method_4_code 6 (some .int) := ⟨tw_197, tw_198, tw_54, tw_199⟩
set_option maxHeartbeats 4000000 in
set_option maxRecDepth 100000 in
/-- PageStore.set -/
theorem c_set (l : Launch) (dC : Nat → ClassId) (dI : Nat → Nat → Nat) (cI : ClassId) (tys : List (ClassId × FieldType)) (ht : tys[0]? = some (cI, FieldType.int)) (a q K : Nat → Nat) (S : Nat) (ck cu : Int32) (F : Nat → Nat → Int32) (N : Nat → Nat) (hw : ps_wf F N) (hKb : ∀ j, K j ≤ 65536) (hSb : S ≤ 15) (row place kind number : Int32) (hrw : ps_rows K F) (hk1 : K 1 ≤ 32768) (t b : Nat) (ht0 : t ≤ 65536) (hb0 : b ≤ 65536) (htw : ¬ S = 0 → F 0 ((S - 1) * 6 + 1) = nI t) (htb : ¬ S = 0 → F 0 ((S - 1) * 6 + 5) = nI b) (mc ms : Nat) (hm1 : (ps_ok K F (nI 1) row place ∧ (nI 0 ≤ kind ∧ kind ≤ nI 15)) → ps_must S t b (K 5) F 1 (ps_ix F row place) → ¬ 40000 ≤ K 5 → ps_mc N (K 5) + ps_vc 32768 N 2 (ps_ix F row place) ≤ mc ∧ ps_ms N (K 5) + ps_vs 32768 N 2 (ps_ix F row place) ≤ ms) (hm2 : (ps_ok K F (nI 1) row place ∧ (nI 0 ≤ kind ∧ kind ≤ nI 15)) → ¬ ps_must S t b (K 5) F 1 (ps_ix F row place) → ps_vc 32768 N 2 (ps_ix F row place) ≤ mc ∧ ps_vs 32768 N 2 (ps_ix F row place) ≤ ms) : ps_mI classes l y_PS_set w_PS_set ({ frames := 6, cells := mc, slots := ms, locals := 133 }) (dC, dI) tys [.ref (a 0), .int row, .int place, .int kind, .int number] (pw cI a q K S ck cu F N) (fun r u => ps_c (ps_ok K F (nI 1) row place ∧ (nI 0 ≤ kind ∧ kind ≤ nI 15)) (ps_c (ps_must S t b (K 5) F 1 (ps_ix F row place)) (ps_c (40000 ≤ K 5) (r = -3 ∧ u = pw cI a q K S ck cu F N) (∃ q1 : Nat → Nat, r = 1 ∧ u = pw cI a q1 (va_up K 5 (K 5 + 1)) S ck cu (ps_Fv (ps_Fm F (K 5) (nI 1) (ps_ix F row place) (F 2 (ps_ix F row place)) (F 3 (ps_ix F row place))) 2 (ps_ix F row place) kind number) (ps_Nv (ps_Nm N (K 5)) 2 (ps_ix F row place)))) (∃ q1 : Nat → Nat, r = 1 ∧ u = pw cI a q1 K S ck cu (ps_Fv F 2 (ps_ix F row place) kind number) (ps_Nv N 2 (ps_ix F row place)))) (r = -1 ∧ u = pw cI a q K S ck cu F N)) := by
  refine ps_mI_of (by decide) rfl (Nat.le_of_ble_eq_true rfl) ?_
  intro p e s m below meth c A ls C0 hA hK hP hD hS hl
  obtain ⟨hx, hb, hr, hml, hts, hown, hlocks, hin⟩ := C0
  have hl : lv_has ls 6 [(0, .ref (a 0)), (1, .int row), (2, .int place), (3, .int kind), (4, .int number)] := hl
  have hP : va_P (dC, dI) classes (pw cI a q K S ck cu F N) s.heap := hP
  have hD : va_D A (pw cI a q K S ck cu F N) := hD
  refine lv_aload_n hx hb d_PS_set_0 rfl (lv_at hl 0 rfl) ?_
  refine lv_iconst (v := nI 1) hx hb d_PS_set_1 (by decide) ?_
  refine lv_iload_n hx hb d_PS_set_2 rfl (lv_at hl 1 rfl) ?_
  refine lv_iload_n hx hb d_PS_set_3 rfl (lv_at hl 2 rfl) ?_
  refine ps_readI (wc := (pw cI a q K S ck cu F N)) hP hD hS hA [0, 1, 2, 3, 4, 5, 6, 7, 8, 9, 10, 11, 12, 13, 14, 15, 16, 17, 18, 19, 20, 21, 22, 23, 24, 25, 26, 27, 28, 29, 30, 31, 32, 33, 34, 35, 36, 37, 38, 39] rfl (fun _ _ h => h.1) (ps_runVI ⟨hx, hb, hml, hown, hts⟩ (c_ixin l dC dI cI tys ht a q K S ck cu F N hw hKb hSb (nI 1) row place) (ps_cwV ps_gd 3 hts tw_141 k_PS_indexIn e_PS_indexIn ⟨Nat.le_of_ble_eq_true rfl, Nat.le_of_ble_eq_true rfl⟩) hK hP hD [0, 1, 2, 3, 4, 5, 6, 7, 8, 9, 10, 11, 12, 13, 14, 15, 16, 17, 18, 19, 20, 21, 22, 23, 24, 25, 26, 27, 28, 29, 30, 31, 32, 33, 34, 35, 36, 37, 38, 39] (by decide) rfl 0 cPS rfl rfl rfl hl.1 rfl (Nat.le_of_ble_eq_true rfl) d_PS_set_4 ⟨Nat.zero_le _, Nat.zero_le _⟩) (fun r_1 H locs hr_1 hP hS => ?_)
  obtain ⟨-, hr_1⟩ := hr_1
  rcases hr_1 with ⟨hcr_1, hr_1⟩ | ⟨hcr_1, hr_1⟩
  · obtain ⟨eix, hix⟩ := ps_ok_ix hKb hrw (Or.inl rfl) hcr_1
    rw [eix] at hr_1
    subst hr_1
    have hix31 : ps_ix F row place < 2 ^ 31 := by have b1 := hKb 1; omega
    refine lv_istore (lv' := [(5, .int (nI (ps_ix F row place))), (0, .ref (a 0)), (1, .int row), (2, .int place), (3, .int kind), (4, .int number)]) hx hb d_PS_set_7 hl (by decide) rfl (fun ls hl => ?_)
    refine lv_iload hx hb d_PS_set_9 (lv_at hl 0 rfl) ?_
    refine lv_iconst (v := (-1)) hx hb d_PS_set_11 (by decide) ?_
    refine lv_icmp_eq (tgt := 23) hx hb d_PS_set_12 (by decide) (fun c_2 => ?_) (fun c_2 => ?_)
    · exact absurd c_2 (ps_m1 hix31)
    · refine lv_iload_n hx hb d_PS_set_15 rfl (lv_at hl 4 rfl) ?_
      refine lv_iconst (v := nI 0) hx hb d_PS_set_16 (by decide) ?_
      refine ps_readI (wc := []) hP hD hS hA [] rfl (fun _ _ h => h.1) (ps_runSI ⟨hx, hb, hml, hown, hts⟩ (c_isKind l dC dI cI tys ht kind (nI 0)) (ps_cwS ps_gd 2 hts tw_100 k_PS_isKind e_PS_isKind ⟨Nat.le_of_ble_eq_true rfl, Nat.le_of_ble_eq_true rfl⟩) hK hP hD [] (by decide) rfl rfl hl.1 rfl (Nat.le_of_ble_eq_true rfl) d_PS_set_17 ⟨Nat.zero_le _, Nat.zero_le _⟩) (fun r_3 H locs hr_3 hP hS => ?_)
      obtain ⟨-, hr_3⟩ := hr_3
      subst hr_3
      refine lv_if_ne (tgt := 25) hx hb d_PS_set_20 (by decide) (fun c_4 => ?_) (fun c_4 => ?_)
      · have c_4 := ps_ite1 c_4
        refine lv_aload_n hx hb d_PS_set_25 rfl (lv_at hl 1 rfl) ?_
        refine lv_iconst (v := nI 1) hx hb d_PS_set_26 (by decide) ?_
        refine lv_iload hx hb d_PS_set_27 (lv_at hl 0 rfl) ?_
        by_cases hmu : ps_must S t b (K 5) F 1 (ps_ix F row place)
        · by_cases hfull : 40000 ≤ K 5
          · refine ps_afterI (wc := (pw cI a q K S ck cu F N)) (wr := []) hP hD hS hA [0, 1, 2, 3, 4, 5, 6, 7, 8, 9, 10, 11, 12, 13, 14, 15, 16, 17, 18, 19, 20, 21, 22, 23, 24, 25, 26, 27, 28, 29, 30, 31, 32, 33, 34, 35, 36, 37, 38, 39] [] rfl rfl (by decide) (by decide) (ps_runVI ⟨hx, hb, hml, hown, hts⟩ (c_rem1 l dC dI cI tys ht a q K S ck cu F N hw hKb hSb (ps_ix F row place) t b ht0 hb0 hix31 htw htb 0 0 (fun _ q => absurd hfull q)) (ps_cwV ps_gd 2 hts tw_184 k_PS_remember e_PS_remember ⟨Nat.le_of_ble_eq_true rfl, Nat.le_of_ble_eq_true rfl⟩) hK hP hD [0, 1, 2, 3, 4, 5, 6, 7, 8, 9, 10, 11, 12, 13, 14, 15, 16, 17, 18, 19, 20, 21, 22, 23, 24, 25, 26, 27, 28, 29, 30, 31, 32, 33, 34, 35, 36, 37, 38, 39] (by decide) rfl 0 cPS rfl rfl rfl hl.1 rfl (Nat.le_of_ble_eq_true rfl) d_PS_set_29 ⟨by show 0 + 0 + 0 + 0 ≤ mc; omega, by show 0 + 0 + 0 + 0 ≤ ms; omega⟩) (fun r_6 u_5 H locs hu_5 hP hD hS => ?_)
            obtain ⟨hr_6, vu_5⟩ := (hu_5.y hmu).y hfull
            subst hr_6
            subst vu_5
            have hP : va_P (dC, dI) classes (pw cI a q K S ck cu F N) H := hP
            have hD : va_D A (pw cI a q K S ck cu F N) := hD
            refine lv_if_ne (tgt := 38) hx hb d_PS_set_32 (by decide) (fun c_7 => ?_) (fun c_7 => ?_)
            · exact absurd rfl c_7
            · refine lv_bipush (v := (-3)) hx hb d_PS_set_35 (by decide) ?_
              exact ps_iret hx hb hr hlocks hK hP hD hS (Nat.zero_le _) (Nat.zero_le _) d_PS_set_37 (ps_cy ⟨hcr_1, c_4⟩ (ps_cy hmu (ps_cy hfull ⟨rfl, rfl⟩)))
          · have hpay := hm1 ⟨hcr_1, c_4⟩ hmu hfull
            refine ps_afterI (wc := (pw cI a q K S ck cu F N)) (wr := []) hP hD hS hA [0, 1, 2, 3, 4, 5, 6, 7, 8, 9, 10, 11, 12, 13, 14, 15, 16, 17, 18, 19, 20, 21, 22, 23, 24, 25, 26, 27, 28, 29, 30, 31, 32, 33, 34, 35, 36, 37, 38, 39] [] rfl rfl (by decide) (by decide) (ps_runVI ⟨hx, hb, hml, hown, hts⟩ (c_rem1 l dC dI cI tys ht a q K S ck cu F N hw hKb hSb (ps_ix F row place) t b ht0 hb0 hix31 htw htb (ps_mc N (K 5)) (ps_ms N (K 5)) (fun _ _ => ⟨Nat.le_refl _, Nat.le_refl _⟩)) (ps_cwV ps_gd 2 hts tw_184 k_PS_remember e_PS_remember ⟨Nat.le_of_ble_eq_true rfl, Nat.le_of_ble_eq_true rfl⟩) hK hP hD [0, 1, 2, 3, 4, 5, 6, 7, 8, 9, 10, 11, 12, 13, 14, 15, 16, 17, 18, 19, 20, 21, 22, 23, 24, 25, 26, 27, 28, 29, 30, 31, 32, 33, 34, 35, 36, 37, 38, 39] (by decide) rfl 0 cPS rfl rfl rfl hl.1 rfl (Nat.le_of_ble_eq_true rfl) d_PS_set_29 ⟨by show 0 + 0 + 0 + ps_mc N (K 5) ≤ mc; omega, by show 0 + 0 + 0 + ps_ms N (K 5) ≤ ms; omega⟩) (fun r_9 u_8 H locs hu_8 hP hD hS => ?_)
            obtain ⟨q_10, hr_9, vu_8⟩ := (hu_8.y hmu).n hfull
            subst hr_9
            subst vu_8
            have hP : va_P (dC, dI) classes (pw cI a q_10 (va_up K 5 (K 5 + 1)) S ck cu (va_up (va_up (va_up (va_up F 12 (upd (F 12) (K 5) (nI 1))) 13 (upd (F 13) (K 5) (nI (ps_ix F row place)))) 14 (upd (F 14) (K 5) (F 2 (ps_ix F row place)))) 15 (upd (F 15) (K 5) (if F 2 (ps_ix F row place) = 0 then 0 else F 3 (ps_ix F row place)))) (va_up (va_up (va_up (va_up N 12 (ps_len 40000 (N 12) (K 5))) 13 (ps_len 40000 (N 13) (K 5))) 14 (ps_len 40000 (N 14) (K 5))) 15 (ps_len 40000 (N 15) (K 5)))) H := hP
            have hD : va_D A (pw cI a q_10 (va_up K 5 (K 5 + 1)) S ck cu (va_up (va_up (va_up (va_up F 12 (upd (F 12) (K 5) (nI 1))) 13 (upd (F 13) (K 5) (nI (ps_ix F row place)))) 14 (upd (F 14) (K 5) (F 2 (ps_ix F row place)))) 15 (upd (F 15) (K 5) (if F 2 (ps_ix F row place) = 0 then 0 else F 3 (ps_ix F row place)))) (va_up (va_up (va_up (va_up N 12 (ps_len 40000 (N 12) (K 5))) 13 (ps_len 40000 (N 13) (K 5))) 14 (ps_len 40000 (N 14) (K 5))) 15 (ps_len 40000 (N 15) (K 5)))) := hD
            refine lv_if_ne (tgt := 38) hx hb d_PS_set_32 (by decide) (fun c_11 => ?_) (fun c_11 => ?_)
            · refine lv_aload_n hx hb d_PS_set_38 rfl (lv_at hl 1 rfl) ?_
              refine va_get (D := (dC, dI)) (ci := cPS) (v := .ref (a 3)) (C := R_PS) (T := F_PS) (N := 10) hx hb hts i_PS hown hK hP 0 rfl rfl 4 (by decide) (hts _ tw_103) (fun _ h9 => h9) rfl d_PS_set_39 ?_
              refine lv_iload hx hb d_PS_set_42 (lv_at hl 0 rfl) ?_
              refine lv_iload_n hx hb d_PS_set_44 rfl (lv_at hl 4 rfl) ?_
              refine lv_iload hx hb d_PS_set_45 (lv_at hl 5 rfl) ?_
              have hilim : ps_ix F row place < 32768 := by omega
              have hw9 := ps_wf_m (o := nI 1) (i := ps_ix F row place) (v := F 2 (ps_ix F row place)) (w := F 3 (ps_ix F row place)) hw (show K 5 < 40000 by omega)
              refine ps_afterV (wc := [(a 3, .inr (cVal, [.ref (a 10), .ref (a 11)])), (a 10, .inr (cCol, [.int (nI 32768), .ref (q_10 2)])), (q_10 2, .inl (cI, N 2, .inl (F 2))), (a 11, .inr (cCol, [.int (nI 32768), .ref (q_10 3)])), (q_10 3, .inl (cI, N 3, .inl (F 3)))]) (wr := [0, 1, 2, 4, 5, 6, 7, 8, 9, 10, 11, 16, 17, 18, 19, 20, 21, 22, 23, 24, 25, 26, 27, 28, 29, 30, 31, 32, 33, 34, 35, 36, 37, 38, 39].filterMap (fun z9 => ((pw cI a q_10 (va_up K 5 (K 5 + 1)) S ck cu (va_up (va_up (va_up (va_up F 12 (upd (F 12) (K 5) (nI 1))) 13 (upd (F 13) (K 5) (nI (ps_ix F row place)))) 14 (upd (F 14) (K 5) (F 2 (ps_ix F row place)))) 15 (upd (F 15) (K 5) (if F 2 (ps_ix F row place) = 0 then 0 else F 3 (ps_ix F row place)))) (va_up (va_up (va_up (va_up N 12 (ps_len 40000 (N 12) (K 5))) 13 (ps_len 40000 (N 13) (K 5))) 14 (ps_len 40000 (N 14) (K 5))) 15 (ps_len 40000 (N 15) (K 5)))) : va_W)[z9]?)) hP hD hS hA [3, 12, 13, 14, 15] [0, 1, 2, 4, 5, 6, 7, 8, 9, 10, 11, 16, 17, 18, 19, 20, 21, 22, 23, 24, 25, 26, 27, 28, 29, 30, 31, 32, 33, 34, 35, 36, 37, 38, 39] rfl rfl (by decide) (by decide) (ps_runVV ⟨hx, hb, hml, hown, hts⟩ (c_vwrite l dC dI cI tys ht (a 3) (a 10) (q_10 2) (a 11) (q_10 3) 32768 (N 2) (N 3) (F 2) (F 3) (ps_ix F row place) kind number (hw.z 2 (by decide)) (hw.z 3 (by decide)) (by decide) (hw 2 (by decide)).2 (hw 3 (by decide)).2 hilim) (ps_cwV ps_gd 3 hts tw_159 k_Val_write e_Val_write ⟨Nat.le_of_ble_eq_true rfl, Nat.le_of_ble_eq_true rfl⟩) hK hP hD [3, 12, 13, 14, 15] (by decide) rfl 0 cVal rfl rfl rfl hl.1 rfl (Nat.le_of_ble_eq_true rfl) d_PS_set_47 ⟨by show 0 + 0 + 0 + ps_mc N (K 5) + ps_vc 32768 N 2 (ps_ix F row place) ≤ mc; omega, by show 0 + 0 + 0 + ps_ms N (K 5) + ps_vs 32768 N 2 (ps_ix F row place) ≤ ms; omega⟩) (fun u_12 H locs hu_12 hP hD hS => ?_)
              obtain ⟨q_14, q_15, hu_12⟩ := hu_12
              subst hu_12
              obtain ⟨hP, hD⟩ := ps_perm (ws' := (pw cI a (va_up (va_up q_10 2 q_14) 3 q_15) (va_up K 5 (K 5 + 1)) S ck cu (va_up (va_up (va_up (va_up (va_up (va_up F 12 (upd (F 12) (K 5) (nI 1))) 13 (upd (F 13) (K 5) (nI (ps_ix F row place)))) 14 (upd (F 14) (K 5) (F 2 (ps_ix F row place)))) 15 (upd (F 15) (K 5) (if F 2 (ps_ix F row place) = 0 then 0 else F 3 (ps_ix F row place)))) 2 (upd (F 2) (ps_ix F row place) kind)) 3 (upd (F 3) (ps_ix F row place) (if kind = 0 then 0 else number))) (va_up (va_up (va_up (va_up (va_up (va_up N 12 (ps_len 40000 (N 12) (K 5))) 13 (ps_len 40000 (N 13) (K 5))) 14 (ps_len 40000 (N 14) (K 5))) 15 (ps_len 40000 (N 15) (K 5))) 2 (ps_len 32768 (N 2) (ps_ix F row place))) 3 (ps_len 32768 (N 3) (ps_ix F row place))))) hP hD [0, 1, 2, 35, 3, 4, 5, 6, 7, 8, 9, 10, 36, 37, 38, 39, 11, 12, 13, 14, 15, 16, 17, 18, 19, 20, 21, 22, 23, 24, 25, 26, 27, 28, 29, 30, 31, 32, 33, 34] (by decide) rfl
              refine lv_iconst (v := 1) hx hb d_PS_set_50 (by decide) ?_
              exact ps_iret hx hb hr hlocks hK hP hD hS (by show 0 + 0 + 0 + ps_mc N (K 5) + ps_vc 32768 N 2 (ps_ix F row place) ≤ mc; omega) (by show 0 + 0 + 0 + ps_ms N (K 5) + ps_vs 32768 N 2 (ps_ix F row place) ≤ ms; omega) d_PS_set_51 (ps_cy ⟨hcr_1, c_4⟩ (ps_cy hmu (ps_cn hfull ⟨(va_up (va_up q_10 2 q_14) 3 q_15), rfl, rfl⟩)))
            · exact absurd c_11 (by decide)
        · have hpay := hm2 ⟨hcr_1, c_4⟩ hmu
          refine ps_afterI (wc := (pw cI a q K S ck cu F N)) (wr := []) hP hD hS hA [0, 1, 2, 3, 4, 5, 6, 7, 8, 9, 10, 11, 12, 13, 14, 15, 16, 17, 18, 19, 20, 21, 22, 23, 24, 25, 26, 27, 28, 29, 30, 31, 32, 33, 34, 35, 36, 37, 38, 39] [] rfl rfl (by decide) (by decide) (ps_runVI ⟨hx, hb, hml, hown, hts⟩ (c_rem1 l dC dI cI tys ht a q K S ck cu F N hw hKb hSb (ps_ix F row place) t b ht0 hb0 hix31 htw htb 0 0 (fun q => absurd q hmu)) (ps_cwV ps_gd 2 hts tw_184 k_PS_remember e_PS_remember ⟨Nat.le_of_ble_eq_true rfl, Nat.le_of_ble_eq_true rfl⟩) hK hP hD [0, 1, 2, 3, 4, 5, 6, 7, 8, 9, 10, 11, 12, 13, 14, 15, 16, 17, 18, 19, 20, 21, 22, 23, 24, 25, 26, 27, 28, 29, 30, 31, 32, 33, 34, 35, 36, 37, 38, 39] (by decide) rfl 0 cPS rfl rfl rfl hl.1 rfl (Nat.le_of_ble_eq_true rfl) d_PS_set_29 ⟨by show 0 + 0 + 0 + 0 ≤ mc; omega, by show 0 + 0 + 0 + 0 ≤ ms; omega⟩) (fun r_17 u_16 H locs hu_16 hP hD hS => ?_)
          obtain ⟨hr_17, vu_16⟩ := hu_16.n hmu
          subst hr_17
          subst vu_16
          have hP : va_P (dC, dI) classes (pw cI a q K S ck cu F N) H := hP
          have hD : va_D A (pw cI a q K S ck cu F N) := hD
          refine lv_if_ne (tgt := 38) hx hb d_PS_set_32 (by decide) (fun c_18 => ?_) (fun c_18 => ?_)
          · refine lv_aload_n hx hb d_PS_set_38 rfl (lv_at hl 1 rfl) ?_
            refine va_get (D := (dC, dI)) (ci := cPS) (v := .ref (a 3)) (C := R_PS) (T := F_PS) (N := 10) hx hb hts i_PS hown hK hP 0 rfl rfl 4 (by decide) (hts _ tw_103) (fun _ h9 => h9) rfl d_PS_set_39 ?_
            refine lv_iload hx hb d_PS_set_42 (lv_at hl 0 rfl) ?_
            refine lv_iload_n hx hb d_PS_set_44 rfl (lv_at hl 4 rfl) ?_
            refine lv_iload hx hb d_PS_set_45 (lv_at hl 5 rfl) ?_
            have hilim : ps_ix F row place < 32768 := by omega
            refine ps_afterV (wc := [(a 3, .inr (cVal, [.ref (a 10), .ref (a 11)])), (a 10, .inr (cCol, [.int (nI 32768), .ref (q 2)])), (q 2, .inl (cI, N 2, .inl (F 2))), (a 11, .inr (cCol, [.int (nI 32768), .ref (q 3)])), (q 3, .inl (cI, N 3, .inl (F 3)))]) (wr := [0, 1, 2, 4, 5, 6, 7, 8, 9, 10, 11, 16, 17, 18, 19, 20, 21, 22, 23, 24, 25, 26, 27, 28, 29, 30, 31, 32, 33, 34, 35, 36, 37, 38, 39].filterMap (fun z9 => ((pw cI a q K S ck cu F N) : va_W)[z9]?)) hP hD hS hA [3, 12, 13, 14, 15] [0, 1, 2, 4, 5, 6, 7, 8, 9, 10, 11, 16, 17, 18, 19, 20, 21, 22, 23, 24, 25, 26, 27, 28, 29, 30, 31, 32, 33, 34, 35, 36, 37, 38, 39] rfl rfl (by decide) (by decide) (ps_runVV ⟨hx, hb, hml, hown, hts⟩ (c_vwrite l dC dI cI tys ht (a 3) (a 10) (q 2) (a 11) (q 3) 32768 (N 2) (N 3) (F 2) (F 3) (ps_ix F row place) kind number (hw.z 2 (by decide)) (hw.z 3 (by decide)) (by decide) (hw 2 (by decide)).2 (hw 3 (by decide)).2 hilim) (ps_cwV ps_gd 3 hts tw_159 k_Val_write e_Val_write ⟨Nat.le_of_ble_eq_true rfl, Nat.le_of_ble_eq_true rfl⟩) hK hP hD [3, 12, 13, 14, 15] (by decide) rfl 0 cVal rfl rfl rfl hl.1 rfl (Nat.le_of_ble_eq_true rfl) d_PS_set_47 ⟨by show 0 + 0 + 0 + 0 + ps_vc 32768 N 2 (ps_ix F row place) ≤ mc; omega, by show 0 + 0 + 0 + 0 + ps_vs 32768 N 2 (ps_ix F row place) ≤ ms; omega⟩) (fun u_19 H locs hu_19 hP hD hS => ?_)
            obtain ⟨q_21, q_22, hu_19⟩ := hu_19
            subst hu_19
            obtain ⟨hP, hD⟩ := ps_perm (ws' := (pw cI a (va_up (va_up q 2 q_21) 3 q_22) K S ck cu (va_up (va_up F 2 (upd (F 2) (ps_ix F row place) kind)) 3 (upd (F 3) (ps_ix F row place) (if kind = 0 then 0 else number))) (va_up (va_up N 2 (ps_len 32768 (N 2) (ps_ix F row place))) 3 (ps_len 32768 (N 3) (ps_ix F row place))))) hP hD [0, 1, 2, 35, 3, 4, 5, 6, 7, 8, 9, 10, 36, 37, 38, 39, 11, 12, 13, 14, 15, 16, 17, 18, 19, 20, 21, 22, 23, 24, 25, 26, 27, 28, 29, 30, 31, 32, 33, 34] (by decide) rfl
            refine lv_iconst (v := 1) hx hb d_PS_set_50 (by decide) ?_
            exact ps_iret hx hb hr hlocks hK hP hD hS (by show 0 + 0 + 0 + 0 + ps_vc 32768 N 2 (ps_ix F row place) ≤ mc; omega) (by show 0 + 0 + 0 + 0 + ps_vs 32768 N 2 (ps_ix F row place) ≤ ms; omega) d_PS_set_51 (ps_cy ⟨hcr_1, c_4⟩ (ps_cn hmu ⟨(va_up (va_up q 2 q_21) 3 q_22), rfl, rfl⟩))
          · exact absurd c_18 (by decide)
      · have c_4 := ps_ite0 c_4
        refine lv_iconst (v := (-1)) hx hb d_PS_set_23 (by decide) ?_
        exact ps_iret hx hb hr hlocks hK hP hD hS (Nat.zero_le _) (Nat.zero_le _) d_PS_set_24 (ps_cn (fun q => c_4 q.2) ⟨rfl, rfl⟩)
  · subst hr_1
    refine lv_istore (lv' := [(5, .int (-1)), (0, .ref (a 0)), (1, .int row), (2, .int place), (3, .int kind), (4, .int number)]) hx hb d_PS_set_7 hl (by decide) rfl (fun ls hl => ?_)
    refine lv_iload hx hb d_PS_set_9 (lv_at hl 0 rfl) ?_
    refine lv_iconst (v := (-1)) hx hb d_PS_set_11 (by decide) ?_
    refine lv_icmp_eq (tgt := 23) hx hb d_PS_set_12 (by decide) (fun c_23 => ?_) (fun c_23 => ?_)
    · refine lv_iconst (v := (-1)) hx hb d_PS_set_23 (by decide) ?_
      exact ps_iret hx hb hr hlocks hK hP hD hS (Nat.zero_le _) (Nat.zero_le _) d_PS_set_24 (ps_cn (fun q => hcr_1 q.1) ⟨rfl, rfl⟩)
    · exact absurd rfl c_23

set_option maxHeartbeats 4000000 in
set_option maxRecDepth 100000 in
/-- PageStore.count -/
theorem c_count (l : Launch) (dC : Nat → ClassId) (dI : Nat → Nat → Nat) (cI : ClassId) (tys : List (ClassId × FieldType)) (ht : tys[0]? = some (cI, FieldType.int)) (a q K : Nat → Nat) (S : Nat) (ck cu : Int32) (F : Nat → Nat → Int32) (N : Nat → Nat) (hw : ps_wf F N) (hKb : ∀ j, K j ≤ 65536) (hSb : S ≤ 15) (d : Int32) : ps_mI classes l y_PS_count w_PS_count ({ frames := 3, cells := 0, slots := 0, locals := 67 }) (dC, dI) tys [.ref (a 0), .int d] (pw cI a q K S ck cu F N) (fun r u => u = pw cI a q K S ck cu F N ∧ ps_c (nI 1 ≤ d ∧ d ≤ nI (K 3)) (r = nI (ps_cnt (fun j => decide (F 7 j = d ∧ ¬ F 10 j = -1)) (K 4))) (r = -1)) := by
  refine ps_mI_of (by decide) rfl (Nat.le_of_ble_eq_true rfl) ?_
  intro p e s m below meth c A ls C0 hA hK hP hD hS hl
  obtain ⟨hx, hb, hr, hml, hts, hown, hlocks, hin⟩ := C0
  have hl : lv_has ls 2 [(0, .ref (a 0)), (1, .int d)] := hl
  have hP : va_P (dC, dI) classes (pw cI a q K S ck cu F N) s.heap := hP
  have hD : va_D A (pw cI a q K S ck cu F N) := hD
  refine lv_aload_n hx hb d_PS_count_0 rfl (lv_at hl 0 rfl) ?_
  refine lv_iload_n hx hb d_PS_count_1 rfl (lv_at hl 1 rfl) ?_
  refine ps_readI (wc := (pw cI a q K S ck cu F N)) hP hD hS hA [0, 1, 2, 3, 4, 5, 6, 7, 8, 9, 10, 11, 12, 13, 14, 15, 16, 17, 18, 19, 20, 21, 22, 23, 24, 25, 26, 27, 28, 29, 30, 31, 32, 33, 34, 35, 36, 37, 38, 39] rfl (fun _ _ h => h.1) (ps_runVI ⟨hx, hb, hml, hown, hts⟩ (c_isDic l dC dI cI tys ht a q K S ck cu F N hw hKb hSb d) (ps_cwV ps_gd 1 hts tw_99 k_PS_isDictionary e_PS_isDictionary ⟨Nat.le_of_ble_eq_true rfl, Nat.le_of_ble_eq_true rfl⟩) hK hP hD [0, 1, 2, 3, 4, 5, 6, 7, 8, 9, 10, 11, 12, 13, 14, 15, 16, 17, 18, 19, 20, 21, 22, 23, 24, 25, 26, 27, 28, 29, 30, 31, 32, 33, 34, 35, 36, 37, 38, 39] (by decide) rfl 0 cPS rfl rfl rfl hl.1 rfl (Nat.le_of_ble_eq_true rfl) d_PS_count_2 ⟨Nat.zero_le _, Nat.zero_le _⟩) (fun r_1 H locs hr_1 hP hS => ?_)
  obtain ⟨-, hr_1⟩ := hr_1
  subst hr_1
  refine lv_if_eq (tgt := 25) hx hb d_PS_count_5 (by decide) (fun c_2 => ?_) (fun c_2 => ?_)
  · have c_2 := ps_ite0 c_2
    refine lv_iconst (v := (-1)) hx hb d_PS_count_25 (by decide) ?_
    exact ps_iret hx hb hr hlocks hK hP hD hS (Nat.le_of_ble_eq_true rfl) (Nat.le_of_ble_eq_true rfl) d_PS_count_26 (⟨rfl, ps_cn c_2 rfl⟩)
  · have c_2 := ps_ite1 c_2
    refine lv_aload_n hx hb d_PS_count_8 rfl (lv_at hl 0 rfl) ?_
    refine va_get (D := (dC, dI)) (ci := cPS) (v := .ref (a 4)) (C := R_PS) (T := F_PS) (N := 10) hx hb hts i_PS hown hK hP 0 rfl rfl 6 (by decide) (hts _ tw_104) (fun _ h9 => h9) rfl d_PS_count_9 ?_
    refine lv_iload_n hx hb d_PS_count_12 rfl (lv_at hl 1 rfl) ?_
    refine lv_aload_n hx hb d_PS_count_13 rfl (lv_at hl 0 rfl) ?_
    refine va_get (D := (dC, dI)) (ci := cPS) (v := .ref (a 1)) (C := R_PS) (T := F_PS) (N := 10) hx hb hts i_PS hown hK hP 0 rfl rfl 0 (by decide) (hts _ tw_97) (fun _ h9 => h9) rfl d_PS_count_14 ?_
    refine lv_iconst (v := nI 4) hx hb d_PS_count_17 (by decide) ?_
    refine va_iald hx hb hK hP 1 0 rfl ht (vp_in_nI (show 4 < 6 by decide) (by decide)) d_PS_count_18 ?_
    refine ps_top (z := nI (K 4)) (ps_kat _ 4 (by decide)) ?_
    refine ps_readI (wc := [(a 4, .inr (cKey, [.ref (a 15), .ref (a 16), .ref (a 17), .ref (a 5)])), (a 15, .inr (cCol, [.int (nI 16384), .ref (q 7)])), (q 7, .inl (cI, N 7, .inl (F 7))), (a 16, .inr (cCol, [.int (nI 16384), .ref (q 8)])), (q 8, .inl (cI, N 8, .inl (F 8))), (a 17, .inr (cCol, [.int (nI 16384), .ref (q 9)])), (q 9, .inl (cI, N 9, .inl (F 9))), (a 5, .inr (cVal, [.ref (a 18), .ref (a 19)])), (a 18, .inr (cCol, [.int (nI 16384), .ref (q 10)])), (q 10, .inl (cI, N 10, .inl (F 10)))]) hP hD hS hA [4, 22, 23, 24, 25, 26, 27, 5, 28, 29] rfl (fun _ _ h => h.1) (ps_runVI ⟨hx, hb, hml, hown, hts⟩ (c_khow l dC dI cI tys ht (a 4) (a 5) (a 15) (q 7) (a 16) (q 8) (a 17) (q 9) (a 18) (q 10) (a 19) 16384 (N 7) (N 8) (N 9) (N 10) (F 7) (F 8) (F 9) (F 10) d (K 4) (hw.z 7 (by decide)) (hw.z 8 (by decide)) (hw.z 9 (by decide)) (hw.z 10 (by decide)) (hw.n 7 (by decide)) (hw.n 8 (by decide)) (hw.n 9 (by decide)) (hw.n 10 (by decide)) (by have b4 := hKb 4; omega)) (ps_cwV ps_gd 2 hts tw_185 k_Key_howManyThere e_Key_howManyThere ⟨Nat.le_of_ble_eq_true rfl, Nat.le_of_ble_eq_true rfl⟩) hK hP hD [4, 22, 23, 24, 25, 26, 27, 5, 28, 29] (by decide) rfl 0 cKey rfl rfl rfl hl.1 rfl (Nat.le_of_ble_eq_true rfl) d_PS_count_19 ⟨Nat.zero_le _, Nat.zero_le _⟩) (fun r_3 H locs hr_3 hP hS => ?_)
    obtain ⟨-, hr_3⟩ := hr_3
    subst hr_3
    refine lv_goto (tgt := 26) hx hb d_PS_count_22 (by decide) ?_
    exact ps_iret hx hb hr hlocks hK hP hD hS (Nat.le_of_ble_eq_true rfl) (Nat.le_of_ble_eq_true rfl) d_PS_count_26 (⟨rfl, ps_cy c_2 rfl⟩)

set_option maxHeartbeats 4000000 in
set_option maxRecDepth 100000 in
/-- PageStore.find -/
theorem c_find (l : Launch) (dC : Nat → ClassId) (dI : Nat → Nat → Nat) (cI : ClassId) (tys : List (ClassId × FieldType)) (ht : tys[0]? = some (cI, FieldType.int)) (a q K : Nat → Nat) (S : Nat) (ck cu : Int32) (F : Nat → Nat → Int32) (N : Nat → Nat) (hw : ps_wf F N) (hKb : ∀ j, K j ≤ 65536) (hSb : S ≤ 15) (d kk key : Int32) : ps_mI classes l y_PS_find w_PS_find ({ frames := 3, cells := 0, slots := 0, locals := 71 }) (dC, dI) tys [.ref (a 0), .int d, .int kk, .int key] (pw cI a q K S ck cu F N) (fun r u => u = pw cI a q K S ck cu F N ∧ ps_c ((nI 1 ≤ d ∧ d ≤ nI (K 3)) ∧ (nI 1 ≤ kk ∧ kk ≤ nI 15)) ((ps_not (fun j => F 9 j = key ∧ F 8 j = kk ∧ F 7 j = d) 0 (K 4) ∧ r = -2) ∨ (∃ j : Nat, j < K 4 ∧ (fun j => F 9 j = key ∧ F 8 j = kk ∧ F 7 j = d) j ∧ ps_not (fun j => F 9 j = key ∧ F 8 j = kk ∧ F 7 j = d) 0 j ∧ ps_c (F 10 j = -1) (r = -2) (r = F 10 j))) (r = -1)) := by
  refine ps_mI_of (by decide) rfl (Nat.le_of_ble_eq_true rfl) ?_
  intro p e s m below meth c A ls C0 hA hK hP hD hS hl
  obtain ⟨hx, hb, hr, hml, hts, hown, hlocks, hin⟩ := C0
  have hl : lv_has ls 5 [(0, .ref (a 0)), (1, .int d), (2, .int kk), (3, .int key)] := hl
  have hP : va_P (dC, dI) classes (pw cI a q K S ck cu F N) s.heap := hP
  have hD : va_D A (pw cI a q K S ck cu F N) := hD
  refine lv_aload_n hx hb d_PS_find_0 rfl (lv_at hl 0 rfl) ?_
  refine lv_iload_n hx hb d_PS_find_1 rfl (lv_at hl 1 rfl) ?_
  refine lv_iload_n hx hb d_PS_find_2 rfl (lv_at hl 2 rfl) ?_
  refine ps_readI (wc := (pw cI a q K S ck cu F N)) hP hD hS hA [0, 1, 2, 3, 4, 5, 6, 7, 8, 9, 10, 11, 12, 13, 14, 15, 16, 17, 18, 19, 20, 21, 22, 23, 24, 25, 26, 27, 28, 29, 30, 31, 32, 33, 34, 35, 36, 37, 38, 39] rfl (fun _ _ h => h.1) (ps_runVI ⟨hx, hb, hml, hown, hts⟩ (c_isKP l dC dI cI tys ht a q K S ck cu F N hw hKb hSb d kk) (ps_cwV ps_gd 2 hts tw_186 k_PS_isKeyPossible e_PS_isKeyPossible ⟨Nat.le_of_ble_eq_true rfl, Nat.le_of_ble_eq_true rfl⟩) hK hP hD [0, 1, 2, 3, 4, 5, 6, 7, 8, 9, 10, 11, 12, 13, 14, 15, 16, 17, 18, 19, 20, 21, 22, 23, 24, 25, 26, 27, 28, 29, 30, 31, 32, 33, 34, 35, 36, 37, 38, 39] (by decide) rfl 0 cPS rfl rfl rfl hl.1 rfl (Nat.le_of_ble_eq_true rfl) d_PS_find_3 ⟨Nat.zero_le _, Nat.zero_le _⟩) (fun r_1 H locs hr_1 hP hS => ?_)
  obtain ⟨-, hr_1⟩ := hr_1
  subst hr_1
  refine lv_if_ne (tgt := 11) hx hb d_PS_find_6 (by decide) (fun c_2 => ?_) (fun c_2 => ?_)
  · have c_2 := ps_ite1 c_2
    refine lv_aload_n hx hb d_PS_find_11 rfl (lv_at hl 0 rfl) ?_
    refine va_get (D := (dC, dI)) (ci := cPS) (v := .ref (a 4)) (C := R_PS) (T := F_PS) (N := 10) hx hb hts i_PS hown hK hP 0 rfl rfl 6 (by decide) (hts _ tw_104) (fun _ h9 => h9) rfl d_PS_find_12 ?_
    refine lv_iload_n hx hb d_PS_find_15 rfl (lv_at hl 1 rfl) ?_
    refine lv_iload_n hx hb d_PS_find_16 rfl (lv_at hl 2 rfl) ?_
    refine lv_iload_n hx hb d_PS_find_17 rfl (lv_at hl 3 rfl) ?_
    refine lv_aload_n hx hb d_PS_find_18 rfl (lv_at hl 0 rfl) ?_
    refine va_get (D := (dC, dI)) (ci := cPS) (v := .ref (a 1)) (C := R_PS) (T := F_PS) (N := 10) hx hb hts i_PS hown hK hP 0 rfl rfl 0 (by decide) (hts _ tw_97) (fun _ h9 => h9) rfl d_PS_find_19 ?_
    refine lv_iconst (v := nI 4) hx hb d_PS_find_22 (by decide) ?_
    refine va_iald hx hb hK hP 1 0 rfl ht (vp_in_nI (show 4 < 6 by decide) (by decide)) d_PS_find_23 ?_
    refine ps_top (z := nI (K 4)) (ps_kat _ 4 (by decide)) ?_
    refine ps_readI (wc := [(a 4, .inr (cKey, [.ref (a 15), .ref (a 16), .ref (a 17), .ref (a 5)])), (a 15, .inr (cCol, [.int (nI 16384), .ref (q 7)])), (q 7, .inl (cI, N 7, .inl (F 7))), (a 16, .inr (cCol, [.int (nI 16384), .ref (q 8)])), (q 8, .inl (cI, N 8, .inl (F 8))), (a 17, .inr (cCol, [.int (nI 16384), .ref (q 9)])), (q 9, .inl (cI, N 9, .inl (F 9))), (a 5, .inr (cVal, [.ref (a 18), .ref (a 19)])), (a 18, .inr (cCol, [.int (nI 16384), .ref (q 10)])), (q 10, .inl (cI, N 10, .inl (F 10)))]) hP hD hS hA [4, 22, 23, 24, 25, 26, 27, 5, 28, 29] rfl (fun _ _ h => h.1) (ps_runVI ⟨hx, hb, hml, hown, hts⟩ (c_kift l dC dI cI tys ht (a 4) (a 5) (a 15) (q 7) (a 16) (q 8) (a 17) (q 9) (a 18) (q 10) (a 19) 16384 (N 7) (N 8) (N 9) (N 10) (F 7) (F 8) (F 9) (F 10) d kk key (K 4) (hw.z 7 (by decide)) (hw.z 8 (by decide)) (hw.z 9 (by decide)) (hw.z 10 (by decide)) (hw.n 7 (by decide)) (hw.n 8 (by decide)) (hw.n 9 (by decide)) (hw.n 10 (by decide)) (by have b4 := hKb 4; omega)) (ps_cwV ps_gd 4 hts tw_187 k_Key_indexIfThere e_Key_indexIfThere ⟨Nat.le_of_ble_eq_true rfl, Nat.le_of_ble_eq_true rfl⟩) hK hP hD [4, 22, 23, 24, 25, 26, 27, 5, 28, 29] (by decide) rfl 0 cKey rfl rfl rfl hl.1 rfl (Nat.le_of_ble_eq_true rfl) d_PS_find_24 ⟨Nat.zero_le _, Nat.zero_le _⟩) (fun r_3 H locs hr_3 hP hS => ?_)
    obtain ⟨-, hr_3⟩ := hr_3
    rcases ps_ift (M := (fun j => F 9 j = key ∧ F 8 j = kk ∧ F 7 j = d)) (by have b4 := hKb 4; omega) (fun j q => q.2.2) hr_3 with ⟨hnone, hr_3⟩ | ⟨j, hj, hjm, hjn, ⟨hgone, hr_3⟩ | ⟨hgone, hr_3⟩⟩
    · subst hr_3
      refine lv_istore (lv' := [(4, .int (-1)), (0, .ref (a 0)), (1, .int d), (2, .int kk), (3, .int key)]) hx hb d_PS_find_27 hl (by decide) rfl (fun ls hl => ?_)
      refine lv_iload hx hb d_PS_find_29 (lv_at hl 0 rfl) ?_
      refine lv_iconst (v := (-1)) hx hb d_PS_find_31 (by decide) ?_
      refine lv_icmp_ne (tgt := 40) hx hb d_PS_find_32 (by decide) (fun c_4 => ?_) (fun c_4 => ?_)
      · exact absurd rfl c_4
      · refine lv_bipush (v := (-2)) hx hb d_PS_find_35 (by decide) ?_
        refine lv_goto (tgt := 55) hx hb d_PS_find_37 (by decide) ?_
        exact ps_iret hx hb hr hlocks hK hP hD hS (Nat.le_of_ble_eq_true rfl) (Nat.le_of_ble_eq_true rfl) d_PS_find_55 (⟨rfl, ps_cy c_2 (Or.inl ⟨hnone, rfl⟩)⟩)
    · subst hr_3
      refine lv_istore (lv' := [(4, .int (-1)), (0, .ref (a 0)), (1, .int d), (2, .int kk), (3, .int key)]) hx hb d_PS_find_27 hl (by decide) rfl (fun ls hl => ?_)
      refine lv_iload hx hb d_PS_find_29 (lv_at hl 0 rfl) ?_
      refine lv_iconst (v := (-1)) hx hb d_PS_find_31 (by decide) ?_
      refine lv_icmp_ne (tgt := 40) hx hb d_PS_find_32 (by decide) (fun c_5 => ?_) (fun c_5 => ?_)
      · exact absurd rfl c_5
      · refine lv_bipush (v := (-2)) hx hb d_PS_find_35 (by decide) ?_
        refine lv_goto (tgt := 55) hx hb d_PS_find_37 (by decide) ?_
        exact ps_iret hx hb hr hlocks hK hP hD hS (Nat.le_of_ble_eq_true rfl) (Nat.le_of_ble_eq_true rfl) d_PS_find_55 (⟨rfl, ps_cy c_2 (Or.inr ⟨j, hj, hjm, hjn, ps_cy hgone rfl⟩)⟩)
    · subst hr_3
      have hj31 : j < 2 ^ 31 := by have b4 := hKb 4; omega
      refine lv_istore (lv' := [(4, .int (nI j)), (0, .ref (a 0)), (1, .int d), (2, .int kk), (3, .int key)]) hx hb d_PS_find_27 hl (by decide) rfl (fun ls hl => ?_)
      refine lv_iload hx hb d_PS_find_29 (lv_at hl 0 rfl) ?_
      refine lv_iconst (v := (-1)) hx hb d_PS_find_31 (by decide) ?_
      refine lv_icmp_ne (tgt := 40) hx hb d_PS_find_32 (by decide) (fun c_6 => ?_) (fun c_6 => ?_)
      · refine lv_aload_n hx hb d_PS_find_40 rfl (lv_at hl 1 rfl) ?_
        refine va_get (D := (dC, dI)) (ci := cPS) (v := .ref (a 4)) (C := R_PS) (T := F_PS) (N := 10) hx hb hts i_PS hown hK hP 0 rfl rfl 6 (by decide) (hts _ tw_104) (fun _ h9 => h9) rfl d_PS_find_41 ?_
        refine va_get (D := (dC, dI)) (ci := cKey) (v := .ref (a 5)) (C := R_Key) (T := F_Key) (N := 4) hx hb hts i_Key hown hK hP 4 rfl rfl 3 (by decide) (hts _ tw_105) (fun _ h9 => h9) rfl d_PS_find_44 ?_
        refine va_get (D := (dC, dI)) (ci := cVal) (v := .ref (a 18)) (C := R_Val) (T := F_Val) (N := 2) hx hb hts i_Val hown hK hP 5 rfl rfl 0 (by decide) (hts _ tw_143) (fun _ h9 => h9) rfl d_PS_find_47 ?_
        refine lv_iload hx hb d_PS_find_50 (lv_at hl 0 rfl) ?_
        refine ps_readI (wc := [(a 18, .inr (cCol, [.int (nI 16384), .ref (q 10)])), (q 10, .inl (cI, N 10, .inl (F 10)))]) hP hD hS hA [28, 29] rfl (fun _ _ h => h.1) (ps_runVI ⟨hx, hb, hml, hown, hts⟩ (c_at l dC dI cI tys ht (a 18) (q 10) 16384 (N 10) (F 10) j (hw.z 10 (by decide)) (hw.n 10 (by decide)) hj31) (ps_cwV ps_gd 1 hts tw_102 k_Col_at e_Col_at ⟨Nat.le_of_ble_eq_true rfl, Nat.le_of_ble_eq_true rfl⟩) hK hP hD [28, 29] (by decide) rfl 0 cCol rfl rfl rfl hl.1 rfl (Nat.le_of_ble_eq_true rfl) d_PS_find_52 ⟨Nat.zero_le _, Nat.zero_le _⟩) (fun r_7 H locs hr_7 hP hS => ?_)
        obtain ⟨-, hr_7⟩ := hr_7
        subst hr_7
        exact ps_iret hx hb hr hlocks hK hP hD hS (Nat.le_of_ble_eq_true rfl) (Nat.le_of_ble_eq_true rfl) d_PS_find_55 (⟨rfl, ps_cy c_2 (Or.inr ⟨j, hj, hjm, hjn, ps_cn hgone rfl⟩)⟩)
      · exact absurd c_6 (ps_m1 hj31)
  · have c_2 := ps_ite0 c_2
    refine lv_iconst (v := (-1)) hx hb d_PS_find_9 (by decide) ?_
    exact ps_iret hx hb hr hlocks hK hP hD hS (Nat.le_of_ble_eq_true rfl) (Nat.le_of_ble_eq_true rfl) d_PS_find_10 (⟨rfl, ps_cn c_2 rfl⟩)

set_option maxHeartbeats 4000000 in
set_option maxRecDepth 100000 in
/-- PageStore.found -/
theorem c_found (l : Launch) (dC : Nat → ClassId) (dI : Nat → Nat → Nat) (cI : ClassId) (tys : List (ClassId × FieldType)) (ht : tys[0]? = some (cI, FieldType.int)) (a q K : Nat → Nat) (S : Nat) (ck cu : Int32) (F : Nat → Nat → Int32) (N : Nat → Nat) (hw : ps_wf F N) (hKb : ∀ j, K j ≤ 65536) (hSb : S ≤ 15) (d kk key : Int32) : ps_mI classes l y_PS_found w_PS_found ({ frames := 3, cells := 0, slots := 0, locals := 71 }) (dC, dI) tys [.ref (a 0), .int d, .int kk, .int key] (pw cI a q K S ck cu F N) (fun r u => u = pw cI a q K S ck cu F N ∧ ((ps_not (fun j => F 9 j = key ∧ F 8 j = kk ∧ F 7 j = d) 0 (K 4) ∧ r = 0) ∨ (∃ j : Nat, j < K 4 ∧ (fun j => F 9 j = key ∧ F 8 j = kk ∧ F 7 j = d) j ∧ ps_not (fun j => F 9 j = key ∧ F 8 j = kk ∧ F 7 j = d) 0 j ∧ ps_c (F 10 j = -1) (r = 0) (r = F 11 j)))) := by
  refine ps_mI_of (by decide) rfl (Nat.le_of_ble_eq_true rfl) ?_
  intro p e s m below meth c A ls C0 hA hK hP hD hS hl
  obtain ⟨hx, hb, hr, hml, hts, hown, hlocks, hin⟩ := C0
  have hl : lv_has ls 5 [(0, .ref (a 0)), (1, .int d), (2, .int kk), (3, .int key)] := hl
  have hP : va_P (dC, dI) classes (pw cI a q K S ck cu F N) s.heap := hP
  have hD : va_D A (pw cI a q K S ck cu F N) := hD
  refine lv_aload_n hx hb d_PS_found_0 rfl (lv_at hl 0 rfl) ?_
  refine va_get (D := (dC, dI)) (ci := cPS) (v := .ref (a 4)) (C := R_PS) (T := F_PS) (N := 10) hx hb hts i_PS hown hK hP 0 rfl rfl 6 (by decide) (hts _ tw_104) (fun _ h9 => h9) rfl d_PS_found_1 ?_
  refine lv_iload_n hx hb d_PS_found_4 rfl (lv_at hl 1 rfl) ?_
  refine lv_iload_n hx hb d_PS_found_5 rfl (lv_at hl 2 rfl) ?_
  refine lv_iload_n hx hb d_PS_found_6 rfl (lv_at hl 3 rfl) ?_
  refine lv_aload_n hx hb d_PS_found_7 rfl (lv_at hl 0 rfl) ?_
  refine va_get (D := (dC, dI)) (ci := cPS) (v := .ref (a 1)) (C := R_PS) (T := F_PS) (N := 10) hx hb hts i_PS hown hK hP 0 rfl rfl 0 (by decide) (hts _ tw_97) (fun _ h9 => h9) rfl d_PS_found_8 ?_
  refine lv_iconst (v := nI 4) hx hb d_PS_found_11 (by decide) ?_
  refine va_iald hx hb hK hP 1 0 rfl ht (vp_in_nI (show 4 < 6 by decide) (by decide)) d_PS_found_12 ?_
  refine ps_top (z := nI (K 4)) (ps_kat _ 4 (by decide)) ?_
  refine ps_readI (wc := [(a 4, .inr (cKey, [.ref (a 15), .ref (a 16), .ref (a 17), .ref (a 5)])), (a 15, .inr (cCol, [.int (nI 16384), .ref (q 7)])), (q 7, .inl (cI, N 7, .inl (F 7))), (a 16, .inr (cCol, [.int (nI 16384), .ref (q 8)])), (q 8, .inl (cI, N 8, .inl (F 8))), (a 17, .inr (cCol, [.int (nI 16384), .ref (q 9)])), (q 9, .inl (cI, N 9, .inl (F 9))), (a 5, .inr (cVal, [.ref (a 18), .ref (a 19)])), (a 18, .inr (cCol, [.int (nI 16384), .ref (q 10)])), (q 10, .inl (cI, N 10, .inl (F 10)))]) hP hD hS hA [4, 22, 23, 24, 25, 26, 27, 5, 28, 29] rfl (fun _ _ h => h.1) (ps_runVI ⟨hx, hb, hml, hown, hts⟩ (c_kift l dC dI cI tys ht (a 4) (a 5) (a 15) (q 7) (a 16) (q 8) (a 17) (q 9) (a 18) (q 10) (a 19) 16384 (N 7) (N 8) (N 9) (N 10) (F 7) (F 8) (F 9) (F 10) d kk key (K 4) (hw.z 7 (by decide)) (hw.z 8 (by decide)) (hw.z 9 (by decide)) (hw.z 10 (by decide)) (hw.n 7 (by decide)) (hw.n 8 (by decide)) (hw.n 9 (by decide)) (hw.n 10 (by decide)) (by have b4 := hKb 4; omega)) (ps_cwV ps_gd 4 hts tw_187 k_Key_indexIfThere e_Key_indexIfThere ⟨Nat.le_of_ble_eq_true rfl, Nat.le_of_ble_eq_true rfl⟩) hK hP hD [4, 22, 23, 24, 25, 26, 27, 5, 28, 29] (by decide) rfl 0 cKey rfl rfl rfl hl.1 rfl (Nat.le_of_ble_eq_true rfl) d_PS_found_13 ⟨Nat.zero_le _, Nat.zero_le _⟩) (fun r_1 H locs hr_1 hP hS => ?_)
  obtain ⟨-, hr_1⟩ := hr_1
  rcases ps_ift (M := (fun j => F 9 j = key ∧ F 8 j = kk ∧ F 7 j = d)) (by have b4 := hKb 4; omega) (fun j q => q.2.2) hr_1 with ⟨hnone, hr_1⟩ | ⟨j, hj, hjm, hjn, ⟨hgone, hr_1⟩ | ⟨hgone, hr_1⟩⟩
  · subst hr_1
    refine lv_istore (lv' := [(4, .int (-1)), (0, .ref (a 0)), (1, .int d), (2, .int kk), (3, .int key)]) hx hb d_PS_found_16 hl (by decide) rfl (fun ls hl => ?_)
    refine lv_iload hx hb d_PS_found_18 (lv_at hl 0 rfl) ?_
    refine lv_iconst (v := (-1)) hx hb d_PS_found_20 (by decide) ?_
    refine lv_icmp_ne (tgt := 28) hx hb d_PS_found_21 (by decide) (fun c_2 => ?_) (fun c_2 => ?_)
    · exact absurd rfl c_2
    · refine lv_iconst (v := 0) hx hb d_PS_found_24 (by decide) ?_
      refine lv_goto (tgt := 43) hx hb d_PS_found_25 (by decide) ?_
      exact ps_iret hx hb hr hlocks hK hP hD hS (Nat.le_of_ble_eq_true rfl) (Nat.le_of_ble_eq_true rfl) d_PS_found_43 (⟨rfl, Or.inl ⟨hnone, rfl⟩⟩)
  · subst hr_1
    refine lv_istore (lv' := [(4, .int (-1)), (0, .ref (a 0)), (1, .int d), (2, .int kk), (3, .int key)]) hx hb d_PS_found_16 hl (by decide) rfl (fun ls hl => ?_)
    refine lv_iload hx hb d_PS_found_18 (lv_at hl 0 rfl) ?_
    refine lv_iconst (v := (-1)) hx hb d_PS_found_20 (by decide) ?_
    refine lv_icmp_ne (tgt := 28) hx hb d_PS_found_21 (by decide) (fun c_3 => ?_) (fun c_3 => ?_)
    · exact absurd rfl c_3
    · refine lv_iconst (v := 0) hx hb d_PS_found_24 (by decide) ?_
      refine lv_goto (tgt := 43) hx hb d_PS_found_25 (by decide) ?_
      exact ps_iret hx hb hr hlocks hK hP hD hS (Nat.le_of_ble_eq_true rfl) (Nat.le_of_ble_eq_true rfl) d_PS_found_43 (⟨rfl, Or.inr ⟨j, hj, hjm, hjn, ps_cy hgone rfl⟩⟩)
  · subst hr_1
    have hj31 : j < 2 ^ 31 := by have b4 := hKb 4; omega
    refine lv_istore (lv' := [(4, .int (nI j)), (0, .ref (a 0)), (1, .int d), (2, .int kk), (3, .int key)]) hx hb d_PS_found_16 hl (by decide) rfl (fun ls hl => ?_)
    refine lv_iload hx hb d_PS_found_18 (lv_at hl 0 rfl) ?_
    refine lv_iconst (v := (-1)) hx hb d_PS_found_20 (by decide) ?_
    refine lv_icmp_ne (tgt := 28) hx hb d_PS_found_21 (by decide) (fun c_4 => ?_) (fun c_4 => ?_)
    · refine lv_aload_n hx hb d_PS_found_28 rfl (lv_at hl 1 rfl) ?_
      refine va_get (D := (dC, dI)) (ci := cPS) (v := .ref (a 4)) (C := R_PS) (T := F_PS) (N := 10) hx hb hts i_PS hown hK hP 0 rfl rfl 6 (by decide) (hts _ tw_104) (fun _ h9 => h9) rfl d_PS_found_29 ?_
      refine va_get (D := (dC, dI)) (ci := cKey) (v := .ref (a 5)) (C := R_Key) (T := F_Key) (N := 4) hx hb hts i_Key hown hK hP 4 rfl rfl 3 (by decide) (hts _ tw_105) (fun _ h9 => h9) rfl d_PS_found_32 ?_
      refine va_get (D := (dC, dI)) (ci := cVal) (v := .ref (a 19)) (C := R_Val) (T := F_Val) (N := 2) hx hb hts i_Val hown hK hP 5 rfl rfl 1 (by decide) (hts _ tw_142) (fun _ h9 => h9) rfl d_PS_found_35 ?_
      refine lv_iload hx hb d_PS_found_38 (lv_at hl 0 rfl) ?_
      refine ps_readI (wc := [(a 19, .inr (cCol, [.int (nI 16384), .ref (q 11)])), (q 11, .inl (cI, N 11, .inl (F 11)))]) hP hD hS hA [30, 31] rfl (fun _ _ h => h.1) (ps_runVI ⟨hx, hb, hml, hown, hts⟩ (c_at l dC dI cI tys ht (a 19) (q 11) 16384 (N 11) (F 11) j (hw.z 11 (by decide)) (hw.n 11 (by decide)) hj31) (ps_cwV ps_gd 1 hts tw_102 k_Col_at e_Col_at ⟨Nat.le_of_ble_eq_true rfl, Nat.le_of_ble_eq_true rfl⟩) hK hP hD [30, 31] (by decide) rfl 0 cCol rfl rfl rfl hl.1 rfl (Nat.le_of_ble_eq_true rfl) d_PS_found_40 ⟨Nat.zero_le _, Nat.zero_le _⟩) (fun r_5 H locs hr_5 hP hS => ?_)
      obtain ⟨-, hr_5⟩ := hr_5
      subst hr_5
      exact ps_iret hx hb hr hlocks hK hP hD hS (Nat.le_of_ble_eq_true rfl) (Nat.le_of_ble_eq_true rfl) d_PS_found_43 (⟨rfl, Or.inr ⟨j, hj, hjm, hjn, ps_cn hgone rfl⟩⟩)
    · exact absurd c_4 (ps_m1 hj31)

set_option maxHeartbeats 4000000 in
set_option maxRecDepth 100000 in
/-- PageStore.undefine -/
theorem c_undefine (l : Launch) (dC : Nat → ClassId) (dI : Nat → Nat → Nat) (cI : ClassId) (tys : List (ClassId × FieldType)) (ht : tys[0]? = some (cI, FieldType.int)) (a q K : Nat → Nat) (S : Nat) (ck cu : Int32) (F : Nat → Nat → Int32) (N : Nat → Nat) (hw : ps_wf F N) (hKb : ∀ j, K j ≤ 65536) (hSb : S ≤ 15) (d kk key : Int32) (hk4 : K 4 ≤ 16384) (t b : Nat) (ht0 : t ≤ 65536) (hb0 : b ≤ 65536) (htw : ¬ S = 0 → F 0 ((S - 1) * 6 + 4) = nI t) (htb : ¬ S = 0 → F 0 ((S - 1) * 6 + 5) = nI b) (mc ms : Nat) (hm1 : ((nI 1 ≤ d ∧ d ≤ nI (K 3)) ∧ (nI 1 ≤ kk ∧ kk ≤ nI 15)) → ∀ j : Nat, j < K 4 → (fun j => F 9 j = key ∧ F 8 j = kk ∧ F 7 j = d) j → ¬ F 10 j = -1 → ps_must S t b (K 5) F 4 j → ¬ 40000 ≤ K 5 → ps_mc N (K 5) + ps_vc 16384 N 10 j ≤ mc ∧ ps_ms N (K 5) + ps_vs 16384 N 10 j ≤ ms) (hm2 : ((nI 1 ≤ d ∧ d ≤ nI (K 3)) ∧ (nI 1 ≤ kk ∧ kk ≤ nI 15)) → ∀ j : Nat, j < K 4 → (fun j => F 9 j = key ∧ F 8 j = kk ∧ F 7 j = d) j → ¬ F 10 j = -1 → ¬ ps_must S t b (K 5) F 4 j → ps_vc 16384 N 10 j ≤ mc ∧ ps_vs 16384 N 10 j ≤ ms) : ps_mI classes l y_PS_undefine w_PS_undefine ({ frames := 6, cells := mc, slots := ms, locals := 133 }) (dC, dI) tys [.ref (a 0), .int d, .int kk, .int key] (pw cI a q K S ck cu F N) (fun r u => ps_c ((nI 1 ≤ d ∧ d ≤ nI (K 3)) ∧ (nI 1 ≤ kk ∧ kk ≤ nI 15)) ((ps_not (fun j => F 9 j = key ∧ F 8 j = kk ∧ F 7 j = d) 0 (K 4) ∧ r = -2 ∧ u = pw cI a q K S ck cu F N) ∨ (∃ j : Nat, j < K 4 ∧ (fun j => F 9 j = key ∧ F 8 j = kk ∧ F 7 j = d) j ∧ ps_not (fun j => F 9 j = key ∧ F 8 j = kk ∧ F 7 j = d) 0 j ∧ ps_c (F 10 j = -1) (r = -2 ∧ u = pw cI a q K S ck cu F N) (ps_c (ps_must S t b (K 5) F 4 j) (ps_c (40000 ≤ K 5) (r = -3 ∧ u = pw cI a q K S ck cu F N) (∃ q1 : Nat → Nat, r = 1 ∧ u = pw cI a q1 (va_up K 5 (K 5 + 1)) S ck cu (ps_Fv (ps_Fm F (K 5) (nI 4) j (F 10 j) (F 11 j)) 10 j (-1) 0) (ps_Nv (ps_Nm N (K 5)) 10 j))) (∃ q1 : Nat → Nat, r = 1 ∧ u = pw cI a q1 K S ck cu (ps_Fv F 10 j (-1) 0) (ps_Nv N 10 j))))) (r = -1 ∧ u = pw cI a q K S ck cu F N)) := by
  refine ps_mI_of (by decide) rfl (Nat.le_of_ble_eq_true rfl) ?_
  intro p e s m below meth c A ls C0 hA hK hP hD hS hl
  obtain ⟨hx, hb, hr, hml, hts, hown, hlocks, hin⟩ := C0
  have hl : lv_has ls 5 [(0, .ref (a 0)), (1, .int d), (2, .int kk), (3, .int key)] := hl
  have hP : va_P (dC, dI) classes (pw cI a q K S ck cu F N) s.heap := hP
  have hD : va_D A (pw cI a q K S ck cu F N) := hD
  refine lv_aload_n hx hb d_PS_undefine_0 rfl (lv_at hl 0 rfl) ?_
  refine lv_iload_n hx hb d_PS_undefine_1 rfl (lv_at hl 1 rfl) ?_
  refine lv_iload_n hx hb d_PS_undefine_2 rfl (lv_at hl 2 rfl) ?_
  refine ps_readI (wc := (pw cI a q K S ck cu F N)) hP hD hS hA [0, 1, 2, 3, 4, 5, 6, 7, 8, 9, 10, 11, 12, 13, 14, 15, 16, 17, 18, 19, 20, 21, 22, 23, 24, 25, 26, 27, 28, 29, 30, 31, 32, 33, 34, 35, 36, 37, 38, 39] rfl (fun _ _ h => h.1) (ps_runVI ⟨hx, hb, hml, hown, hts⟩ (c_isKP l dC dI cI tys ht a q K S ck cu F N hw hKb hSb d kk) (ps_cwV ps_gd 2 hts tw_186 k_PS_isKeyPossible e_PS_isKeyPossible ⟨Nat.le_of_ble_eq_true rfl, Nat.le_of_ble_eq_true rfl⟩) hK hP hD [0, 1, 2, 3, 4, 5, 6, 7, 8, 9, 10, 11, 12, 13, 14, 15, 16, 17, 18, 19, 20, 21, 22, 23, 24, 25, 26, 27, 28, 29, 30, 31, 32, 33, 34, 35, 36, 37, 38, 39] (by decide) rfl 0 cPS rfl rfl rfl hl.1 rfl (Nat.le_of_ble_eq_true rfl) d_PS_undefine_3 ⟨Nat.zero_le _, Nat.zero_le _⟩) (fun r_1 H locs hr_1 hP hS => ?_)
  obtain ⟨-, hr_1⟩ := hr_1
  subst hr_1
  refine lv_if_ne (tgt := 11) hx hb d_PS_undefine_6 (by decide) (fun c_2 => ?_) (fun c_2 => ?_)
  · have c_2 := ps_ite1 c_2
    refine lv_aload_n hx hb d_PS_undefine_11 rfl (lv_at hl 0 rfl) ?_
    refine va_get (D := (dC, dI)) (ci := cPS) (v := .ref (a 4)) (C := R_PS) (T := F_PS) (N := 10) hx hb hts i_PS hown hK hP 0 rfl rfl 6 (by decide) (hts _ tw_104) (fun _ h9 => h9) rfl d_PS_undefine_12 ?_
    refine lv_iload_n hx hb d_PS_undefine_15 rfl (lv_at hl 1 rfl) ?_
    refine lv_iload_n hx hb d_PS_undefine_16 rfl (lv_at hl 2 rfl) ?_
    refine lv_iload_n hx hb d_PS_undefine_17 rfl (lv_at hl 3 rfl) ?_
    refine lv_aload_n hx hb d_PS_undefine_18 rfl (lv_at hl 0 rfl) ?_
    refine va_get (D := (dC, dI)) (ci := cPS) (v := .ref (a 1)) (C := R_PS) (T := F_PS) (N := 10) hx hb hts i_PS hown hK hP 0 rfl rfl 0 (by decide) (hts _ tw_97) (fun _ h9 => h9) rfl d_PS_undefine_19 ?_
    refine lv_iconst (v := nI 4) hx hb d_PS_undefine_22 (by decide) ?_
    refine va_iald hx hb hK hP 1 0 rfl ht (vp_in_nI (show 4 < 6 by decide) (by decide)) d_PS_undefine_23 ?_
    refine ps_top (z := nI (K 4)) (ps_kat _ 4 (by decide)) ?_
    refine ps_readI (wc := [(a 4, .inr (cKey, [.ref (a 15), .ref (a 16), .ref (a 17), .ref (a 5)])), (a 15, .inr (cCol, [.int (nI 16384), .ref (q 7)])), (q 7, .inl (cI, N 7, .inl (F 7))), (a 16, .inr (cCol, [.int (nI 16384), .ref (q 8)])), (q 8, .inl (cI, N 8, .inl (F 8))), (a 17, .inr (cCol, [.int (nI 16384), .ref (q 9)])), (q 9, .inl (cI, N 9, .inl (F 9))), (a 5, .inr (cVal, [.ref (a 18), .ref (a 19)])), (a 18, .inr (cCol, [.int (nI 16384), .ref (q 10)])), (q 10, .inl (cI, N 10, .inl (F 10)))]) hP hD hS hA [4, 22, 23, 24, 25, 26, 27, 5, 28, 29] rfl (fun _ _ h => h.1) (ps_runVI ⟨hx, hb, hml, hown, hts⟩ (c_kift l dC dI cI tys ht (a 4) (a 5) (a 15) (q 7) (a 16) (q 8) (a 17) (q 9) (a 18) (q 10) (a 19) 16384 (N 7) (N 8) (N 9) (N 10) (F 7) (F 8) (F 9) (F 10) d kk key (K 4) (hw.z 7 (by decide)) (hw.z 8 (by decide)) (hw.z 9 (by decide)) (hw.z 10 (by decide)) (hw.n 7 (by decide)) (hw.n 8 (by decide)) (hw.n 9 (by decide)) (hw.n 10 (by decide)) (by have b4 := hKb 4; omega)) (ps_cwV ps_gd 4 hts tw_187 k_Key_indexIfThere e_Key_indexIfThere ⟨Nat.le_of_ble_eq_true rfl, Nat.le_of_ble_eq_true rfl⟩) hK hP hD [4, 22, 23, 24, 25, 26, 27, 5, 28, 29] (by decide) rfl 0 cKey rfl rfl rfl hl.1 rfl (Nat.le_of_ble_eq_true rfl) d_PS_undefine_24 ⟨Nat.zero_le _, Nat.zero_le _⟩) (fun r_3 H locs hr_3 hP hS => ?_)
    obtain ⟨-, hr_3⟩ := hr_3
    rcases ps_ift (M := (fun j => F 9 j = key ∧ F 8 j = kk ∧ F 7 j = d)) (by have b4 := hKb 4; omega) (fun j q => q.2.2) hr_3 with ⟨hnone, hr_3⟩ | ⟨j, hj, hjm, hjn, ⟨hgone, hr_3⟩ | ⟨hgone, hr_3⟩⟩
    · subst hr_3
      refine lv_istore (lv' := [(4, .int (-1)), (0, .ref (a 0)), (1, .int d), (2, .int kk), (3, .int key)]) hx hb d_PS_undefine_27 hl (by decide) rfl (fun ls hl => ?_)
      refine lv_iload hx hb d_PS_undefine_29 (lv_at hl 0 rfl) ?_
      refine lv_iconst (v := (-1)) hx hb d_PS_undefine_31 (by decide) ?_
      refine lv_icmp_ne (tgt := 38) hx hb d_PS_undefine_32 (by decide) (fun c_4 => ?_) (fun c_4 => ?_)
      · exact absurd rfl c_4
      · refine lv_bipush (v := (-2)) hx hb d_PS_undefine_35 (by decide) ?_
        exact ps_iret hx hb hr hlocks hK hP hD hS (Nat.zero_le _) (Nat.zero_le _) d_PS_undefine_37 (ps_cy c_2 (Or.inl ⟨hnone, rfl, rfl⟩))
    · subst hr_3
      refine lv_istore (lv' := [(4, .int (-1)), (0, .ref (a 0)), (1, .int d), (2, .int kk), (3, .int key)]) hx hb d_PS_undefine_27 hl (by decide) rfl (fun ls hl => ?_)
      refine lv_iload hx hb d_PS_undefine_29 (lv_at hl 0 rfl) ?_
      refine lv_iconst (v := (-1)) hx hb d_PS_undefine_31 (by decide) ?_
      refine lv_icmp_ne (tgt := 38) hx hb d_PS_undefine_32 (by decide) (fun c_5 => ?_) (fun c_5 => ?_)
      · exact absurd rfl c_5
      · refine lv_bipush (v := (-2)) hx hb d_PS_undefine_35 (by decide) ?_
        exact ps_iret hx hb hr hlocks hK hP hD hS (Nat.zero_le _) (Nat.zero_le _) d_PS_undefine_37 (ps_cy c_2 (Or.inr ⟨j, hj, hjm, hjn, ps_cy hgone ⟨rfl, rfl⟩⟩))
    · subst hr_3
      have hj31 : j < 2 ^ 31 := by have b4 := hKb 4; omega
      refine lv_istore (lv' := [(4, .int (nI j)), (0, .ref (a 0)), (1, .int d), (2, .int kk), (3, .int key)]) hx hb d_PS_undefine_27 hl (by decide) rfl (fun ls hl => ?_)
      refine lv_iload hx hb d_PS_undefine_29 (lv_at hl 0 rfl) ?_
      refine lv_iconst (v := (-1)) hx hb d_PS_undefine_31 (by decide) ?_
      refine lv_icmp_ne (tgt := 38) hx hb d_PS_undefine_32 (by decide) (fun c_6 => ?_) (fun c_6 => ?_)
      · refine lv_aload_n hx hb d_PS_undefine_38 rfl (lv_at hl 1 rfl) ?_
        refine lv_iconst (v := nI 4) hx hb d_PS_undefine_39 (by decide) ?_
        refine lv_iload hx hb d_PS_undefine_40 (lv_at hl 0 rfl) ?_
        by_cases hmu : ps_must S t b (K 5) F 4 j
        · by_cases hfull : 40000 ≤ K 5
          · refine ps_afterI (wc := (pw cI a q K S ck cu F N)) (wr := []) hP hD hS hA [0, 1, 2, 3, 4, 5, 6, 7, 8, 9, 10, 11, 12, 13, 14, 15, 16, 17, 18, 19, 20, 21, 22, 23, 24, 25, 26, 27, 28, 29, 30, 31, 32, 33, 34, 35, 36, 37, 38, 39] [] rfl rfl (by decide) (by decide) (ps_runVI ⟨hx, hb, hml, hown, hts⟩ (c_rem4 l dC dI cI tys ht a q K S ck cu F N hw hKb hSb j t b ht0 hb0 hj31 htw htb 0 0 (fun _ q => absurd hfull q)) (ps_cwV ps_gd 2 hts tw_184 k_PS_remember e_PS_remember ⟨Nat.le_of_ble_eq_true rfl, Nat.le_of_ble_eq_true rfl⟩) hK hP hD [0, 1, 2, 3, 4, 5, 6, 7, 8, 9, 10, 11, 12, 13, 14, 15, 16, 17, 18, 19, 20, 21, 22, 23, 24, 25, 26, 27, 28, 29, 30, 31, 32, 33, 34, 35, 36, 37, 38, 39] (by decide) rfl 0 cPS rfl rfl rfl hl.1 rfl (Nat.le_of_ble_eq_true rfl) d_PS_undefine_42 ⟨by show 0 + 0 + 0 + 0 ≤ mc; omega, by show 0 + 0 + 0 + 0 ≤ ms; omega⟩) (fun r_8 u_7 H locs hu_7 hP hD hS => ?_)
            obtain ⟨hr_8, vu_7⟩ := (hu_7.y hmu).y hfull
            subst hr_8
            subst vu_7
            have hP : va_P (dC, dI) classes (pw cI a q K S ck cu F N) H := hP
            have hD : va_D A (pw cI a q K S ck cu F N) := hD
            refine lv_if_ne (tgt := 51) hx hb d_PS_undefine_45 (by decide) (fun c_9 => ?_) (fun c_9 => ?_)
            · exact absurd rfl c_9
            · refine lv_bipush (v := (-3)) hx hb d_PS_undefine_48 (by decide) ?_
              exact ps_iret hx hb hr hlocks hK hP hD hS (Nat.zero_le _) (Nat.zero_le _) d_PS_undefine_50 (ps_cy c_2 (Or.inr ⟨j, hj, hjm, hjn, ps_cn hgone (ps_cy hmu (ps_cy hfull ⟨rfl, rfl⟩))⟩))
          · have hpay := hm1 c_2 j hj hjm hgone hmu hfull
            refine ps_afterI (wc := (pw cI a q K S ck cu F N)) (wr := []) hP hD hS hA [0, 1, 2, 3, 4, 5, 6, 7, 8, 9, 10, 11, 12, 13, 14, 15, 16, 17, 18, 19, 20, 21, 22, 23, 24, 25, 26, 27, 28, 29, 30, 31, 32, 33, 34, 35, 36, 37, 38, 39] [] rfl rfl (by decide) (by decide) (ps_runVI ⟨hx, hb, hml, hown, hts⟩ (c_rem4 l dC dI cI tys ht a q K S ck cu F N hw hKb hSb j t b ht0 hb0 hj31 htw htb (ps_mc N (K 5)) (ps_ms N (K 5)) (fun _ _ => ⟨Nat.le_refl _, Nat.le_refl _⟩)) (ps_cwV ps_gd 2 hts tw_184 k_PS_remember e_PS_remember ⟨Nat.le_of_ble_eq_true rfl, Nat.le_of_ble_eq_true rfl⟩) hK hP hD [0, 1, 2, 3, 4, 5, 6, 7, 8, 9, 10, 11, 12, 13, 14, 15, 16, 17, 18, 19, 20, 21, 22, 23, 24, 25, 26, 27, 28, 29, 30, 31, 32, 33, 34, 35, 36, 37, 38, 39] (by decide) rfl 0 cPS rfl rfl rfl hl.1 rfl (Nat.le_of_ble_eq_true rfl) d_PS_undefine_42 ⟨by show 0 + 0 + 0 + ps_mc N (K 5) ≤ mc; omega, by show 0 + 0 + 0 + ps_ms N (K 5) ≤ ms; omega⟩) (fun r_11 u_10 H locs hu_10 hP hD hS => ?_)
            obtain ⟨q_12, hr_11, vu_10⟩ := (hu_10.y hmu).n hfull
            subst hr_11
            subst vu_10
            have hP : va_P (dC, dI) classes (pw cI a q_12 (va_up K 5 (K 5 + 1)) S ck cu (va_up (va_up (va_up (va_up F 12 (upd (F 12) (K 5) (nI 4))) 13 (upd (F 13) (K 5) (nI j))) 14 (upd (F 14) (K 5) (F 10 j))) 15 (upd (F 15) (K 5) (if F 10 j = 0 then 0 else F 11 j))) (va_up (va_up (va_up (va_up N 12 (ps_len 40000 (N 12) (K 5))) 13 (ps_len 40000 (N 13) (K 5))) 14 (ps_len 40000 (N 14) (K 5))) 15 (ps_len 40000 (N 15) (K 5)))) H := hP
            have hD : va_D A (pw cI a q_12 (va_up K 5 (K 5 + 1)) S ck cu (va_up (va_up (va_up (va_up F 12 (upd (F 12) (K 5) (nI 4))) 13 (upd (F 13) (K 5) (nI j))) 14 (upd (F 14) (K 5) (F 10 j))) 15 (upd (F 15) (K 5) (if F 10 j = 0 then 0 else F 11 j))) (va_up (va_up (va_up (va_up N 12 (ps_len 40000 (N 12) (K 5))) 13 (ps_len 40000 (N 13) (K 5))) 14 (ps_len 40000 (N 14) (K 5))) 15 (ps_len 40000 (N 15) (K 5)))) := hD
            refine lv_if_ne (tgt := 51) hx hb d_PS_undefine_45 (by decide) (fun c_13 => ?_) (fun c_13 => ?_)
            · refine lv_aload_n hx hb d_PS_undefine_51 rfl (lv_at hl 1 rfl) ?_
              refine va_get (D := (dC, dI)) (ci := cPS) (v := .ref (a 4)) (C := R_PS) (T := F_PS) (N := 10) hx hb hts i_PS hown hK hP 0 rfl rfl 6 (by decide) (hts _ tw_104) (fun _ h9 => h9) rfl d_PS_undefine_52 ?_
              refine va_get (D := (dC, dI)) (ci := cKey) (v := .ref (a 5)) (C := R_Key) (T := F_Key) (N := 4) hx hb hts i_Key hown hK hP 4 rfl rfl 3 (by decide) (hts _ tw_105) (fun _ h9 => h9) rfl d_PS_undefine_55 ?_
              refine lv_iload hx hb d_PS_undefine_58 (lv_at hl 0 rfl) ?_
              refine lv_iconst (v := (-1)) hx hb d_PS_undefine_60 (by decide) ?_
              refine lv_iconst (v := 0) hx hb d_PS_undefine_61 (by decide) ?_
              have hilim : j < 16384 := by omega
              have hw9 := ps_wf_m (o := nI 4) (i := j) (v := F 10 j) (w := F 11 j) hw (show K 5 < 40000 by omega)
              refine ps_afterV (wc := [(a 5, .inr (cVal, [.ref (a 18), .ref (a 19)])), (a 18, .inr (cCol, [.int (nI 16384), .ref (q_12 10)])), (q_12 10, .inl (cI, N 10, .inl (F 10))), (a 19, .inr (cCol, [.int (nI 16384), .ref (q_12 11)])), (q_12 11, .inl (cI, N 11, .inl (F 11)))]) (wr := [0, 1, 2, 3, 4, 6, 7, 8, 9, 10, 11, 12, 13, 14, 15, 16, 17, 18, 19, 20, 21, 22, 23, 24, 25, 26, 27, 32, 33, 34, 35, 36, 37, 38, 39].filterMap (fun z9 => ((pw cI a q_12 (va_up K 5 (K 5 + 1)) S ck cu (va_up (va_up (va_up (va_up F 12 (upd (F 12) (K 5) (nI 4))) 13 (upd (F 13) (K 5) (nI j))) 14 (upd (F 14) (K 5) (F 10 j))) 15 (upd (F 15) (K 5) (if F 10 j = 0 then 0 else F 11 j))) (va_up (va_up (va_up (va_up N 12 (ps_len 40000 (N 12) (K 5))) 13 (ps_len 40000 (N 13) (K 5))) 14 (ps_len 40000 (N 14) (K 5))) 15 (ps_len 40000 (N 15) (K 5)))) : va_W)[z9]?)) hP hD hS hA [5, 28, 29, 30, 31] [0, 1, 2, 3, 4, 6, 7, 8, 9, 10, 11, 12, 13, 14, 15, 16, 17, 18, 19, 20, 21, 22, 23, 24, 25, 26, 27, 32, 33, 34, 35, 36, 37, 38, 39] rfl rfl (by decide) (by decide) (ps_runVV ⟨hx, hb, hml, hown, hts⟩ (c_vwrite l dC dI cI tys ht (a 5) (a 18) (q_12 10) (a 19) (q_12 11) 16384 (N 10) (N 11) (F 10) (F 11) j (-1) 0 (hw.z 10 (by decide)) (hw.z 11 (by decide)) (by decide) (hw 10 (by decide)).2 (hw 11 (by decide)).2 hilim) (ps_cwV ps_gd 3 hts tw_159 k_Val_write e_Val_write ⟨Nat.le_of_ble_eq_true rfl, Nat.le_of_ble_eq_true rfl⟩) hK hP hD [5, 28, 29, 30, 31] (by decide) rfl 0 cVal rfl rfl rfl hl.1 rfl (Nat.le_of_ble_eq_true rfl) d_PS_undefine_62 ⟨by show 0 + 0 + 0 + ps_mc N (K 5) + ps_vc 16384 N 10 j ≤ mc; omega, by show 0 + 0 + 0 + ps_ms N (K 5) + ps_vs 16384 N 10 j ≤ ms; omega⟩) (fun u_14 H locs hu_14 hP hD hS => ?_)
              obtain ⟨q_16, q_17, hu_14⟩ := hu_14
              subst hu_14
              obtain ⟨hP, hD⟩ := ps_perm (ws' := (pw cI a (va_up (va_up q_12 10 q_16) 11 q_17) (va_up K 5 (K 5 + 1)) S ck cu (va_up (va_up (va_up (va_up (va_up (va_up F 12 (upd (F 12) (K 5) (nI 4))) 13 (upd (F 13) (K 5) (nI j))) 14 (upd (F 14) (K 5) (F 10 j))) 15 (upd (F 15) (K 5) (if F 10 j = 0 then 0 else F 11 j))) 10 (upd (F 10) j (-1))) 11 (upd (F 11) j (if (-1) = 0 then 0 else 0))) (va_up (va_up (va_up (va_up (va_up (va_up N 12 (ps_len 40000 (N 12) (K 5))) 13 (ps_len 40000 (N 13) (K 5))) 14 (ps_len 40000 (N 14) (K 5))) 15 (ps_len 40000 (N 15) (K 5))) 10 (ps_len 16384 (N 10) j)) 11 (ps_len 16384 (N 11) j)))) hP hD [0, 1, 2, 3, 4, 35, 5, 6, 7, 8, 9, 10, 11, 12, 13, 14, 15, 16, 17, 18, 19, 20, 21, 22, 23, 24, 25, 26, 36, 37, 38, 39, 27, 28, 29, 30, 31, 32, 33, 34] (by decide) rfl
              refine lv_iconst (v := 1) hx hb d_PS_undefine_65 (by decide) ?_
              exact ps_iret hx hb hr hlocks hK hP hD hS (by show 0 + 0 + 0 + ps_mc N (K 5) + ps_vc 16384 N 10 j ≤ mc; omega) (by show 0 + 0 + 0 + ps_ms N (K 5) + ps_vs 16384 N 10 j ≤ ms; omega) d_PS_undefine_66 (ps_cy c_2 (Or.inr ⟨j, hj, hjm, hjn, ps_cn hgone (ps_cy hmu (ps_cn hfull ⟨(va_up (va_up q_12 10 q_16) 11 q_17), rfl, rfl⟩))⟩))
            · exact absurd c_13 (by decide)
        · have hpay := hm2 c_2 j hj hjm hgone hmu
          refine ps_afterI (wc := (pw cI a q K S ck cu F N)) (wr := []) hP hD hS hA [0, 1, 2, 3, 4, 5, 6, 7, 8, 9, 10, 11, 12, 13, 14, 15, 16, 17, 18, 19, 20, 21, 22, 23, 24, 25, 26, 27, 28, 29, 30, 31, 32, 33, 34, 35, 36, 37, 38, 39] [] rfl rfl (by decide) (by decide) (ps_runVI ⟨hx, hb, hml, hown, hts⟩ (c_rem4 l dC dI cI tys ht a q K S ck cu F N hw hKb hSb j t b ht0 hb0 hj31 htw htb 0 0 (fun q => absurd q hmu)) (ps_cwV ps_gd 2 hts tw_184 k_PS_remember e_PS_remember ⟨Nat.le_of_ble_eq_true rfl, Nat.le_of_ble_eq_true rfl⟩) hK hP hD [0, 1, 2, 3, 4, 5, 6, 7, 8, 9, 10, 11, 12, 13, 14, 15, 16, 17, 18, 19, 20, 21, 22, 23, 24, 25, 26, 27, 28, 29, 30, 31, 32, 33, 34, 35, 36, 37, 38, 39] (by decide) rfl 0 cPS rfl rfl rfl hl.1 rfl (Nat.le_of_ble_eq_true rfl) d_PS_undefine_42 ⟨by show 0 + 0 + 0 + 0 ≤ mc; omega, by show 0 + 0 + 0 + 0 ≤ ms; omega⟩) (fun r_19 u_18 H locs hu_18 hP hD hS => ?_)
          obtain ⟨hr_19, vu_18⟩ := hu_18.n hmu
          subst hr_19
          subst vu_18
          have hP : va_P (dC, dI) classes (pw cI a q K S ck cu F N) H := hP
          have hD : va_D A (pw cI a q K S ck cu F N) := hD
          refine lv_if_ne (tgt := 51) hx hb d_PS_undefine_45 (by decide) (fun c_20 => ?_) (fun c_20 => ?_)
          · refine lv_aload_n hx hb d_PS_undefine_51 rfl (lv_at hl 1 rfl) ?_
            refine va_get (D := (dC, dI)) (ci := cPS) (v := .ref (a 4)) (C := R_PS) (T := F_PS) (N := 10) hx hb hts i_PS hown hK hP 0 rfl rfl 6 (by decide) (hts _ tw_104) (fun _ h9 => h9) rfl d_PS_undefine_52 ?_
            refine va_get (D := (dC, dI)) (ci := cKey) (v := .ref (a 5)) (C := R_Key) (T := F_Key) (N := 4) hx hb hts i_Key hown hK hP 4 rfl rfl 3 (by decide) (hts _ tw_105) (fun _ h9 => h9) rfl d_PS_undefine_55 ?_
            refine lv_iload hx hb d_PS_undefine_58 (lv_at hl 0 rfl) ?_
            refine lv_iconst (v := (-1)) hx hb d_PS_undefine_60 (by decide) ?_
            refine lv_iconst (v := 0) hx hb d_PS_undefine_61 (by decide) ?_
            have hilim : j < 16384 := by omega
            refine ps_afterV (wc := [(a 5, .inr (cVal, [.ref (a 18), .ref (a 19)])), (a 18, .inr (cCol, [.int (nI 16384), .ref (q 10)])), (q 10, .inl (cI, N 10, .inl (F 10))), (a 19, .inr (cCol, [.int (nI 16384), .ref (q 11)])), (q 11, .inl (cI, N 11, .inl (F 11)))]) (wr := [0, 1, 2, 3, 4, 6, 7, 8, 9, 10, 11, 12, 13, 14, 15, 16, 17, 18, 19, 20, 21, 22, 23, 24, 25, 26, 27, 32, 33, 34, 35, 36, 37, 38, 39].filterMap (fun z9 => ((pw cI a q K S ck cu F N) : va_W)[z9]?)) hP hD hS hA [5, 28, 29, 30, 31] [0, 1, 2, 3, 4, 6, 7, 8, 9, 10, 11, 12, 13, 14, 15, 16, 17, 18, 19, 20, 21, 22, 23, 24, 25, 26, 27, 32, 33, 34, 35, 36, 37, 38, 39] rfl rfl (by decide) (by decide) (ps_runVV ⟨hx, hb, hml, hown, hts⟩ (c_vwrite l dC dI cI tys ht (a 5) (a 18) (q 10) (a 19) (q 11) 16384 (N 10) (N 11) (F 10) (F 11) j (-1) 0 (hw.z 10 (by decide)) (hw.z 11 (by decide)) (by decide) (hw 10 (by decide)).2 (hw 11 (by decide)).2 hilim) (ps_cwV ps_gd 3 hts tw_159 k_Val_write e_Val_write ⟨Nat.le_of_ble_eq_true rfl, Nat.le_of_ble_eq_true rfl⟩) hK hP hD [5, 28, 29, 30, 31] (by decide) rfl 0 cVal rfl rfl rfl hl.1 rfl (Nat.le_of_ble_eq_true rfl) d_PS_undefine_62 ⟨by show 0 + 0 + 0 + 0 + ps_vc 16384 N 10 j ≤ mc; omega, by show 0 + 0 + 0 + 0 + ps_vs 16384 N 10 j ≤ ms; omega⟩) (fun u_21 H locs hu_21 hP hD hS => ?_)
            obtain ⟨q_23, q_24, hu_21⟩ := hu_21
            subst hu_21
            obtain ⟨hP, hD⟩ := ps_perm (ws' := (pw cI a (va_up (va_up q 10 q_23) 11 q_24) K S ck cu (va_up (va_up F 10 (upd (F 10) j (-1))) 11 (upd (F 11) j (if (-1) = 0 then 0 else 0))) (va_up (va_up N 10 (ps_len 16384 (N 10) j)) 11 (ps_len 16384 (N 11) j)))) hP hD [0, 1, 2, 3, 4, 35, 5, 6, 7, 8, 9, 10, 11, 12, 13, 14, 15, 16, 17, 18, 19, 20, 21, 22, 23, 24, 25, 26, 36, 37, 38, 39, 27, 28, 29, 30, 31, 32, 33, 34] (by decide) rfl
            refine lv_iconst (v := 1) hx hb d_PS_undefine_65 (by decide) ?_
            exact ps_iret hx hb hr hlocks hK hP hD hS (by show 0 + 0 + 0 + 0 + ps_vc 16384 N 10 j ≤ mc; omega) (by show 0 + 0 + 0 + 0 + ps_vs 16384 N 10 j ≤ ms; omega) d_PS_undefine_66 (ps_cy c_2 (Or.inr ⟨j, hj, hjm, hjn, ps_cn hgone (ps_cn hmu ⟨(va_up (va_up q 10 q_23) 11 q_24), rfl, rfl⟩)⟩))
          · exact absurd c_20 (by decide)
      · exact absurd c_6 (ps_m1 hj31)
  · have c_2 := ps_ite0 c_2
    refine lv_iconst (v := (-1)) hx hb d_PS_undefine_9 (by decide) ?_
    exact ps_iret hx hb hr hlocks hK hP hD hS (Nat.zero_le _) (Nat.zero_le _) d_PS_undefine_10 (ps_cn c_2 ⟨rfl, rfl⟩)
end
section
theorem tw_200 : (.methodLink "PageStore" 111 ⟨"PageStore$Keys", "indexOf", "(IIII)I"⟩ : Cond) ∈ ps_tbl := ps_t2 69 rfl rfl
theorem tw_201 : (.methodLink "PageStore" 115 ⟨"PageStore", "addKey", "(IIIII)I"⟩ : Cond) ∈ ps_tbl := ps_t2 74 rfl rfl
theorem tw_202 : (.methodLink "PageStore" 132 ⟨"PageStore$Keys", "firstThere", "(III)I"⟩ : Cond) ∈ ps_tbl := ps_t2 116 rfl rfl
theorem tw_203 : (.methodLink "PageStore" 135 ⟨"PageStore", "moveCursor", "(I)I"⟩ : Cond) ∈ ps_tbl := ps_t2 120 rfl rfl
theorem tw_204 : (.instanceMethod ⟨"PageStore", "addKey", "(IIIII)I"⟩ : Cond) ∈ ps_tbl := ps_t2 76 rfl rfl
theorem tw_205 : (.selects "PageStore" ⟨"PageStore", "addKey", "(IIIII)I"⟩ ⟨"PageStore", "addKey", "(IIIII)I"⟩ : Cond) ∈ ps_tbl := ps_ts (y := ⟨"PageStore", "addKey", "(IIIII)I"⟩) (n := 10) 10 rfl rfl
theorem tw_206 : (.code ⟨"PageStore", "addKey", "(IIIII)I"⟩ prog_1_method_31_code 7 (some .int) : Cond) ∈ ps_tbl := ps_t2 77 rfl rfl
theorem tw_207 : (.instanceMethod ⟨"PageStore$Keys", "firstThere", "(III)I"⟩ : Cond) ∈ ps_tbl := ps_t2 117 rfl rfl
theorem tw_208 : (.selects "PageStore$Keys" ⟨"PageStore$Keys", "firstThere", "(III)I"⟩ ⟨"PageStore$Keys", "firstThere", "(III)I"⟩ : Cond) ∈ ps_tbl := ps_t2 118 rfl rfl
theorem tw_209 : (.code ⟨"PageStore$Keys", "firstThere", "(III)I"⟩ prog_3_method_5_code 5 (some .int) : Cond) ∈ ps_tbl := ps_t2 119 rfl rfl
theorem tw_210 : (.instanceMethod ⟨"PageStore", "moveCursor", "(I)I"⟩ : Cond) ∈ ps_tbl := ps_t2 122 rfl rfl
theorem tw_211 : (.selects "PageStore" ⟨"PageStore", "moveCursor", "(I)I"⟩ ⟨"PageStore", "moveCursor", "(I)I"⟩ : Cond) ∈ ps_tbl := ps_ts (y := ⟨"PageStore", "moveCursor", "(I)I"⟩) (n := 10) 12 rfl rfl
theorem tw_212 : (.code ⟨"PageStore", "moveCursor", "(I)I"⟩ prog_1_method_32_code 2 (some .int) : Cond) ∈ ps_tbl := ps_t2 123 rfl rfl
theorem k_PS_addKey : ps_cdV ps_tbl y_PS_addKey prog_1_method_31_code 7 (some .int) := ⟨tw_204, tw_205, tw_108, tw_206⟩
theorem k_Key_firstThere : ps_cdV ps_tbl y_Key_firstThere prog_3_method_5_code 5 (some .int) := ⟨tw_207, tw_208, tw_54, tw_209⟩
theorem k_PS_moveCursor : ps_cdV ps_tbl y_PS_moveCursor prog_1_method_32_code 2 (some .int) := ⟨tw_210, tw_211, tw_108, tw_212⟩
theorem ps_len_in {lim n i : Nat} (h : i < n) : ps_len lim n i = n := by unfold ps_len; rw [if_pos h]
theorem ps_dc_in {lim n i : Nat} (h : i < n) : ps_dc lim n i = 0 := by unfold ps_dc; rw [ps_len_in h]; omega
theorem ps_ds_in {lim n i : Nat} (h : i < n) : ps_ds lim n i = 0 := by unfold ps_ds; rw [ps_len_in h]; omega
theorem ps_dec_lt {c b : Nat} (hc : c ≤ 65536) (hb : b ≤ 65536) : nI c - nI 1 < nI b ↔ c ≤ b := by
  rw [Int32.lt_iff_toInt_lt, Int32.toInt_sub, nI_toInt (by omega), nI_toInt (by omega), nI_toInt (by omega)]
  unfold Int.bmod
  simp only []
  split <;> omega
/-- memory m is put back -/
def ps_un (F : Nat → Nat → Int32) (m : Nat) : Nat → Nat → Int32 := if F 12 m = nI 4 then ps_Fv F 10 (F 13 m).toNatClampNeg (F 14 m) (F 15 m) else ps_Fv F 2 (F 13 m).toNatClampNeg (F 14 m) (F 15 m)
/-- the last d of k5 memories are put back, the latest first -/
def ps_bs (F : Nat → Nat → Int32) (k5 : Nat) : Nat → Nat → Nat → Int32
  | 0 => F
  | d + 1 => ps_un (ps_bs F k5 d) (k5 - (d + 1))
theorem ps_Fv_o {F : Nat → Nat → Int32} {k i j : Nat} {v w : Int32} (h1 : j ≠ k) (h2 : j ≠ k + 1) : ps_Fv F k i v w j = F j := by
  unfold ps_Fv ps_u
  rw [va_up_ne _ _ h2, va_up_ne _ _ h1]
theorem ps_un_o {F : Nat → Nat → Int32} {m j : Nat} (h : j ≠ 2 ∧ j ≠ 3 ∧ j ≠ 10 ∧ j ≠ 11) : ps_un F m j = F j := by
  unfold ps_un
  split
  · exact ps_Fv_o h.2.2.1 h.2.2.2
  · exact ps_Fv_o h.1 h.2.1
theorem ps_bs_o {F : Nat → Nat → Int32} {k5 d j : Nat} (h : j ≠ 2 ∧ j ≠ 3 ∧ j ≠ 10 ∧ j ≠ 11) : ps_bs F k5 d j = F j := by
  induction d with
  | zero => rfl
  | succ d ih => show ps_un (ps_bs F k5 d) _ j = F j; rw [ps_un_o h, ih]
/-- what the memories say of: it has been written -/
def ps_mem (k5 : Nat) (F : Nat → Nat → Int32) (N : Nat → Nat) : Prop := ∀ m, m < k5 → ∃ i : Nat, F 13 m = nI i ∧ ((F 12 m = nI 1 ∧ i < N 2 ∧ i < N 3) ∨ (F 12 m = nI 4 ∧ i < N 10 ∧ i < N 11))
theorem ps_bs_1 {F : Nat → Nat → Int32} {k5 d m i : Nat} (hm : m = k5 - (d + 1)) (h12 : F 12 m = nI 1) (h13 : F 13 m = nI i) (hi : i < 2 ^ 31) : ps_bs F k5 (d + 1) = va_up (va_up (ps_bs F k5 d) 2 (upd (ps_bs F k5 d 2) i (F 14 m))) 3 (upd (ps_bs F k5 d 3) i (if F 14 m = 0 then 0 else F 15 m)) := by
  show ps_un (ps_bs F k5 d) (k5 - (d + 1)) = _
  rw [← hm]
  unfold ps_un
  rw [ps_bs_o (j := 12) (by decide), ps_bs_o (j := 13) (by decide), ps_bs_o (j := 14) (by decide), ps_bs_o (j := 15) (by decide), h12, if_neg (by decide), h13, nI_clamp hi]
  rfl
theorem ps_bs_4 {F : Nat → Nat → Int32} {k5 d m i : Nat} (hm : m = k5 - (d + 1)) (h12 : F 12 m = nI 4) (h13 : F 13 m = nI i) (hi : i < 2 ^ 31) : ps_bs F k5 (d + 1) = va_up (va_up (ps_bs F k5 d) 10 (upd (ps_bs F k5 d 10) i (F 14 m))) 11 (upd (ps_bs F k5 d 11) i (if F 14 m = 0 then 0 else F 15 m)) := by
  show ps_un (ps_bs F k5 d) (k5 - (d + 1)) = _
  rw [← hm]
  unfold ps_un
  rw [ps_bs_o (j := 12) (by decide), ps_bs_o (j := 13) (by decide), ps_bs_o (j := 14) (by decide), ps_bs_o (j := 15) (by decide), h12, if_pos rfl, h13, nI_clamp hi]
  rfl
theorem ps_wf_in {F : Nat → Nat → Int32} {N : Nat → Nat} (k : Nat) {i : Nat} {x : Int32} (h : ps_wf F N) (hi : i < N k) : ps_wf (va_up F k (upd (F k) i x)) N := fun j hj => by
  by_cases e : j = k
  · subst e; rw [va_up_self]
    exact ⟨fun z hz => by rw [pk_un (by omega)]; exact (h j hj).1 z hz, (h j hj).2⟩
  · rw [va_up_ne _ _ e]; exact h j hj
theorem ps_wf_in2 {F : Nat → Nat → Int32} {N : Nat → Nat} (k : Nat) {i : Nat} {x y : Int32} (h : ps_wf F N) (hi : i < N k) (hi2 : i < N (k + 1)) : ps_wf (va_up (va_up F k (upd (F k) i x)) (k + 1) (upd (F (k + 1)) i y)) N := by
  have h1 := ps_wf_in k (x := x) h hi
  have h2 := ps_wf_in (k + 1) (x := y) h1 hi2
  rw [va_up_ne _ _ (show k + 1 ≠ k by omega)] at h2
  exact h2
theorem ps_wf_bs {F : Nat → Nat → Int32} {N : Nat → Nat} {k5 d : Nat} (h : ps_wf F N) (hm : ps_mem k5 F N) (hd : d ≤ k5) : ps_wf (ps_bs F k5 d) N := by
  induction d with
  | zero => exact h
  | succ d ih =>
    have ih := ih (by omega)
    obtain ⟨i, h13, ⟨h12, a, b⟩ | ⟨h12, a, b⟩⟩ := hm (k5 - (d + 1)) (by omega)
    · have hi := h.n 2 (by decide)
      rw [ps_bs_1 rfl h12 h13 (by omega)]
      exact ps_wf_in2 2 ih a b
    · have hi := h.n 10 (by decide)
      rw [ps_bs_4 rfl h12 h13 (by omega)]
      exact ps_wf_in2 10 ih a b
/-- the first w counts are t's -/
def ps_kx (K t : Nat → Nat) (w : Nat) : Nat → Nat := fun j => if j < w then t j else K j
theorem ps_kx_0 (K t : Nat → Nat) : ps_kx K t 0 = K := by funext j; unfold ps_kx; rw [if_neg (by omega)]
theorem ps_kx_s (K t : Nat → Nat) (w : Nat) : va_up (ps_kx K t w) w (t w) = ps_kx K t (w + 1) := by
  funext j
  by_cases h : j = w
  · subst h; rw [va_up_self]; unfold ps_kx; rw [if_pos (by omega)]
  · rw [va_up_ne _ _ h]; unfold ps_kx
    by_cases h2 : j < w
    · rw [if_pos h2, if_pos (by omega)]
    · rw [if_neg h2, if_neg (by omega)]
theorem ps_kx_b {K t : Nat → Nat} {w : Nat} (h : ∀ j, K j ≤ 65536) (ht : ∀ j, j < 6 → t j ≤ 65536) (hw : w ≤ 6) : ∀ j, ps_kx K t w j ≤ 65536 := fun j => by
  unfold ps_kx; split
  · exact ht j (by omega)
  · exact h j

set_option maxHeartbeats 4000000 in
set_option maxRecDepth 100000 in
/-- PageStore.define -/
theorem c_define (l : Launch) (dC : Nat → ClassId) (dI : Nat → Nat → Nat) (cI : ClassId) (tys : List (ClassId × FieldType)) (ht : tys[0]? = some (cI, FieldType.int)) (a q K : Nat → Nat) (S : Nat) (ck cu : Int32) (F : Nat → Nat → Int32) (N : Nat → Nat) (hw : ps_wf F N) (hKb : ∀ j, K j ≤ 65536) (hSb : S ≤ 15) (d kk key kind number : Int32) (hk4 : K 4 ≤ 16384) (t b : Nat) (ht0 : t ≤ 65536) (hb0 : b ≤ 65536) (htw : ¬ S = 0 → F 0 ((S - 1) * 6 + 4) = nI t) (htb : ¬ S = 0 → F 0 ((S - 1) * 6 + 5) = nI b) (mc ms : Nat) (hm0 : (((nI 1 ≤ d ∧ d ≤ nI (K 3)) ∧ (nI 1 ≤ kk ∧ kk ≤ nI 15)) ∧ (nI 0 ≤ kind ∧ kind ≤ nI 15)) → ps_not (fun j => F 9 j = key ∧ F 8 j = kk ∧ F 7 j = d) 0 (K 4) → ¬ 16384 ≤ K 4 → ps_kc N (K 4) ≤ mc ∧ ps_ks N (K 4) ≤ ms) (hm1 : (((nI 1 ≤ d ∧ d ≤ nI (K 3)) ∧ (nI 1 ≤ kk ∧ kk ≤ nI 15)) ∧ (nI 0 ≤ kind ∧ kind ≤ nI 15)) → ∀ j : Nat, j < K 4 → (fun j => F 9 j = key ∧ F 8 j = kk ∧ F 7 j = d) j → ps_not (fun j => F 9 j = key ∧ F 8 j = kk ∧ F 7 j = d) 0 j → ps_must S t b (K 5) F 4 j → ¬ 40000 ≤ K 5 → ps_mc N (K 5) + ps_vc 16384 N 10 j ≤ mc ∧ ps_ms N (K 5) + ps_vs 16384 N 10 j ≤ ms) (hm2 : (((nI 1 ≤ d ∧ d ≤ nI (K 3)) ∧ (nI 1 ≤ kk ∧ kk ≤ nI 15)) ∧ (nI 0 ≤ kind ∧ kind ≤ nI 15)) → ∀ j : Nat, j < K 4 → (fun j => F 9 j = key ∧ F 8 j = kk ∧ F 7 j = d) j → ps_not (fun j => F 9 j = key ∧ F 8 j = kk ∧ F 7 j = d) 0 j → ¬ ps_must S t b (K 5) F 4 j → ps_vc 16384 N 10 j ≤ mc ∧ ps_vs 16384 N 10 j ≤ ms) : ps_mI classes l y_PS_define w_PS_define ({ frames := 6, cells := mc, slots := ms, locals := 133 }) (dC, dI) tys [.ref (a 0), .int d, .int kk, .int key, .int kind, .int number] (pw cI a q K S ck cu F N) (fun r u => ps_c (((nI 1 ≤ d ∧ d ≤ nI (K 3)) ∧ (nI 1 ≤ kk ∧ kk ≤ nI 15)) ∧ (nI 0 ≤ kind ∧ kind ≤ nI 15)) ((ps_not (fun j => F 9 j = key ∧ F 8 j = kk ∧ F 7 j = d) 0 (K 4) ∧ ps_c (16384 ≤ K 4) (r = -3 ∧ u = pw cI a q K S ck cu F N) (∃ q1 : Nat → Nat, r = 1 ∧ u = pw cI a q1 (va_up K 4 (K 4 + 1)) S ck cu (ps_Fk F (K 4) d kk key kind number) (ps_Nk N (K 4)))) ∨ (∃ j : Nat, j < K 4 ∧ (fun j => F 9 j = key ∧ F 8 j = kk ∧ F 7 j = d) j ∧ ps_not (fun j => F 9 j = key ∧ F 8 j = kk ∧ F 7 j = d) 0 j ∧ ps_c (ps_must S t b (K 5) F 4 j) (ps_c (40000 ≤ K 5) (r = -3 ∧ u = pw cI a q K S ck cu F N) (∃ q1 : Nat → Nat, r = 0 ∧ u = pw cI a q1 (va_up K 5 (K 5 + 1)) S ck cu (ps_Fv (ps_Fm F (K 5) (nI 4) j (F 10 j) (F 11 j)) 10 j kind number) (ps_Nv (ps_Nm N (K 5)) 10 j))) (∃ q1 : Nat → Nat, r = 0 ∧ u = pw cI a q1 K S ck cu (ps_Fv F 10 j kind number) (ps_Nv N 10 j)))) (r = -1 ∧ u = pw cI a q K S ck cu F N)) := by
  refine ps_mI_of (by decide) rfl (Nat.le_of_ble_eq_true rfl) ?_
  intro p e s m below meth c A ls C0 hA hK hP hD hS hl
  obtain ⟨hx, hb, hr, hml, hts, hown, hlocks, hin⟩ := C0
  have hl : lv_has ls 7 [(0, .ref (a 0)), (1, .int d), (2, .int kk), (3, .int key), (4, .int kind), (5, .int number)] := hl
  have hP : va_P (dC, dI) classes (pw cI a q K S ck cu F N) s.heap := hP
  have hD : va_D A (pw cI a q K S ck cu F N) := hD
  refine lv_aload_n hx hb d_PS_define_0 rfl (lv_at hl 0 rfl) ?_
  refine lv_iload_n hx hb d_PS_define_1 rfl (lv_at hl 1 rfl) ?_
  refine lv_iload_n hx hb d_PS_define_2 rfl (lv_at hl 2 rfl) ?_
  refine ps_readI (wc := (pw cI a q K S ck cu F N)) hP hD hS hA [0, 1, 2, 3, 4, 5, 6, 7, 8, 9, 10, 11, 12, 13, 14, 15, 16, 17, 18, 19, 20, 21, 22, 23, 24, 25, 26, 27, 28, 29, 30, 31, 32, 33, 34, 35, 36, 37, 38, 39] rfl (fun _ _ h => h.1) (ps_runVI ⟨hx, hb, hml, hown, hts⟩ (c_isKP l dC dI cI tys ht a q K S ck cu F N hw hKb hSb d kk) (ps_cwV ps_gd 2 hts tw_186 k_PS_isKeyPossible e_PS_isKeyPossible ⟨Nat.le_of_ble_eq_true rfl, Nat.le_of_ble_eq_true rfl⟩) hK hP hD [0, 1, 2, 3, 4, 5, 6, 7, 8, 9, 10, 11, 12, 13, 14, 15, 16, 17, 18, 19, 20, 21, 22, 23, 24, 25, 26, 27, 28, 29, 30, 31, 32, 33, 34, 35, 36, 37, 38, 39] (by decide) rfl 0 cPS rfl rfl rfl hl.1 rfl (Nat.le_of_ble_eq_true rfl) d_PS_define_3 ⟨Nat.zero_le _, Nat.zero_le _⟩) (fun r_1 H locs hr_1 hP hS => ?_)
  obtain ⟨-, hr_1⟩ := hr_1
  subst hr_1
  refine lv_if_eq (tgt := 18) hx hb d_PS_define_6 (by decide) (fun c_2 => ?_) (fun c_2 => ?_)
  · have c_2 := ps_ite0 c_2
    refine lv_iconst (v := (-1)) hx hb d_PS_define_18 (by decide) ?_
    exact ps_iret hx hb hr hlocks hK hP hD hS (Nat.zero_le _) (Nat.zero_le _) d_PS_define_19 (ps_cn (fun q => c_2 q.1) ⟨rfl, rfl⟩)
  · have c_2 := ps_ite1 c_2
    refine lv_iload hx hb d_PS_define_9 (lv_at hl 4 rfl) ?_
    refine lv_iconst (v := nI 0) hx hb d_PS_define_11 (by decide) ?_
    refine ps_readI (wc := []) hP hD hS hA [] rfl (fun _ _ h => h.1) (ps_runSI ⟨hx, hb, hml, hown, hts⟩ (c_isKind l dC dI cI tys ht kind (nI 0)) (ps_cwS ps_gd 2 hts tw_100 k_PS_isKind e_PS_isKind ⟨Nat.le_of_ble_eq_true rfl, Nat.le_of_ble_eq_true rfl⟩) hK hP hD [] (by decide) rfl rfl hl.1 rfl (Nat.le_of_ble_eq_true rfl) d_PS_define_12 ⟨Nat.zero_le _, Nat.zero_le _⟩) (fun r_3 H locs hr_3 hP hS => ?_)
    obtain ⟨-, hr_3⟩ := hr_3
    subst hr_3
    refine lv_if_ne (tgt := 20) hx hb d_PS_define_15 (by decide) (fun c_4 => ?_) (fun c_4 => ?_)
    · have c_4 := ps_ite1 c_4
      refine lv_aload_n hx hb d_PS_define_20 rfl (lv_at hl 0 rfl) ?_
      refine va_get (D := (dC, dI)) (ci := cPS) (v := .ref (a 4)) (C := R_PS) (T := F_PS) (N := 10) hx hb hts i_PS hown hK hP 0 rfl rfl 6 (by decide) (hts _ tw_104) (fun _ h9 => h9) rfl d_PS_define_21 ?_
      refine lv_iload_n hx hb d_PS_define_24 rfl (lv_at hl 1 rfl) ?_
      refine lv_iload_n hx hb d_PS_define_25 rfl (lv_at hl 2 rfl) ?_
      refine lv_iload_n hx hb d_PS_define_26 rfl (lv_at hl 3 rfl) ?_
      refine lv_aload_n hx hb d_PS_define_27 rfl (lv_at hl 0 rfl) ?_
      refine va_get (D := (dC, dI)) (ci := cPS) (v := .ref (a 1)) (C := R_PS) (T := F_PS) (N := 10) hx hb hts i_PS hown hK hP 0 rfl rfl 0 (by decide) (hts _ tw_97) (fun _ h9 => h9) rfl d_PS_define_28 ?_
      refine lv_iconst (v := nI 4) hx hb d_PS_define_31 (by decide) ?_
      refine va_iald hx hb hK hP 1 0 rfl ht (vp_in_nI (show 4 < 6 by decide) (by decide)) d_PS_define_32 ?_
      refine ps_top (z := nI (K 4)) (ps_kat _ 4 (by decide)) ?_
      refine ps_readI (wc := [(a 4, .inr (cKey, [.ref (a 15), .ref (a 16), .ref (a 17), .ref (a 5)])), (a 15, .inr (cCol, [.int (nI 16384), .ref (q 7)])), (q 7, .inl (cI, N 7, .inl (F 7))), (a 16, .inr (cCol, [.int (nI 16384), .ref (q 8)])), (q 8, .inl (cI, N 8, .inl (F 8))), (a 17, .inr (cCol, [.int (nI 16384), .ref (q 9)])), (q 9, .inl (cI, N 9, .inl (F 9))), (a 5, .inr (cVal, [.ref (a 18), .ref (a 19)])), (a 18, .inr (cCol, [.int (nI 16384), .ref (q 10)])), (q 10, .inl (cI, N 10, .inl (F 10)))]) hP hD hS hA [4, 22, 23, 24, 25, 26, 27, 5, 28, 29] rfl (fun _ _ h => h.1) (ps_runVI ⟨hx, hb, hml, hown, hts⟩ (c_kof l dC dI cI tys ht (a 4) (a 5) (a 15) (q 7) (a 16) (q 8) (a 17) (q 9) (a 18) (q 10) (a 19) 16384 (N 7) (N 8) (N 9) (N 10) (F 7) (F 8) (F 9) (F 10) d kk key (K 4) (hw.z 7 (by decide)) (hw.z 8 (by decide)) (hw.z 9 (by decide)) (hw.z 10 (by decide)) (hw.n 7 (by decide)) (hw.n 8 (by decide)) (hw.n 9 (by decide)) (hw.n 10 (by decide)) (by have b4 := hKb 4; omega)) (ps_cwV ps_gd 4 hts tw_200 k_Key_indexOf e_Key_indexOf ⟨Nat.le_of_ble_eq_true rfl, Nat.le_of_ble_eq_true rfl⟩) hK hP hD [4, 22, 23, 24, 25, 26, 27, 5, 28, 29] (by decide) rfl 0 cKey rfl rfl rfl hl.1 rfl (Nat.le_of_ble_eq_true rfl) d_PS_define_33 ⟨Nat.zero_le _, Nat.zero_le _⟩) (fun r_5 H locs hr_5 hP hS => ?_)
      obtain ⟨-, hr_5⟩ := hr_5
      rcases hr_5 with ⟨j, -, hj, hjm, hjn, hr_5⟩ | ⟨hnone, hr_5⟩
      · subst hr_5
        have hj31 : j < 2 ^ 31 := by have b4 := hKb 4; omega
        refine lv_istore (lv' := [(6, .int (nI j)), (0, .ref (a 0)), (1, .int d), (2, .int kk), (3, .int key), (4, .int kind), (5, .int number)]) hx hb d_PS_define_36 hl (by decide) rfl (fun ls hl => ?_)
        refine lv_iload hx hb d_PS_define_38 (lv_at hl 0 rfl) ?_
        refine lv_iconst (v := (-1)) hx hb d_PS_define_40 (by decide) ?_
        refine lv_icmp_ne (tgt := 56) hx hb d_PS_define_41 (by decide) (fun c_6 => ?_) (fun c_6 => ?_)
        · refine lv_aload_n hx hb d_PS_define_56 rfl (lv_at hl 1 rfl) ?_
          refine lv_iconst (v := nI 4) hx hb d_PS_define_57 (by decide) ?_
          refine lv_iload hx hb d_PS_define_58 (lv_at hl 0 rfl) ?_
          by_cases hmu : ps_must S t b (K 5) F 4 j
          · by_cases hfull : 40000 ≤ K 5
            · refine ps_afterI (wc := (pw cI a q K S ck cu F N)) (wr := []) hP hD hS hA [0, 1, 2, 3, 4, 5, 6, 7, 8, 9, 10, 11, 12, 13, 14, 15, 16, 17, 18, 19, 20, 21, 22, 23, 24, 25, 26, 27, 28, 29, 30, 31, 32, 33, 34, 35, 36, 37, 38, 39] [] rfl rfl (by decide) (by decide) (ps_runVI ⟨hx, hb, hml, hown, hts⟩ (c_rem4 l dC dI cI tys ht a q K S ck cu F N hw hKb hSb j t b ht0 hb0 hj31 htw htb 0 0 (fun _ q => absurd hfull q)) (ps_cwV ps_gd 2 hts tw_184 k_PS_remember e_PS_remember ⟨Nat.le_of_ble_eq_true rfl, Nat.le_of_ble_eq_true rfl⟩) hK hP hD [0, 1, 2, 3, 4, 5, 6, 7, 8, 9, 10, 11, 12, 13, 14, 15, 16, 17, 18, 19, 20, 21, 22, 23, 24, 25, 26, 27, 28, 29, 30, 31, 32, 33, 34, 35, 36, 37, 38, 39] (by decide) rfl 0 cPS rfl rfl rfl hl.1 rfl (Nat.le_of_ble_eq_true rfl) d_PS_define_60 ⟨by show 0 + 0 + 0 + 0 ≤ mc; omega, by show 0 + 0 + 0 + 0 ≤ ms; omega⟩) (fun r_8 u_7 H locs hu_7 hP hD hS => ?_)
              obtain ⟨hr_8, vu_7⟩ := (hu_7.y hmu).y hfull
              subst hr_8
              subst vu_7
              have hP : va_P (dC, dI) classes (pw cI a q K S ck cu F N) H := hP
              have hD : va_D A (pw cI a q K S ck cu F N) := hD
              refine lv_if_ne (tgt := 69) hx hb d_PS_define_63 (by decide) (fun c_9 => ?_) (fun c_9 => ?_)
              · exact absurd rfl c_9
              · refine lv_bipush (v := (-3)) hx hb d_PS_define_66 (by decide) ?_
                exact ps_iret hx hb hr hlocks hK hP hD hS (Nat.zero_le _) (Nat.zero_le _) d_PS_define_68 (ps_cy ⟨c_2, c_4⟩ (Or.inr ⟨j, hj, hjm, hjn, ps_cy hmu (ps_cy hfull ⟨rfl, rfl⟩)⟩))
            · have hpay := hm1 ⟨c_2, c_4⟩ j hj hjm hjn hmu hfull
              refine ps_afterI (wc := (pw cI a q K S ck cu F N)) (wr := []) hP hD hS hA [0, 1, 2, 3, 4, 5, 6, 7, 8, 9, 10, 11, 12, 13, 14, 15, 16, 17, 18, 19, 20, 21, 22, 23, 24, 25, 26, 27, 28, 29, 30, 31, 32, 33, 34, 35, 36, 37, 38, 39] [] rfl rfl (by decide) (by decide) (ps_runVI ⟨hx, hb, hml, hown, hts⟩ (c_rem4 l dC dI cI tys ht a q K S ck cu F N hw hKb hSb j t b ht0 hb0 hj31 htw htb (ps_mc N (K 5)) (ps_ms N (K 5)) (fun _ _ => ⟨Nat.le_refl _, Nat.le_refl _⟩)) (ps_cwV ps_gd 2 hts tw_184 k_PS_remember e_PS_remember ⟨Nat.le_of_ble_eq_true rfl, Nat.le_of_ble_eq_true rfl⟩) hK hP hD [0, 1, 2, 3, 4, 5, 6, 7, 8, 9, 10, 11, 12, 13, 14, 15, 16, 17, 18, 19, 20, 21, 22, 23, 24, 25, 26, 27, 28, 29, 30, 31, 32, 33, 34, 35, 36, 37, 38, 39] (by decide) rfl 0 cPS rfl rfl rfl hl.1 rfl (Nat.le_of_ble_eq_true rfl) d_PS_define_60 ⟨by show 0 + 0 + 0 + ps_mc N (K 5) ≤ mc; omega, by show 0 + 0 + 0 + ps_ms N (K 5) ≤ ms; omega⟩) (fun r_11 u_10 H locs hu_10 hP hD hS => ?_)
              obtain ⟨q_12, hr_11, vu_10⟩ := (hu_10.y hmu).n hfull
              subst hr_11
              subst vu_10
              have hP : va_P (dC, dI) classes (pw cI a q_12 (va_up K 5 (K 5 + 1)) S ck cu (va_up (va_up (va_up (va_up F 12 (upd (F 12) (K 5) (nI 4))) 13 (upd (F 13) (K 5) (nI j))) 14 (upd (F 14) (K 5) (F 10 j))) 15 (upd (F 15) (K 5) (if F 10 j = 0 then 0 else F 11 j))) (va_up (va_up (va_up (va_up N 12 (ps_len 40000 (N 12) (K 5))) 13 (ps_len 40000 (N 13) (K 5))) 14 (ps_len 40000 (N 14) (K 5))) 15 (ps_len 40000 (N 15) (K 5)))) H := hP
              have hD : va_D A (pw cI a q_12 (va_up K 5 (K 5 + 1)) S ck cu (va_up (va_up (va_up (va_up F 12 (upd (F 12) (K 5) (nI 4))) 13 (upd (F 13) (K 5) (nI j))) 14 (upd (F 14) (K 5) (F 10 j))) 15 (upd (F 15) (K 5) (if F 10 j = 0 then 0 else F 11 j))) (va_up (va_up (va_up (va_up N 12 (ps_len 40000 (N 12) (K 5))) 13 (ps_len 40000 (N 13) (K 5))) 14 (ps_len 40000 (N 14) (K 5))) 15 (ps_len 40000 (N 15) (K 5)))) := hD
              refine lv_if_ne (tgt := 69) hx hb d_PS_define_63 (by decide) (fun c_13 => ?_) (fun c_13 => ?_)
              · refine lv_aload_n hx hb d_PS_define_69 rfl (lv_at hl 1 rfl) ?_
                refine va_get (D := (dC, dI)) (ci := cPS) (v := .ref (a 4)) (C := R_PS) (T := F_PS) (N := 10) hx hb hts i_PS hown hK hP 0 rfl rfl 6 (by decide) (hts _ tw_104) (fun _ h9 => h9) rfl d_PS_define_70 ?_
                refine va_get (D := (dC, dI)) (ci := cKey) (v := .ref (a 5)) (C := R_Key) (T := F_Key) (N := 4) hx hb hts i_Key hown hK hP 4 rfl rfl 3 (by decide) (hts _ tw_105) (fun _ h9 => h9) rfl d_PS_define_73 ?_
                refine lv_iload hx hb d_PS_define_76 (lv_at hl 0 rfl) ?_
                refine lv_iload hx hb d_PS_define_78 (lv_at hl 5 rfl) ?_
                refine lv_iload hx hb d_PS_define_80 (lv_at hl 6 rfl) ?_
                have hilim : j < 16384 := by omega
                have hw9 := ps_wf_m (o := nI 4) (i := j) (v := F 10 j) (w := F 11 j) hw (show K 5 < 40000 by omega)
                refine ps_afterV (wc := [(a 5, .inr (cVal, [.ref (a 18), .ref (a 19)])), (a 18, .inr (cCol, [.int (nI 16384), .ref (q_12 10)])), (q_12 10, .inl (cI, N 10, .inl (F 10))), (a 19, .inr (cCol, [.int (nI 16384), .ref (q_12 11)])), (q_12 11, .inl (cI, N 11, .inl (F 11)))]) (wr := [0, 1, 2, 3, 4, 6, 7, 8, 9, 10, 11, 12, 13, 14, 15, 16, 17, 18, 19, 20, 21, 22, 23, 24, 25, 26, 27, 32, 33, 34, 35, 36, 37, 38, 39].filterMap (fun z9 => ((pw cI a q_12 (va_up K 5 (K 5 + 1)) S ck cu (va_up (va_up (va_up (va_up F 12 (upd (F 12) (K 5) (nI 4))) 13 (upd (F 13) (K 5) (nI j))) 14 (upd (F 14) (K 5) (F 10 j))) 15 (upd (F 15) (K 5) (if F 10 j = 0 then 0 else F 11 j))) (va_up (va_up (va_up (va_up N 12 (ps_len 40000 (N 12) (K 5))) 13 (ps_len 40000 (N 13) (K 5))) 14 (ps_len 40000 (N 14) (K 5))) 15 (ps_len 40000 (N 15) (K 5)))) : va_W)[z9]?)) hP hD hS hA [5, 28, 29, 30, 31] [0, 1, 2, 3, 4, 6, 7, 8, 9, 10, 11, 12, 13, 14, 15, 16, 17, 18, 19, 20, 21, 22, 23, 24, 25, 26, 27, 32, 33, 34, 35, 36, 37, 38, 39] rfl rfl (by decide) (by decide) (ps_runVV ⟨hx, hb, hml, hown, hts⟩ (c_vwrite l dC dI cI tys ht (a 5) (a 18) (q_12 10) (a 19) (q_12 11) 16384 (N 10) (N 11) (F 10) (F 11) j kind number (hw.z 10 (by decide)) (hw.z 11 (by decide)) (by decide) (hw 10 (by decide)).2 (hw 11 (by decide)).2 hilim) (ps_cwV ps_gd 3 hts tw_159 k_Val_write e_Val_write ⟨Nat.le_of_ble_eq_true rfl, Nat.le_of_ble_eq_true rfl⟩) hK hP hD [5, 28, 29, 30, 31] (by decide) rfl 0 cVal rfl rfl rfl hl.1 rfl (Nat.le_of_ble_eq_true rfl) d_PS_define_82 ⟨by show 0 + 0 + 0 + ps_mc N (K 5) + ps_vc 16384 N 10 j ≤ mc; omega, by show 0 + 0 + 0 + ps_ms N (K 5) + ps_vs 16384 N 10 j ≤ ms; omega⟩) (fun u_14 H locs hu_14 hP hD hS => ?_)
                obtain ⟨q_16, q_17, hu_14⟩ := hu_14
                subst hu_14
                obtain ⟨hP, hD⟩ := ps_perm (ws' := (pw cI a (va_up (va_up q_12 10 q_16) 11 q_17) (va_up K 5 (K 5 + 1)) S ck cu (va_up (va_up (va_up (va_up (va_up (va_up F 12 (upd (F 12) (K 5) (nI 4))) 13 (upd (F 13) (K 5) (nI j))) 14 (upd (F 14) (K 5) (F 10 j))) 15 (upd (F 15) (K 5) (if F 10 j = 0 then 0 else F 11 j))) 10 (upd (F 10) j kind)) 11 (upd (F 11) j (if kind = 0 then 0 else number))) (va_up (va_up (va_up (va_up (va_up (va_up N 12 (ps_len 40000 (N 12) (K 5))) 13 (ps_len 40000 (N 13) (K 5))) 14 (ps_len 40000 (N 14) (K 5))) 15 (ps_len 40000 (N 15) (K 5))) 10 (ps_len 16384 (N 10) j)) 11 (ps_len 16384 (N 11) j)))) hP hD [0, 1, 2, 3, 4, 35, 5, 6, 7, 8, 9, 10, 11, 12, 13, 14, 15, 16, 17, 18, 19, 20, 21, 22, 23, 24, 25, 26, 36, 37, 38, 39, 27, 28, 29, 30, 31, 32, 33, 34] (by decide) rfl
                refine lv_iconst (v := 0) hx hb d_PS_define_85 (by decide) ?_
                exact ps_iret hx hb hr hlocks hK hP hD hS (by show 0 + 0 + 0 + ps_mc N (K 5) + ps_vc 16384 N 10 j ≤ mc; omega) (by show 0 + 0 + 0 + ps_ms N (K 5) + ps_vs 16384 N 10 j ≤ ms; omega) d_PS_define_86 (ps_cy ⟨c_2, c_4⟩ (Or.inr ⟨j, hj, hjm, hjn, ps_cy hmu (ps_cn hfull ⟨(va_up (va_up q_12 10 q_16) 11 q_17), rfl, rfl⟩)⟩))
              · exact absurd c_13 (by decide)
          · have hpay := hm2 ⟨c_2, c_4⟩ j hj hjm hjn hmu
            refine ps_afterI (wc := (pw cI a q K S ck cu F N)) (wr := []) hP hD hS hA [0, 1, 2, 3, 4, 5, 6, 7, 8, 9, 10, 11, 12, 13, 14, 15, 16, 17, 18, 19, 20, 21, 22, 23, 24, 25, 26, 27, 28, 29, 30, 31, 32, 33, 34, 35, 36, 37, 38, 39] [] rfl rfl (by decide) (by decide) (ps_runVI ⟨hx, hb, hml, hown, hts⟩ (c_rem4 l dC dI cI tys ht a q K S ck cu F N hw hKb hSb j t b ht0 hb0 hj31 htw htb 0 0 (fun q => absurd q hmu)) (ps_cwV ps_gd 2 hts tw_184 k_PS_remember e_PS_remember ⟨Nat.le_of_ble_eq_true rfl, Nat.le_of_ble_eq_true rfl⟩) hK hP hD [0, 1, 2, 3, 4, 5, 6, 7, 8, 9, 10, 11, 12, 13, 14, 15, 16, 17, 18, 19, 20, 21, 22, 23, 24, 25, 26, 27, 28, 29, 30, 31, 32, 33, 34, 35, 36, 37, 38, 39] (by decide) rfl 0 cPS rfl rfl rfl hl.1 rfl (Nat.le_of_ble_eq_true rfl) d_PS_define_60 ⟨by show 0 + 0 + 0 + 0 ≤ mc; omega, by show 0 + 0 + 0 + 0 ≤ ms; omega⟩) (fun r_19 u_18 H locs hu_18 hP hD hS => ?_)
            obtain ⟨hr_19, vu_18⟩ := hu_18.n hmu
            subst hr_19
            subst vu_18
            have hP : va_P (dC, dI) classes (pw cI a q K S ck cu F N) H := hP
            have hD : va_D A (pw cI a q K S ck cu F N) := hD
            refine lv_if_ne (tgt := 69) hx hb d_PS_define_63 (by decide) (fun c_20 => ?_) (fun c_20 => ?_)
            · refine lv_aload_n hx hb d_PS_define_69 rfl (lv_at hl 1 rfl) ?_
              refine va_get (D := (dC, dI)) (ci := cPS) (v := .ref (a 4)) (C := R_PS) (T := F_PS) (N := 10) hx hb hts i_PS hown hK hP 0 rfl rfl 6 (by decide) (hts _ tw_104) (fun _ h9 => h9) rfl d_PS_define_70 ?_
              refine va_get (D := (dC, dI)) (ci := cKey) (v := .ref (a 5)) (C := R_Key) (T := F_Key) (N := 4) hx hb hts i_Key hown hK hP 4 rfl rfl 3 (by decide) (hts _ tw_105) (fun _ h9 => h9) rfl d_PS_define_73 ?_
              refine lv_iload hx hb d_PS_define_76 (lv_at hl 0 rfl) ?_
              refine lv_iload hx hb d_PS_define_78 (lv_at hl 5 rfl) ?_
              refine lv_iload hx hb d_PS_define_80 (lv_at hl 6 rfl) ?_
              have hilim : j < 16384 := by omega
              refine ps_afterV (wc := [(a 5, .inr (cVal, [.ref (a 18), .ref (a 19)])), (a 18, .inr (cCol, [.int (nI 16384), .ref (q 10)])), (q 10, .inl (cI, N 10, .inl (F 10))), (a 19, .inr (cCol, [.int (nI 16384), .ref (q 11)])), (q 11, .inl (cI, N 11, .inl (F 11)))]) (wr := [0, 1, 2, 3, 4, 6, 7, 8, 9, 10, 11, 12, 13, 14, 15, 16, 17, 18, 19, 20, 21, 22, 23, 24, 25, 26, 27, 32, 33, 34, 35, 36, 37, 38, 39].filterMap (fun z9 => ((pw cI a q K S ck cu F N) : va_W)[z9]?)) hP hD hS hA [5, 28, 29, 30, 31] [0, 1, 2, 3, 4, 6, 7, 8, 9, 10, 11, 12, 13, 14, 15, 16, 17, 18, 19, 20, 21, 22, 23, 24, 25, 26, 27, 32, 33, 34, 35, 36, 37, 38, 39] rfl rfl (by decide) (by decide) (ps_runVV ⟨hx, hb, hml, hown, hts⟩ (c_vwrite l dC dI cI tys ht (a 5) (a 18) (q 10) (a 19) (q 11) 16384 (N 10) (N 11) (F 10) (F 11) j kind number (hw.z 10 (by decide)) (hw.z 11 (by decide)) (by decide) (hw 10 (by decide)).2 (hw 11 (by decide)).2 hilim) (ps_cwV ps_gd 3 hts tw_159 k_Val_write e_Val_write ⟨Nat.le_of_ble_eq_true rfl, Nat.le_of_ble_eq_true rfl⟩) hK hP hD [5, 28, 29, 30, 31] (by decide) rfl 0 cVal rfl rfl rfl hl.1 rfl (Nat.le_of_ble_eq_true rfl) d_PS_define_82 ⟨by show 0 + 0 + 0 + 0 + ps_vc 16384 N 10 j ≤ mc; omega, by show 0 + 0 + 0 + 0 + ps_vs 16384 N 10 j ≤ ms; omega⟩) (fun u_21 H locs hu_21 hP hD hS => ?_)
              obtain ⟨q_23, q_24, hu_21⟩ := hu_21
              subst hu_21
              obtain ⟨hP, hD⟩ := ps_perm (ws' := (pw cI a (va_up (va_up q 10 q_23) 11 q_24) K S ck cu (va_up (va_up F 10 (upd (F 10) j kind)) 11 (upd (F 11) j (if kind = 0 then 0 else number))) (va_up (va_up N 10 (ps_len 16384 (N 10) j)) 11 (ps_len 16384 (N 11) j)))) hP hD [0, 1, 2, 3, 4, 35, 5, 6, 7, 8, 9, 10, 11, 12, 13, 14, 15, 16, 17, 18, 19, 20, 21, 22, 23, 24, 25, 26, 36, 37, 38, 39, 27, 28, 29, 30, 31, 32, 33, 34] (by decide) rfl
              refine lv_iconst (v := 0) hx hb d_PS_define_85 (by decide) ?_
              exact ps_iret hx hb hr hlocks hK hP hD hS (by show 0 + 0 + 0 + 0 + ps_vc 16384 N 10 j ≤ mc; omega) (by show 0 + 0 + 0 + 0 + ps_vs 16384 N 10 j ≤ ms; omega) d_PS_define_86 (ps_cy ⟨c_2, c_4⟩ (Or.inr ⟨j, hj, hjm, hjn, ps_cn hmu ⟨(va_up (va_up q 10 q_23) 11 q_24), rfl, rfl⟩⟩))
            · exact absurd c_20 (by decide)
        · exact absurd c_6 (ps_m1 hj31)
      · subst hr_5
        refine lv_istore (lv' := [(6, .int (-1)), (0, .ref (a 0)), (1, .int d), (2, .int kk), (3, .int key), (4, .int kind), (5, .int number)]) hx hb d_PS_define_36 hl (by decide) rfl (fun ls hl => ?_)
        refine lv_iload hx hb d_PS_define_38 (lv_at hl 0 rfl) ?_
        refine lv_iconst (v := (-1)) hx hb d_PS_define_40 (by decide) ?_
        refine lv_icmp_ne (tgt := 56) hx hb d_PS_define_41 (by decide) (fun c_25 => ?_) (fun c_25 => ?_)
        · exact absurd rfl c_25
        · refine lv_aload_n hx hb d_PS_define_44 rfl (lv_at hl 1 rfl) ?_
          refine lv_iload_n hx hb d_PS_define_45 rfl (lv_at hl 2 rfl) ?_
          refine lv_iload_n hx hb d_PS_define_46 rfl (lv_at hl 3 rfl) ?_
          refine lv_iload_n hx hb d_PS_define_47 rfl (lv_at hl 4 rfl) ?_
          refine lv_iload hx hb d_PS_define_48 (lv_at hl 5 rfl) ?_
          refine lv_iload hx hb d_PS_define_50 (lv_at hl 6 rfl) ?_
          by_cases hfk : 16384 ≤ K 4
          · refine ps_afterI (wc := (pw cI a q K S ck cu F N)) (wr := []) hP hD hS hA [0, 1, 2, 3, 4, 5, 6, 7, 8, 9, 10, 11, 12, 13, 14, 15, 16, 17, 18, 19, 20, 21, 22, 23, 24, 25, 26, 27, 28, 29, 30, 31, 32, 33, 34, 35, 36, 37, 38, 39] [] rfl rfl (by decide) (by decide) (ps_runVI ⟨hx, hb, hml, hown, hts⟩ (c_addKey l dC dI cI tys ht a q K S ck cu F N hw hKb hSb d kk key kind number 0 0 (fun q => absurd hfk q)) (ps_cwV ps_gd 5 hts tw_201 k_PS_addKey e_PS_addKey ⟨Nat.le_of_ble_eq_true rfl, Nat.le_of_ble_eq_true rfl⟩) hK hP hD [0, 1, 2, 3, 4, 5, 6, 7, 8, 9, 10, 11, 12, 13, 14, 15, 16, 17, 18, 19, 20, 21, 22, 23, 24, 25, 26, 27, 28, 29, 30, 31, 32, 33, 34, 35, 36, 37, 38, 39] (by decide) rfl 0 cPS rfl rfl rfl hl.1 rfl (Nat.le_of_ble_eq_true rfl) d_PS_define_52 ⟨by show 0 + 0 + 0 + 0 ≤ mc; omega, by show 0 + 0 + 0 + 0 ≤ ms; omega⟩) (fun r_27 u_26 H locs hu_26 hP hD hS => ?_)
            obtain ⟨hr_27, vu_26⟩ := hu_26.y hfk
            subst hr_27
            subst vu_26
            have hP : va_P (dC, dI) classes (pw cI a q K S ck cu F N) H := hP
            have hD : va_D A (pw cI a q K S ck cu F N) := hD
            exact ps_iret hx hb hr hlocks hK hP hD hS (by show 0 + 0 + 0 + 0 ≤ mc; omega) (by show 0 + 0 + 0 + 0 ≤ ms; omega) d_PS_define_55 (ps_cy ⟨c_2, c_4⟩ (Or.inl ⟨hnone, ps_cy hfk ⟨rfl, rfl⟩⟩))
          · have hpay := hm0 ⟨c_2, c_4⟩ hnone hfk
            refine ps_afterI (wc := (pw cI a q K S ck cu F N)) (wr := []) hP hD hS hA [0, 1, 2, 3, 4, 5, 6, 7, 8, 9, 10, 11, 12, 13, 14, 15, 16, 17, 18, 19, 20, 21, 22, 23, 24, 25, 26, 27, 28, 29, 30, 31, 32, 33, 34, 35, 36, 37, 38, 39] [] rfl rfl (by decide) (by decide) (ps_runVI ⟨hx, hb, hml, hown, hts⟩ (c_addKey l dC dI cI tys ht a q K S ck cu F N hw hKb hSb d kk key kind number (ps_kc N (K 4)) (ps_ks N (K 4)) (fun _ => ⟨Nat.le_refl _, Nat.le_refl _⟩)) (ps_cwV ps_gd 5 hts tw_201 k_PS_addKey e_PS_addKey ⟨Nat.le_of_ble_eq_true rfl, Nat.le_of_ble_eq_true rfl⟩) hK hP hD [0, 1, 2, 3, 4, 5, 6, 7, 8, 9, 10, 11, 12, 13, 14, 15, 16, 17, 18, 19, 20, 21, 22, 23, 24, 25, 26, 27, 28, 29, 30, 31, 32, 33, 34, 35, 36, 37, 38, 39] (by decide) rfl 0 cPS rfl rfl rfl hl.1 rfl (Nat.le_of_ble_eq_true rfl) d_PS_define_52 ⟨by show 0 + 0 + 0 + ps_kc N (K 4) ≤ mc; omega, by show 0 + 0 + 0 + ps_ks N (K 4) ≤ ms; omega⟩) (fun r_29 u_28 H locs hu_28 hP hD hS => ?_)
            obtain ⟨q_30, hr_29, vu_28⟩ := hu_28.n hfk
            subst hr_29
            subst vu_28
            have hP : va_P (dC, dI) classes (pw cI a q_30 (va_up K 4 (K 4 + 1)) S ck cu (va_up (va_up (va_up (va_up (va_up F 7 (upd (F 7) (K 4) (d))) 8 (upd (F 8) (K 4) (kk))) 9 (upd (F 9) (K 4) (key))) 10 (upd (F 10) (K 4) (kind))) 11 (upd (F 11) (K 4) (if kind = 0 then 0 else number))) (va_up (va_up (va_up (va_up (va_up N 7 (ps_len 16384 (N 7) (K 4))) 8 (ps_len 16384 (N 8) (K 4))) 9 (ps_len 16384 (N 9) (K 4))) 10 (ps_len 16384 (N 10) (K 4))) 11 (ps_len 16384 (N 11) (K 4)))) H := hP
            have hD : va_D A (pw cI a q_30 (va_up K 4 (K 4 + 1)) S ck cu (va_up (va_up (va_up (va_up (va_up F 7 (upd (F 7) (K 4) (d))) 8 (upd (F 8) (K 4) (kk))) 9 (upd (F 9) (K 4) (key))) 10 (upd (F 10) (K 4) (kind))) 11 (upd (F 11) (K 4) (if kind = 0 then 0 else number))) (va_up (va_up (va_up (va_up (va_up N 7 (ps_len 16384 (N 7) (K 4))) 8 (ps_len 16384 (N 8) (K 4))) 9 (ps_len 16384 (N 9) (K 4))) 10 (ps_len 16384 (N 10) (K 4))) 11 (ps_len 16384 (N 11) (K 4)))) := hD
            exact ps_iret hx hb hr hlocks hK hP hD hS (by show 0 + 0 + 0 + ps_kc N (K 4) ≤ mc; omega) (by show 0 + 0 + 0 + ps_ks N (K 4) ≤ ms; omega) d_PS_define_55 (ps_cy ⟨c_2, c_4⟩ (Or.inl ⟨hnone, ps_cn hfk ⟨q_30, rfl, rfl⟩⟩))
    · have c_4 := ps_ite0 c_4
      refine lv_iconst (v := (-1)) hx hb d_PS_define_18 (by decide) ?_
      exact ps_iret hx hb hr hlocks hK hP hD hS (Nat.zero_le _) (Nat.zero_le _) d_PS_define_19 (ps_cn (fun q => c_4 q.2) ⟨rfl, rfl⟩)

set_option maxHeartbeats 4000000 in
set_option maxRecDepth 100000 in
/-- PageStore.next -/
theorem c_next (l : Launch) (dC : Nat → ClassId) (dI : Nat → Nat → Nat) (cI : ClassId) (tys : List (ClassId × FieldType)) (ht : tys[0]? = some (cI, FieldType.int)) (a q K : Nat → Nat) (S : Nat) (ck cu : Int32) (F : Nat → Nat → Int32) (N : Nat → Nat) (hw : ps_wf F N) (hKb : ∀ j, K j ≤ 65536) (hSb : S ≤ 15) (d kk key : Int32) : ps_mI classes l y_PS_next w_PS_next ({ frames := 3, cells := 0, slots := 0, locals := 67 }) (dC, dI) tys [.ref (a 0), .int d, .int kk, .int key] (pw cI a q K S ck cu F N) (fun r u => ps_c ((nI 1 ≤ d ∧ d ≤ nI (K 3)) ∧ (nI 0 ≤ kk ∧ kk ≤ nI 15)) (ps_c (kk = 0) ((∃ p0 : Nat, 0 ≤ p0 ∧ p0 < K 4 ∧ (fun j => F 7 j = d ∧ ¬ F 10 j = -1) p0 ∧ ps_not (fun j => F 7 j = d ∧ ¬ F 10 j = -1) (0) p0 ∧ r = 1 ∧ u = pw cI a q K S (F 8 p0) (F 9 p0) F N) ∨ (ps_not (fun j => F 7 j = d ∧ ¬ F 10 j = -1) (0) (K 4) ∧ r = 0 ∧ u = pw cI a q K S 0 0 F N)) ((ps_not (fun j => F 9 j = key ∧ F 8 j = kk ∧ F 7 j = d) 0 (K 4) ∧ r = -2 ∧ u = pw cI a q K S ck cu F N) ∨ (∃ j : Nat, j < K 4 ∧ (fun j => F 9 j = key ∧ F 8 j = kk ∧ F 7 j = d) j ∧ ps_not (fun j => F 9 j = key ∧ F 8 j = kk ∧ F 7 j = d) 0 j ∧ ((∃ p0 : Nat, j + 1 ≤ p0 ∧ p0 < K 4 ∧ (fun j => F 7 j = d ∧ ¬ F 10 j = -1) p0 ∧ ps_not (fun j => F 7 j = d ∧ ¬ F 10 j = -1) (j + 1) p0 ∧ r = 1 ∧ u = pw cI a q K S (F 8 p0) (F 9 p0) F N) ∨ (ps_not (fun j => F 7 j = d ∧ ¬ F 10 j = -1) (j + 1) (K 4) ∧ r = 0 ∧ u = pw cI a q K S 0 0 F N))))) (r = -1 ∧ u = pw cI a q K S ck cu F N)) := by
  refine ps_mI_of (by decide) rfl (Nat.le_of_ble_eq_true rfl) ?_
  intro p e s m below meth c A ls C0 hA hK hP hD hS hl
  obtain ⟨hx, hb, hr, hml, hts, hown, hlocks, hin⟩ := C0
  have hl : lv_has ls 6 [(0, .ref (a 0)), (1, .int d), (2, .int kk), (3, .int key)] := hl
  have hP : va_P (dC, dI) classes (pw cI a q K S ck cu F N) s.heap := hP
  have hD : va_D A (pw cI a q K S ck cu F N) := hD
  refine lv_aload_n hx hb d_PS_next_0 rfl (lv_at hl 0 rfl) ?_
  refine lv_iload_n hx hb d_PS_next_1 rfl (lv_at hl 1 rfl) ?_
  refine ps_readI (wc := (pw cI a q K S ck cu F N)) hP hD hS hA [0, 1, 2, 3, 4, 5, 6, 7, 8, 9, 10, 11, 12, 13, 14, 15, 16, 17, 18, 19, 20, 21, 22, 23, 24, 25, 26, 27, 28, 29, 30, 31, 32, 33, 34, 35, 36, 37, 38, 39] rfl (fun _ _ h => h.1) (ps_runVI ⟨hx, hb, hml, hown, hts⟩ (c_isDic l dC dI cI tys ht a q K S ck cu F N hw hKb hSb d) (ps_cwV ps_gd 1 hts tw_99 k_PS_isDictionary e_PS_isDictionary ⟨Nat.le_of_ble_eq_true rfl, Nat.le_of_ble_eq_true rfl⟩) hK hP hD [0, 1, 2, 3, 4, 5, 6, 7, 8, 9, 10, 11, 12, 13, 14, 15, 16, 17, 18, 19, 20, 21, 22, 23, 24, 25, 26, 27, 28, 29, 30, 31, 32, 33, 34, 35, 36, 37, 38, 39] (by decide) rfl 0 cPS rfl rfl rfl hl.1 rfl (Nat.le_of_ble_eq_true rfl) d_PS_next_2 ⟨Nat.zero_le _, Nat.zero_le _⟩) (fun r_1 H locs hr_1 hP hS => ?_)
  obtain ⟨-, hr_1⟩ := hr_1
  subst hr_1
  refine lv_if_eq (tgt := 16) hx hb d_PS_next_5 (by decide) (fun c_2 => ?_) (fun c_2 => ?_)
  · have c_2 := ps_ite0 c_2
    refine lv_iconst (v := (-1)) hx hb d_PS_next_16 (by decide) ?_
    exact ps_iret hx hb hr hlocks hK hP hD hS (Nat.le_of_ble_eq_true rfl) (Nat.le_of_ble_eq_true rfl) d_PS_next_17 (ps_cn (fun q => c_2 q.1) ⟨rfl, rfl⟩)
  · have c_2 := ps_ite1 c_2
    refine lv_iload_n hx hb d_PS_next_8 rfl (lv_at hl 2 rfl) ?_
    refine lv_iconst (v := nI 0) hx hb d_PS_next_9 (by decide) ?_
    refine ps_readI (wc := []) hP hD hS hA [] rfl (fun _ _ h => h.1) (ps_runSI ⟨hx, hb, hml, hown, hts⟩ (c_isKind l dC dI cI tys ht kk (nI 0)) (ps_cwS ps_gd 2 hts tw_100 k_PS_isKind e_PS_isKind ⟨Nat.le_of_ble_eq_true rfl, Nat.le_of_ble_eq_true rfl⟩) hK hP hD [] (by decide) rfl rfl hl.1 rfl (Nat.le_of_ble_eq_true rfl) d_PS_next_10 ⟨Nat.zero_le _, Nat.zero_le _⟩) (fun r_3 H locs hr_3 hP hS => ?_)
    obtain ⟨-, hr_3⟩ := hr_3
    subst hr_3
    refine lv_if_ne (tgt := 18) hx hb d_PS_next_13 (by decide) (fun c_4 => ?_) (fun c_4 => ?_)
    · have c_4 := ps_ite1 c_4
      refine lv_iconst (v := nI 0) hx hb d_PS_next_18 (by decide) ?_
      refine lv_istore (lv' := [(4, .int (nI 0)), (0, .ref (a 0)), (1, .int d), (2, .int kk), (3, .int key)]) hx hb d_PS_next_19 hl (by decide) rfl (fun ls hl => ?_)
      refine lv_iload_n hx hb d_PS_next_21 rfl (lv_at hl 3 rfl) ?_
      refine lv_if_eq (tgt := 58) hx hb d_PS_next_22 (by decide) (fun c_5 => ?_) (fun c_5 => ?_)
      · refine lv_aload_n hx hb d_PS_next_58 rfl (lv_at hl 1 rfl) ?_
        refine lv_aload_n hx hb d_PS_next_59 rfl (lv_at hl 1 rfl) ?_
        refine va_get (D := (dC, dI)) (ci := cPS) (v := .ref (a 4)) (C := R_PS) (T := F_PS) (N := 10) hx hb hts i_PS hown hK hP 0 rfl rfl 6 (by decide) (hts _ tw_104) (fun _ h9 => h9) rfl d_PS_next_60 ?_
        refine lv_iload_n hx hb d_PS_next_63 rfl (lv_at hl 2 rfl) ?_
        refine lv_iload hx hb d_PS_next_64 (lv_at hl 0 rfl) ?_
        refine lv_aload_n hx hb d_PS_next_66 rfl (lv_at hl 1 rfl) ?_
        refine va_get (D := (dC, dI)) (ci := cPS) (v := .ref (a 1)) (C := R_PS) (T := F_PS) (N := 10) hx hb hts i_PS hown hK hP 0 rfl rfl 0 (by decide) (hts _ tw_97) (fun _ h9 => h9) rfl d_PS_next_67 ?_
        refine lv_iconst (v := nI 4) hx hb d_PS_next_70 (by decide) ?_
        refine va_iald hx hb hK hP 1 0 rfl ht (vp_in_nI (show 4 < 6 by decide) (by decide)) d_PS_next_71 ?_
        refine ps_top (z := nI (K 4)) (ps_kat _ 4 (by decide)) ?_
        refine ps_readI (wc := [(a 4, .inr (cKey, [.ref (a 15), .ref (a 16), .ref (a 17), .ref (a 5)])), (a 15, .inr (cCol, [.int (nI 16384), .ref (q 7)])), (q 7, .inl (cI, N 7, .inl (F 7))), (a 16, .inr (cCol, [.int (nI 16384), .ref (q 8)])), (q 8, .inl (cI, N 8, .inl (F 8))), (a 17, .inr (cCol, [.int (nI 16384), .ref (q 9)])), (q 9, .inl (cI, N 9, .inl (F 9))), (a 5, .inr (cVal, [.ref (a 18), .ref (a 19)])), (a 18, .inr (cCol, [.int (nI 16384), .ref (q 10)])), (q 10, .inl (cI, N 10, .inl (F 10)))]) hP hD hS hA [4, 22, 23, 24, 25, 26, 27, 5, 28, 29] rfl (fun _ _ h => h.1) (ps_runVI ⟨hx, hb, hml, hown, hts⟩ (c_kfirst l dC dI cI tys ht (a 4) (a 5) (a 15) (q 7) (a 16) (q 8) (a 17) (q 9) (a 18) (q 10) (a 19) 16384 (N 7) (N 8) (N 9) (N 10) (F 7) (F 8) (F 9) (F 10) d 0 (K 4) (hw.z 7 (by decide)) (hw.z 8 (by decide)) (hw.z 9 (by decide)) (hw.z 10 (by decide)) (hw.n 7 (by decide)) (hw.n 8 (by decide)) (hw.n 9 (by decide)) (hw.n 10 (by decide)) (by have b4 := hKb 4; omega) (by have b4 := hKb 4; omega)) (ps_cwV ps_gd 3 hts tw_202 k_Key_firstThere e_Key_firstThere ⟨Nat.le_of_ble_eq_true rfl, Nat.le_of_ble_eq_true rfl⟩) hK hP hD [4, 22, 23, 24, 25, 26, 27, 5, 28, 29] (by decide) rfl 0 cKey rfl rfl rfl hl.1 rfl (Nat.le_of_ble_eq_true rfl) d_PS_next_72 ⟨Nat.zero_le _, Nat.zero_le _⟩) (fun r_6 H locs hr_6 hP hS => ?_)
        obtain ⟨-, hr_6⟩ := hr_6
        rcases hr_6 with ⟨p0, hp1, hp2, hp3, hp4, hr_6⟩ | ⟨hend, hr_6⟩
        · subst hr_6
          refine ps_afterI (wc := (pw cI a q K S ck cu F N)) (wr := []) hP hD hS hA [0, 1, 2, 3, 4, 5, 6, 7, 8, 9, 10, 11, 12, 13, 14, 15, 16, 17, 18, 19, 20, 21, 22, 23, 24, 25, 26, 27, 28, 29, 30, 31, 32, 33, 34, 35, 36, 37, 38, 39] [] rfl rfl (by decide) (by decide) (ps_runVI ⟨hx, hb, hml, hown, hts⟩ (c_mvcS l dC dI cI tys ht a q K S ck cu F N hw hKb hSb p0 (by have b4 := hKb 4; omega)) (ps_cwV ps_gd 1 hts tw_203 k_PS_moveCursor e_PS_moveCursor ⟨Nat.le_of_ble_eq_true rfl, Nat.le_of_ble_eq_true rfl⟩) hK hP hD [0, 1, 2, 3, 4, 5, 6, 7, 8, 9, 10, 11, 12, 13, 14, 15, 16, 17, 18, 19, 20, 21, 22, 23, 24, 25, 26, 27, 28, 29, 30, 31, 32, 33, 34, 35, 36, 37, 38, 39] (by decide) rfl 0 cPS rfl rfl rfl hl.1 rfl (Nat.le_of_ble_eq_true rfl) d_PS_next_75 ⟨Nat.zero_le _, Nat.zero_le _⟩) (fun r_8 u_7 H locs hu_7 hP hD hS => ?_)
          obtain ⟨hr_8, vu_7⟩ := hu_7
          subst hr_8
          subst vu_7
          have hP : va_P (dC, dI) classes (pw cI a q K S (F 8 p0) (F 9 p0) F N) H := hP
          have hD : va_D A (pw cI a q K S (F 8 p0) (F 9 p0) F N) := hD
          exact ps_iret hx hb hr hlocks hK hP hD hS (Nat.le_of_ble_eq_true rfl) (Nat.le_of_ble_eq_true rfl) d_PS_next_78 (ps_cy ⟨c_2, c_4⟩ (ps_cy c_5 (Or.inl ⟨p0, hp1, hp2, hp3, hp4, rfl, rfl⟩)))
        · subst hr_6
          refine ps_afterI (wc := (pw cI a q K S ck cu F N)) (wr := []) hP hD hS hA [0, 1, 2, 3, 4, 5, 6, 7, 8, 9, 10, 11, 12, 13, 14, 15, 16, 17, 18, 19, 20, 21, 22, 23, 24, 25, 26, 27, 28, 29, 30, 31, 32, 33, 34, 35, 36, 37, 38, 39] [] rfl rfl (by decide) (by decide) (ps_runVI ⟨hx, hb, hml, hown, hts⟩ (c_mvcN l dC dI cI tys ht a q K S ck cu F N hw hKb hSb) (ps_cwV ps_gd 1 hts tw_203 k_PS_moveCursor e_PS_moveCursor ⟨Nat.le_of_ble_eq_true rfl, Nat.le_of_ble_eq_true rfl⟩) hK hP hD [0, 1, 2, 3, 4, 5, 6, 7, 8, 9, 10, 11, 12, 13, 14, 15, 16, 17, 18, 19, 20, 21, 22, 23, 24, 25, 26, 27, 28, 29, 30, 31, 32, 33, 34, 35, 36, 37, 38, 39] (by decide) rfl 0 cPS rfl rfl rfl hl.1 rfl (Nat.le_of_ble_eq_true rfl) d_PS_next_75 ⟨Nat.zero_le _, Nat.zero_le _⟩) (fun r_10 u_9 H locs hu_9 hP hD hS => ?_)
          obtain ⟨hr_10, vu_9⟩ := hu_9
          subst hr_10
          subst vu_9
          have hP : va_P (dC, dI) classes (pw cI a q K S 0 0 F N) H := hP
          have hD : va_D A (pw cI a q K S 0 0 F N) := hD
          exact ps_iret hx hb hr hlocks hK hP hD hS (Nat.le_of_ble_eq_true rfl) (Nat.le_of_ble_eq_true rfl) d_PS_next_78 (ps_cy ⟨c_2, c_4⟩ (ps_cy c_5 (Or.inr ⟨hend, rfl, rfl⟩)))
      · refine lv_aload_n hx hb d_PS_next_25 rfl (lv_at hl 1 rfl) ?_
        refine va_get (D := (dC, dI)) (ci := cPS) (v := .ref (a 4)) (C := R_PS) (T := F_PS) (N := 10) hx hb hts i_PS hown hK hP 0 rfl rfl 6 (by decide) (hts _ tw_104) (fun _ h9 => h9) rfl d_PS_next_26 ?_
        refine lv_iload_n hx hb d_PS_next_29 rfl (lv_at hl 2 rfl) ?_
        refine lv_iload_n hx hb d_PS_next_30 rfl (lv_at hl 3 rfl) ?_
        refine lv_iload_n hx hb d_PS_next_31 rfl (lv_at hl 4 rfl) ?_
        refine lv_aload_n hx hb d_PS_next_32 rfl (lv_at hl 1 rfl) ?_
        refine va_get (D := (dC, dI)) (ci := cPS) (v := .ref (a 1)) (C := R_PS) (T := F_PS) (N := 10) hx hb hts i_PS hown hK hP 0 rfl rfl 0 (by decide) (hts _ tw_97) (fun _ h9 => h9) rfl d_PS_next_33 ?_
        refine lv_iconst (v := nI 4) hx hb d_PS_next_36 (by decide) ?_
        refine va_iald hx hb hK hP 1 0 rfl ht (vp_in_nI (show 4 < 6 by decide) (by decide)) d_PS_next_37 ?_
        refine ps_top (z := nI (K 4)) (ps_kat _ 4 (by decide)) ?_
        refine ps_readI (wc := [(a 4, .inr (cKey, [.ref (a 15), .ref (a 16), .ref (a 17), .ref (a 5)])), (a 15, .inr (cCol, [.int (nI 16384), .ref (q 7)])), (q 7, .inl (cI, N 7, .inl (F 7))), (a 16, .inr (cCol, [.int (nI 16384), .ref (q 8)])), (q 8, .inl (cI, N 8, .inl (F 8))), (a 17, .inr (cCol, [.int (nI 16384), .ref (q 9)])), (q 9, .inl (cI, N 9, .inl (F 9))), (a 5, .inr (cVal, [.ref (a 18), .ref (a 19)])), (a 18, .inr (cCol, [.int (nI 16384), .ref (q 10)])), (q 10, .inl (cI, N 10, .inl (F 10)))]) hP hD hS hA [4, 22, 23, 24, 25, 26, 27, 5, 28, 29] rfl (fun _ _ h => h.1) (ps_runVI ⟨hx, hb, hml, hown, hts⟩ (c_kof l dC dI cI tys ht (a 4) (a 5) (a 15) (q 7) (a 16) (q 8) (a 17) (q 9) (a 18) (q 10) (a 19) 16384 (N 7) (N 8) (N 9) (N 10) (F 7) (F 8) (F 9) (F 10) d kk key (K 4) (hw.z 7 (by decide)) (hw.z 8 (by decide)) (hw.z 9 (by decide)) (hw.z 10 (by decide)) (hw.n 7 (by decide)) (hw.n 8 (by decide)) (hw.n 9 (by decide)) (hw.n 10 (by decide)) (by have b4 := hKb 4; omega)) (ps_cwV ps_gd 4 hts tw_200 k_Key_indexOf e_Key_indexOf ⟨Nat.le_of_ble_eq_true rfl, Nat.le_of_ble_eq_true rfl⟩) hK hP hD [4, 22, 23, 24, 25, 26, 27, 5, 28, 29] (by decide) rfl 0 cKey rfl rfl rfl hl.1 rfl (Nat.le_of_ble_eq_true rfl) d_PS_next_38 ⟨Nat.zero_le _, Nat.zero_le _⟩) (fun r_11 H locs hr_11 hP hS => ?_)
        obtain ⟨-, hr_11⟩ := hr_11
        rcases hr_11 with ⟨j, -, hj, hjm, hjn, hr_11⟩ | ⟨hnone, hr_11⟩
        · subst hr_11
          have hj31 : j < 2 ^ 31 := by have b4 := hKb 4; omega
          refine lv_istore (lv' := [(5, .int (nI j)), (4, .int (nI 0)), (0, .ref (a 0)), (1, .int d), (2, .int kk), (3, .int key)]) hx hb d_PS_next_41 hl (by decide) rfl (fun ls hl => ?_)
          refine lv_iload hx hb d_PS_next_43 (lv_at hl 0 rfl) ?_
          refine lv_iconst (v := (-1)) hx hb d_PS_next_45 (by decide) ?_
          refine lv_icmp_ne (tgt := 52) hx hb d_PS_next_46 (by decide) (fun c_12 => ?_) (fun c_12 => ?_)
          · refine lv_iload hx hb d_PS_next_52 (lv_at hl 0 rfl) ?_
            refine lv_iconst (v := nI 1) hx hb d_PS_next_54 (by decide) ?_
            refine lv_iadd hx hb d_PS_next_55 ?_
            refine ps_top (z := nI (j + 1)) (nI_add _ _) ?_
            refine lv_istore (lv' := [(4, .int (nI (j + 1))), (5, .int (nI j)), (0, .ref (a 0)), (1, .int d), (2, .int kk), (3, .int key)]) hx hb d_PS_next_56 hl (by decide) rfl (fun ls hl => ?_)
            refine lv_aload_n hx hb d_PS_next_58 rfl (lv_at hl 2 rfl) ?_
            refine lv_aload_n hx hb d_PS_next_59 rfl (lv_at hl 2 rfl) ?_
            refine va_get (D := (dC, dI)) (ci := cPS) (v := .ref (a 4)) (C := R_PS) (T := F_PS) (N := 10) hx hb hts i_PS hown hK hP 0 rfl rfl 6 (by decide) (hts _ tw_104) (fun _ h9 => h9) rfl d_PS_next_60 ?_
            refine lv_iload_n hx hb d_PS_next_63 rfl (lv_at hl 3 rfl) ?_
            refine lv_iload hx hb d_PS_next_64 (lv_at hl 0 rfl) ?_
            refine lv_aload_n hx hb d_PS_next_66 rfl (lv_at hl 2 rfl) ?_
            refine va_get (D := (dC, dI)) (ci := cPS) (v := .ref (a 1)) (C := R_PS) (T := F_PS) (N := 10) hx hb hts i_PS hown hK hP 0 rfl rfl 0 (by decide) (hts _ tw_97) (fun _ h9 => h9) rfl d_PS_next_67 ?_
            refine lv_iconst (v := nI 4) hx hb d_PS_next_70 (by decide) ?_
            refine va_iald hx hb hK hP 1 0 rfl ht (vp_in_nI (show 4 < 6 by decide) (by decide)) d_PS_next_71 ?_
            refine ps_top (z := nI (K 4)) (ps_kat _ 4 (by decide)) ?_
            refine ps_readI (wc := [(a 4, .inr (cKey, [.ref (a 15), .ref (a 16), .ref (a 17), .ref (a 5)])), (a 15, .inr (cCol, [.int (nI 16384), .ref (q 7)])), (q 7, .inl (cI, N 7, .inl (F 7))), (a 16, .inr (cCol, [.int (nI 16384), .ref (q 8)])), (q 8, .inl (cI, N 8, .inl (F 8))), (a 17, .inr (cCol, [.int (nI 16384), .ref (q 9)])), (q 9, .inl (cI, N 9, .inl (F 9))), (a 5, .inr (cVal, [.ref (a 18), .ref (a 19)])), (a 18, .inr (cCol, [.int (nI 16384), .ref (q 10)])), (q 10, .inl (cI, N 10, .inl (F 10)))]) hP hD hS hA [4, 22, 23, 24, 25, 26, 27, 5, 28, 29] rfl (fun _ _ h => h.1) (ps_runVI ⟨hx, hb, hml, hown, hts⟩ (c_kfirst l dC dI cI tys ht (a 4) (a 5) (a 15) (q 7) (a 16) (q 8) (a 17) (q 9) (a 18) (q 10) (a 19) 16384 (N 7) (N 8) (N 9) (N 10) (F 7) (F 8) (F 9) (F 10) d (j + 1) (K 4) (hw.z 7 (by decide)) (hw.z 8 (by decide)) (hw.z 9 (by decide)) (hw.z 10 (by decide)) (hw.n 7 (by decide)) (hw.n 8 (by decide)) (hw.n 9 (by decide)) (hw.n 10 (by decide)) (by have b4 := hKb 4; omega) (by have b4 := hKb 4; omega)) (ps_cwV ps_gd 3 hts tw_202 k_Key_firstThere e_Key_firstThere ⟨Nat.le_of_ble_eq_true rfl, Nat.le_of_ble_eq_true rfl⟩) hK hP hD [4, 22, 23, 24, 25, 26, 27, 5, 28, 29] (by decide) rfl 0 cKey rfl rfl rfl hl.1 rfl (Nat.le_of_ble_eq_true rfl) d_PS_next_72 ⟨Nat.zero_le _, Nat.zero_le _⟩) (fun r_13 H locs hr_13 hP hS => ?_)
            obtain ⟨-, hr_13⟩ := hr_13
            rcases hr_13 with ⟨p0, hp1, hp2, hp3, hp4, hr_13⟩ | ⟨hend, hr_13⟩
            · subst hr_13
              refine ps_afterI (wc := (pw cI a q K S ck cu F N)) (wr := []) hP hD hS hA [0, 1, 2, 3, 4, 5, 6, 7, 8, 9, 10, 11, 12, 13, 14, 15, 16, 17, 18, 19, 20, 21, 22, 23, 24, 25, 26, 27, 28, 29, 30, 31, 32, 33, 34, 35, 36, 37, 38, 39] [] rfl rfl (by decide) (by decide) (ps_runVI ⟨hx, hb, hml, hown, hts⟩ (c_mvcS l dC dI cI tys ht a q K S ck cu F N hw hKb hSb p0 (by have b4 := hKb 4; omega)) (ps_cwV ps_gd 1 hts tw_203 k_PS_moveCursor e_PS_moveCursor ⟨Nat.le_of_ble_eq_true rfl, Nat.le_of_ble_eq_true rfl⟩) hK hP hD [0, 1, 2, 3, 4, 5, 6, 7, 8, 9, 10, 11, 12, 13, 14, 15, 16, 17, 18, 19, 20, 21, 22, 23, 24, 25, 26, 27, 28, 29, 30, 31, 32, 33, 34, 35, 36, 37, 38, 39] (by decide) rfl 0 cPS rfl rfl rfl hl.1 rfl (Nat.le_of_ble_eq_true rfl) d_PS_next_75 ⟨Nat.zero_le _, Nat.zero_le _⟩) (fun r_15 u_14 H locs hu_14 hP hD hS => ?_)
              obtain ⟨hr_15, vu_14⟩ := hu_14
              subst hr_15
              subst vu_14
              have hP : va_P (dC, dI) classes (pw cI a q K S (F 8 p0) (F 9 p0) F N) H := hP
              have hD : va_D A (pw cI a q K S (F 8 p0) (F 9 p0) F N) := hD
              exact ps_iret hx hb hr hlocks hK hP hD hS (Nat.le_of_ble_eq_true rfl) (Nat.le_of_ble_eq_true rfl) d_PS_next_78 (ps_cy ⟨c_2, c_4⟩ (ps_cn c_5 (Or.inr ⟨j, hj, hjm, hjn, Or.inl ⟨p0, hp1, hp2, hp3, hp4, rfl, rfl⟩⟩)))
            · subst hr_13
              refine ps_afterI (wc := (pw cI a q K S ck cu F N)) (wr := []) hP hD hS hA [0, 1, 2, 3, 4, 5, 6, 7, 8, 9, 10, 11, 12, 13, 14, 15, 16, 17, 18, 19, 20, 21, 22, 23, 24, 25, 26, 27, 28, 29, 30, 31, 32, 33, 34, 35, 36, 37, 38, 39] [] rfl rfl (by decide) (by decide) (ps_runVI ⟨hx, hb, hml, hown, hts⟩ (c_mvcN l dC dI cI tys ht a q K S ck cu F N hw hKb hSb) (ps_cwV ps_gd 1 hts tw_203 k_PS_moveCursor e_PS_moveCursor ⟨Nat.le_of_ble_eq_true rfl, Nat.le_of_ble_eq_true rfl⟩) hK hP hD [0, 1, 2, 3, 4, 5, 6, 7, 8, 9, 10, 11, 12, 13, 14, 15, 16, 17, 18, 19, 20, 21, 22, 23, 24, 25, 26, 27, 28, 29, 30, 31, 32, 33, 34, 35, 36, 37, 38, 39] (by decide) rfl 0 cPS rfl rfl rfl hl.1 rfl (Nat.le_of_ble_eq_true rfl) d_PS_next_75 ⟨Nat.zero_le _, Nat.zero_le _⟩) (fun r_17 u_16 H locs hu_16 hP hD hS => ?_)
              obtain ⟨hr_17, vu_16⟩ := hu_16
              subst hr_17
              subst vu_16
              have hP : va_P (dC, dI) classes (pw cI a q K S 0 0 F N) H := hP
              have hD : va_D A (pw cI a q K S 0 0 F N) := hD
              exact ps_iret hx hb hr hlocks hK hP hD hS (Nat.le_of_ble_eq_true rfl) (Nat.le_of_ble_eq_true rfl) d_PS_next_78 (ps_cy ⟨c_2, c_4⟩ (ps_cn c_5 (Or.inr ⟨j, hj, hjm, hjn, Or.inr ⟨hend, rfl, rfl⟩⟩)))
          · exact absurd c_12 (ps_m1 hj31)
        · subst hr_11
          refine lv_istore (lv' := [(5, .int (-1)), (4, .int (nI 0)), (0, .ref (a 0)), (1, .int d), (2, .int kk), (3, .int key)]) hx hb d_PS_next_41 hl (by decide) rfl (fun ls hl => ?_)
          refine lv_iload hx hb d_PS_next_43 (lv_at hl 0 rfl) ?_
          refine lv_iconst (v := (-1)) hx hb d_PS_next_45 (by decide) ?_
          refine lv_icmp_ne (tgt := 52) hx hb d_PS_next_46 (by decide) (fun c_18 => ?_) (fun c_18 => ?_)
          · exact absurd rfl c_18
          · refine lv_bipush (v := (-2)) hx hb d_PS_next_49 (by decide) ?_
            exact ps_iret hx hb hr hlocks hK hP hD hS (Nat.le_of_ble_eq_true rfl) (Nat.le_of_ble_eq_true rfl) d_PS_next_51 (ps_cy ⟨c_2, c_4⟩ (ps_cn c_5 (Or.inl ⟨hnone, rfl, rfl⟩)))
    · have c_4 := ps_ite0 c_4
      refine lv_iconst (v := (-1)) hx hb d_PS_next_16 (by decide) ?_
      exact ps_iret hx hb hr hlocks hK hP hD hS (Nat.le_of_ble_eq_true rfl) (Nat.le_of_ble_eq_true rfl) d_PS_next_17 (ps_cn (fun q => c_4 q.2) ⟨rfl, rfl⟩)
end
section
theorem tw_213 : (.fieldLink "PageStore" 178 "PageStore$Memories" "whose" "LPageStore$Column;" : Cond) ∈ ps_tbl := ps_t1 114 rfl rfl
theorem tw_214 : (.fieldLink "PageStore" 181 "PageStore$Memories" "indexes" "LPageStore$Column;" : Cond) ∈ ps_tbl := ps_t1 116 rfl rfl
theorem tw_215 : (.fieldLink "PageStore" 184 "PageStore$Memories" "old" "LPageStore$Values;" : Cond) ∈ ps_tbl := ps_t1 118 rfl rfl
theorem tw_216 : (.methodLink "PageStore" 154 ⟨"PageStore", "putBack", "(I)V"⟩ : Cond) ∈ ps_tbl := ps_t2 144 rfl rfl
theorem tw_217 : (.methodLink "PageStore" 1 ⟨"java/lang/Object", "<init>", "()V"⟩ : Cond) ∈ ps_tbl := ps_t1 16 rfl rfl
theorem tw_218 : (.classLink "PageStore" 13 "PageStore$Column" : Cond) ∈ ps_tbl := ps_t1 19 rfl rfl
theorem tw_219 : (.methodLink "PageStore" 15 ⟨"PageStore$Column", "<init>", "(I)V"⟩ : Cond) ∈ ps_tbl := ps_t1 21 rfl rfl
theorem tw_220 : (.classLink "PageStore" 22 "PageStore$Rows" : Cond) ∈ ps_tbl := ps_t1 33 rfl rfl
theorem tw_221 : (.instantiable "PageStore$Rows" 3 : Cond) ∈ ps_tbl := ps_t1 34 rfl rfl
theorem tw_222 : (.methodLink "PageStore" 24 ⟨"PageStore$Rows", "<init>", "()V"⟩ : Cond) ∈ ps_tbl := ps_t1 35 rfl rfl
theorem tw_223 : (.classLink "PageStore" 29 "PageStore$Values" : Cond) ∈ ps_tbl := ps_t1 54 rfl rfl
theorem tw_224 : (.methodLink "PageStore" 32 ⟨"PageStore$Values", "<init>", "(I)V"⟩ : Cond) ∈ ps_tbl := ps_t1 57 rfl rfl
theorem tw_225 : (.classLink "PageStore" 41 "PageStore$Keys" : Cond) ∈ ps_tbl := ps_t1 76 rfl rfl
theorem tw_226 : (.instantiable "PageStore$Keys" 4 : Cond) ∈ ps_tbl := ps_t1 77 rfl rfl
theorem tw_227 : (.methodLink "PageStore" 43 ⟨"PageStore$Keys", "<init>", "()V"⟩ : Cond) ∈ ps_tbl := ps_t1 78 rfl rfl
theorem tw_228 : (.classLink "PageStore" 48 "PageStore$Memories" : Cond) ∈ ps_tbl := ps_t1 102 rfl rfl
theorem tw_229 : (.instantiable "PageStore$Memories" 3 : Cond) ∈ ps_tbl := ps_t1 103 rfl rfl
theorem tw_230 : (.methodLink "PageStore" 50 ⟨"PageStore$Memories", "<init>", "()V"⟩ : Cond) ∈ ps_tbl := ps_t1 104 rfl rfl
theorem tw_231 : (.instanceMethod ⟨"PageStore", "putBack", "(I)V"⟩ : Cond) ∈ ps_tbl := ps_t2 146 rfl rfl
theorem tw_232 : (.selects "PageStore" ⟨"PageStore", "putBack", "(I)V"⟩ ⟨"PageStore", "putBack", "(I)V"⟩ : Cond) ∈ ps_tbl := ps_ts (y := ⟨"PageStore", "putBack", "(I)V"⟩) (n := 10) 14 rfl rfl
theorem tw_233 : (.code ⟨"PageStore", "putBack", "(I)V"⟩ prog_1_method_36_code 4 none : Cond) ∈ ps_tbl := ps_t2 147 rfl rfl
theorem tw_234 : (.instanceMethod ⟨"PageStore$Rows", "<init>", "()V"⟩ : Cond) ∈ ps_tbl := ps_t1 36 rfl rfl
theorem tw_235 : (.code ⟨"PageStore$Rows", "<init>", "()V"⟩ prog_5_method_1_code 1 none : Cond) ∈ ps_tbl := ps_t1 37 rfl rfl
theorem tw_236 : (.instanceMethod ⟨"PageStore$Keys", "<init>", "()V"⟩ : Cond) ∈ ps_tbl := ps_t1 79 rfl rfl
theorem tw_237 : (.code ⟨"PageStore$Keys", "<init>", "()V"⟩ prog_3_method_1_code 1 none : Cond) ∈ ps_tbl := ps_t1 80 rfl rfl
theorem tw_238 : (.instanceMethod ⟨"PageStore$Memories", "<init>", "()V"⟩ : Cond) ∈ ps_tbl := ps_t1 105 rfl rfl
theorem tw_239 : (.code ⟨"PageStore$Memories", "<init>", "()V"⟩ prog_4_method_1_code 1 none : Cond) ∈ ps_tbl := ps_t1 106 rfl rfl
theorem k_PS_putBack : ps_cdV ps_tbl y_PS_putBack prog_1_method_36_code 4 none := ⟨tw_231, tw_232, tw_108, tw_233⟩
theorem k_Row_init : ps_cdI ps_tbl y_Row_init prog_5_method_1_code 1 := ⟨tw_234, tw_116, tw_235⟩
theorem k_Key_init : ps_cdI ps_tbl y_Key_init prog_3_method_1_code 1 := ⟨tw_236, tw_54, tw_237⟩
theorem k_Mem_init : ps_cdI ps_tbl y_Mem_init prog_4_method_1_code 1 := ⟨tw_238, tw_173, tw_239⟩
set_option maxHeartbeats 4000000 in
set_option maxRecDepth 100000 in
/-- PageStore.putBack -/
theorem c_back (l : Launch) (dC : Nat → ClassId) (dI : Nat → Nat → Nat) (cI : ClassId) (tys : List (ClassId × FieldType)) (ht : tys[0]? = some (cI, FieldType.int)) (a q K : Nat → Nat) (S : Nat) (ck cu : Int32) (F : Nat → Nat → Int32) (N : Nat → Nat) (hw : ps_wf F N) (hKb : ∀ j, K j ≤ 65536) (hSb : S ≤ 15) (b : Nat) (hbK : b ≤ K 5) (hmem : ps_mem (K 5) F N) : ps_mV classes l y_PS_putBack w_PS_putBack ({ frames := 4, cells := 0, slots := 0, locals := 86 }) (dC, dI) tys [.ref (a 0), .int (nI b)] (pw cI a q K S ck cu F N) (fun u => ∃ q1 : Nat → Nat, u = pw cI a q1 K S ck cu (ps_bs F (K 5) (K 5 - b)) N) := by
  refine ps_mV_of (by decide) rfl (Nat.le_of_ble_eq_true rfl) ?_
  intro p e s m below meth c A ls C0 hA hK hP hD hS hl
  obtain ⟨hx, hb, hr, hml, hts, hown, hlocks, hin⟩ := C0
  have hl : lv_has ls 4 [(0, .ref (a 0)), (1, .int (nI b))] := hl
  have hP : va_P (dC, dI) classes (pw cI a q K S ck cu F N) s.heap := hP
  have hD : va_D A (pw cI a q K S ck cu F N) := hD
  refine lv_aload_n hx hb d_PS_putBack_0 rfl (lv_at hl 0 rfl) ?_
  refine va_get (D := (dC, dI)) (ci := cPS) (v := .ref (a 1)) (C := R_PS) (T := F_PS) (N := 10) hx hb hts i_PS hown hK hP 0 rfl rfl 0 (by decide) (hts _ tw_97) (fun _ h9 => h9) rfl d_PS_putBack_1 ?_
  refine lv_iconst (v := nI 5) hx hb d_PS_putBack_4 (by decide) ?_
  refine va_iald hx hb hK hP 1 0 rfl ht (vp_in_nI (show 5 < 6 by decide) (by decide)) d_PS_putBack_5 ?_
  refine ps_top (z := nI (K 5)) (ps_kat _ 5 (by decide)) ?_
  refine lv_iconst (v := nI 1) hx hb d_PS_putBack_6 (by decide) ?_
  refine lv_isub hx hb d_PS_putBack_7 ?_
  refine ps_top (z := nI (K 5) - nI 1) rfl ?_
  refine lv_istore_n (lv' := [(2, .int (nI (K 5) - nI 1)), (0, .ref (a 0)), (1, .int (nI b))]) hx hb d_PS_putBack_8 rfl hl (by decide) rfl (fun ls hl => ?_)
  have hw0 := hw
  refine ps_loop (α := Nat × (Nat → Nat)) (fun x => 0) (fun x => 0) (fun x => K 5 - x.1) (fun x H locs ls => lv_has ls 4 [(2, .int (nI (K 5 - x.1) - nI 1)), (0, .ref (a 0)), (1, .int (nI b))] ∧ va_P (dC, dI) classes (pw cI a x.2 K S ck cu (ps_bs F (K 5) x.1) N) H ∧ va_D A (pw cI a x.2 K S ck cu (ps_bs F (K 5) x.1) N) ∧ va_S A s.heap H locs ∧ x.1 ≤ K 5 - b ∧ ps_wf (ps_bs F (K 5) x.1) N) ?_ (0, q) _ _ ls ⟨lv_sub hl [0, 1, 2] rfl, hP, hD, hS, Nat.zero_le _, hw⟩
  intro x H locs ls hI ih
  obtain ⟨hl, hP, hD, hS, hd, hw⟩ := hI
  refine lv_iload_n hx hb d_PS_putBack_9 rfl (lv_at hl 0 rfl) ?_
  refine lv_iload_n hx hb d_PS_putBack_10 rfl (lv_at hl 2 rfl) ?_
  refine lv_icmp_lt (tgt := 79) hx hb d_PS_putBack_11 (by decide) (fun c_1 => ?_) (fun c_1 => ?_)
  · have b5 := hKb 5
    have c_1 : K 5 - x.1 ≤ b := (ps_dec_lt (by omega) (by omega)).mp c_1
    obtain ⟨d9, q9⟩ := x
    have hd9 : d9 = K 5 - b := by have h1 : d9 ≤ K 5 - b := hd; omega
    subst hd9
    exact ps_vret hx hb hr hlocks hK hP hD hS (Nat.le_of_ble_eq_true rfl) (Nat.le_of_ble_eq_true rfl) d_PS_putBack_79 (⟨q9, rfl⟩)
  · have b5 := hKb 5
    have c_1 : ¬ K 5 - x.1 ≤ b := fun q => c_1 ((ps_dec_lt (by omega) (by omega)).mpr q)
    rw [pk_sub (show 1 ≤ K 5 - x.1 by omega)] at hl
    obtain ⟨m9, em⟩ : ∃ m9 : Nat, m9 = K 5 - (x.1 + 1) := ⟨_, rfl⟩
    rw [show K 5 - x.1 - 1 = m9 by omega] at hl
    obtain ⟨i, h13, ⟨h12, hi2, hi3⟩ | ⟨h12, hi2, hi3⟩⟩ := hmem m9 (by omega)
    · have hi31 : i < 2 ^ 31 := by have h1 := hw0.n 2 (by decide); omega
      refine lv_aload_n hx hb d_PS_putBack_14 rfl (lv_at hl 1 rfl) ?_
      refine lv_aload_n hx hb d_PS_putBack_15 rfl (lv_at hl 1 rfl) ?_
      refine va_get (D := (dC, dI)) (ci := cPS) (v := .ref (a 6)) (C := R_PS) (T := F_PS) (N := 10) hx hb hts i_PS hown hK hP 0 rfl rfl 7 (by decide) (hts _ tw_162) (fun _ h9 => h9) rfl d_PS_putBack_16 ?_
      refine va_get (D := (dC, dI)) (ci := cMem) (v := .ref (a 20)) (C := R_Mem) (T := F_Mem) (N := 3) hx hb hts i_Mem hown hK hP 6 rfl rfl 0 (by decide) (hts _ tw_213) (fun _ h9 => h9) rfl d_PS_putBack_19 ?_
      refine lv_iload_n hx hb d_PS_putBack_22 rfl (lv_at hl 0 rfl) ?_
      refine ps_readI (wc := [(a 20, .inr (cCol, [.int (nI 40000), .ref (x.2 12)])), (x.2 12, .inl (cI, N 12, .inl ((ps_bs F (K 5) x.1) 12)))]) hP hD hS hA [32, 33] rfl (fun _ _ h => h.1) (ps_runVI ⟨hx, hb, hml, hown, hts⟩ (c_at l dC dI cI tys ht (a 20) (x.2 12) 40000 (N 12) ((ps_bs F (K 5) x.1) 12) m9 (hw.z 12 (by decide)) (hw.n 12 (by decide)) (by omega)) (ps_cwV ps_gd 1 hts tw_102 k_Col_at e_Col_at ⟨Nat.le_of_ble_eq_true rfl, Nat.le_of_ble_eq_true rfl⟩) hK hP hD [32, 33] (by decide) rfl 0 cCol rfl rfl rfl hl.1 rfl (Nat.le_of_ble_eq_true rfl) d_PS_putBack_23 ⟨Nat.zero_le _, Nat.zero_le _⟩) (fun r_2 H locs hr_2 hP hS => ?_)
      obtain ⟨-, hr_2⟩ := hr_2
      subst hr_2
      refine ps_top (z := nI 1) (by rw [ps_bs_o (by decide)]; exact h12) ?_
      refine ps_afterR (wc := (pw cI a x.2 K S ck cu (ps_bs F (K 5) x.1) N)) (wr := []) hP hD hS hA [0, 1, 2, 3, 4, 5, 6, 7, 8, 9, 10, 11, 12, 13, 14, 15, 16, 17, 18, 19, 20, 21, 22, 23, 24, 25, 26, 27, 28, 29, 30, 31, 32, 33, 34, 35, 36, 37, 38, 39] [] rfl rfl (by decide) (by decide) (ps_runVR ⟨hx, hb, hml, hown, hts⟩ (c_vof l dC dI cI tys ht a x.2 K S ck cu (ps_bs F (K 5) x.1) N hw hKb hSb (nI 1)) (ps_cwV ps_gd 1 hts tw_166 k_PS_valuesOf e_PS_valuesOf ⟨Nat.le_of_ble_eq_true rfl, Nat.le_of_ble_eq_true rfl⟩) hK hP hD [0, 1, 2, 3, 4, 5, 6, 7, 8, 9, 10, 11, 12, 13, 14, 15, 16, 17, 18, 19, 20, 21, 22, 23, 24, 25, 26, 27, 28, 29, 30, 31, 32, 33, 34, 35, 36, 37, 38, 39] (by decide) rfl 0 cPS rfl rfl rfl hl.1 rfl (Nat.le_of_ble_eq_true rfl) d_PS_putBack_26 ⟨Nat.zero_le _, Nat.zero_le _⟩) (fun r_4 u_3 H locs hu_3 hP hD hS => ?_)
      obtain ⟨hu_3, hr_4⟩ := hu_3
      rw [if_neg (by decide)] at hr_4
      subst hr_4
      subst hu_3
      have hP : va_P (dC, dI) classes (pw cI a x.2 K S ck cu (ps_bs F (K 5) x.1) N) H := hP
      have hD : va_D A (pw cI a x.2 K S ck cu (ps_bs F (K 5) x.1) N) := hD
      refine lv_astore_n (lv' := [(3, .ref (a 3)), (2, .int (nI m9)), (0, .ref (a 0)), (1, .int (nI b))]) hx hb d_PS_putBack_29 rfl hl (by decide) rfl (fun ls hl => ?_)
      refine lv_aload_n hx hb d_PS_putBack_30 rfl (lv_at hl 0 rfl) ?_
      refine lv_aload_n hx hb d_PS_putBack_31 rfl (lv_at hl 2 rfl) ?_
      refine va_get (D := (dC, dI)) (ci := cPS) (v := .ref (a 6)) (C := R_PS) (T := F_PS) (N := 10) hx hb hts i_PS hown hK hP 0 rfl rfl 7 (by decide) (hts _ tw_162) (fun _ h9 => h9) rfl d_PS_putBack_32 ?_
      refine va_get (D := (dC, dI)) (ci := cMem) (v := .ref (a 21)) (C := R_Mem) (T := F_Mem) (N := 3) hx hb hts i_Mem hown hK hP 6 rfl rfl 1 (by decide) (hts _ tw_214) (fun _ h9 => h9) rfl d_PS_putBack_35 ?_
      refine lv_iload_n hx hb d_PS_putBack_38 rfl (lv_at hl 1 rfl) ?_
      refine ps_readI (wc := [(a 21, .inr (cCol, [.int (nI 40000), .ref (x.2 13)])), (x.2 13, .inl (cI, N 13, .inl ((ps_bs F (K 5) x.1) 13)))]) hP hD hS hA [34, 35] rfl (fun _ _ h => h.1) (ps_runVI ⟨hx, hb, hml, hown, hts⟩ (c_at l dC dI cI tys ht (a 21) (x.2 13) 40000 (N 13) ((ps_bs F (K 5) x.1) 13) m9 (hw.z 13 (by decide)) (hw.n 13 (by decide)) (by omega)) (ps_cwV ps_gd 1 hts tw_102 k_Col_at e_Col_at ⟨Nat.le_of_ble_eq_true rfl, Nat.le_of_ble_eq_true rfl⟩) hK hP hD [34, 35] (by decide) rfl 0 cCol rfl rfl rfl hl.1 rfl (Nat.le_of_ble_eq_true rfl) d_PS_putBack_39 ⟨Nat.zero_le _, Nat.zero_le _⟩) (fun r_5 H locs hr_5 hP hS => ?_)
      obtain ⟨-, hr_5⟩ := hr_5
      subst hr_5
      refine ps_top (z := nI i) (by rw [ps_bs_o (by decide)]; exact h13) ?_
      refine lv_aload_n hx hb d_PS_putBack_42 rfl (lv_at hl 2 rfl) ?_
      refine va_get (D := (dC, dI)) (ci := cPS) (v := .ref (a 6)) (C := R_PS) (T := F_PS) (N := 10) hx hb hts i_PS hown hK hP 0 rfl rfl 7 (by decide) (hts _ tw_162) (fun _ h9 => h9) rfl d_PS_putBack_43 ?_
      refine va_get (D := (dC, dI)) (ci := cMem) (v := .ref (a 7)) (C := R_Mem) (T := F_Mem) (N := 3) hx hb hts i_Mem hown hK hP 6 rfl rfl 2 (by decide) (hts _ tw_215) (fun _ h9 => h9) rfl d_PS_putBack_46 ?_
      refine va_get (D := (dC, dI)) (ci := cVal) (v := .ref (a 22)) (C := R_Val) (T := F_Val) (N := 2) hx hb hts i_Val hown hK hP 7 rfl rfl 0 (by decide) (hts _ tw_143) (fun _ h9 => h9) rfl d_PS_putBack_49 ?_
      refine lv_iload_n hx hb d_PS_putBack_52 rfl (lv_at hl 1 rfl) ?_
      refine ps_readI (wc := [(a 22, .inr (cCol, [.int (nI 40000), .ref (x.2 14)])), (x.2 14, .inl (cI, N 14, .inl ((ps_bs F (K 5) x.1) 14)))]) hP hD hS hA [36, 37] rfl (fun _ _ h => h.1) (ps_runVI ⟨hx, hb, hml, hown, hts⟩ (c_at l dC dI cI tys ht (a 22) (x.2 14) 40000 (N 14) ((ps_bs F (K 5) x.1) 14) m9 (hw.z 14 (by decide)) (hw.n 14 (by decide)) (by omega)) (ps_cwV ps_gd 1 hts tw_102 k_Col_at e_Col_at ⟨Nat.le_of_ble_eq_true rfl, Nat.le_of_ble_eq_true rfl⟩) hK hP hD [36, 37] (by decide) rfl 0 cCol rfl rfl rfl hl.1 rfl (Nat.le_of_ble_eq_true rfl) d_PS_putBack_53 ⟨Nat.zero_le _, Nat.zero_le _⟩) (fun r_6 H locs hr_6 hP hS => ?_)
      obtain ⟨-, hr_6⟩ := hr_6
      subst hr_6
      refine ps_top (z := F 14 m9) (by rw [ps_bs_o (by decide)]) ?_
      refine lv_aload_n hx hb d_PS_putBack_56 rfl (lv_at hl 2 rfl) ?_
      refine va_get (D := (dC, dI)) (ci := cPS) (v := .ref (a 6)) (C := R_PS) (T := F_PS) (N := 10) hx hb hts i_PS hown hK hP 0 rfl rfl 7 (by decide) (hts _ tw_162) (fun _ h9 => h9) rfl d_PS_putBack_57 ?_
      refine va_get (D := (dC, dI)) (ci := cMem) (v := .ref (a 7)) (C := R_Mem) (T := F_Mem) (N := 3) hx hb hts i_Mem hown hK hP 6 rfl rfl 2 (by decide) (hts _ tw_215) (fun _ h9 => h9) rfl d_PS_putBack_60 ?_
      refine va_get (D := (dC, dI)) (ci := cVal) (v := .ref (a 23)) (C := R_Val) (T := F_Val) (N := 2) hx hb hts i_Val hown hK hP 7 rfl rfl 1 (by decide) (hts _ tw_142) (fun _ h9 => h9) rfl d_PS_putBack_63 ?_
      refine lv_iload_n hx hb d_PS_putBack_66 rfl (lv_at hl 1 rfl) ?_
      refine ps_readI (wc := [(a 23, .inr (cCol, [.int (nI 40000), .ref (x.2 15)])), (x.2 15, .inl (cI, N 15, .inl ((ps_bs F (K 5) x.1) 15)))]) hP hD hS hA [38, 39] rfl (fun _ _ h => h.1) (ps_runVI ⟨hx, hb, hml, hown, hts⟩ (c_at l dC dI cI tys ht (a 23) (x.2 15) 40000 (N 15) ((ps_bs F (K 5) x.1) 15) m9 (hw.z 15 (by decide)) (hw.n 15 (by decide)) (by omega)) (ps_cwV ps_gd 1 hts tw_102 k_Col_at e_Col_at ⟨Nat.le_of_ble_eq_true rfl, Nat.le_of_ble_eq_true rfl⟩) hK hP hD [38, 39] (by decide) rfl 0 cCol rfl rfl rfl hl.1 rfl (Nat.le_of_ble_eq_true rfl) d_PS_putBack_67 ⟨Nat.zero_le _, Nat.zero_le _⟩) (fun r_7 H locs hr_7 hP hS => ?_)
      obtain ⟨-, hr_7⟩ := hr_7
      subst hr_7
      refine ps_top (z := F 15 m9) (by rw [ps_bs_o (by decide)]) ?_
      refine ps_afterV (wc := [(a 3, .inr (cVal, [.ref (a 10), .ref (a 11)])), (a 10, .inr (cCol, [.int (nI 32768), .ref (x.2 2)])), (x.2 2, .inl (cI, N 2, .inl ((ps_bs F (K 5) x.1) 2))), (a 11, .inr (cCol, [.int (nI 32768), .ref (x.2 3)])), (x.2 3, .inl (cI, N 3, .inl ((ps_bs F (K 5) x.1) 3)))]) (wr := [0, 1, 2, 4, 5, 6, 7, 8, 9, 10, 11, 16, 17, 18, 19, 20, 21, 22, 23, 24, 25, 26, 27, 28, 29, 30, 31, 32, 33, 34, 35, 36, 37, 38, 39].filterMap (fun z9 => ((pw cI a x.2 K S ck cu (ps_bs F (K 5) x.1) N) : va_W)[z9]?)) hP hD hS hA [3, 12, 13, 14, 15] [0, 1, 2, 4, 5, 6, 7, 8, 9, 10, 11, 16, 17, 18, 19, 20, 21, 22, 23, 24, 25, 26, 27, 28, 29, 30, 31, 32, 33, 34, 35, 36, 37, 38, 39] rfl rfl (by decide) (by decide) (ps_runVV ⟨hx, hb, hml, hown, hts⟩ (c_vwrite l dC dI cI tys ht (a 3) (a 10) (x.2 2) (a 11) (x.2 3) 32768 (N 2) (N 3) ((ps_bs F (K 5) x.1) 2) ((ps_bs F (K 5) x.1) 3) i (F 14 m9) (F 15 m9) (hw.z 2 (by decide)) (hw.z 3 (by decide)) (by decide) (hw 2 (by decide)).2 (hw 3 (by decide)).2 (by have h1 : N 2 ≤ 32768 := (hw 2 (by decide)).2; omega)) (ps_cwV ps_gd 3 hts tw_159 k_Val_write e_Val_write ⟨Nat.le_of_ble_eq_true rfl, Nat.le_of_ble_eq_true rfl⟩) hK hP hD [3, 12, 13, 14, 15] (by decide) rfl 0 cVal rfl rfl rfl hl.1 rfl (Nat.le_of_ble_eq_true rfl) d_PS_putBack_70 ⟨by show 0 + (ps_dc 32768 (N 2) i + ps_dc 32768 (N 3) i) ≤ 0; rw [ps_dc_in hi2, ps_dc_in hi3]; exact Nat.le_refl _, by show 0 + (ps_ds 32768 (N 2) i + ps_ds 32768 (N 3) i) ≤ 0; rw [ps_ds_in hi2, ps_ds_in hi3]; exact Nat.le_refl _⟩) (fun u_8 H locs hu_8 hP hD hS => ?_)
      obtain ⟨q_10, q_11, hu_8⟩ := hu_8
      rw [ps_len_in hi2, ps_len_in hi3] at hu_8
      subst hu_8
      obtain ⟨hP, hD⟩ := ps_perm (ws' := (pw cI a (va_up (va_up x.2 2 q_10) 3 q_11) K S ck cu (va_up (va_up (ps_bs F (K 5) x.1) 2 (upd ((ps_bs F (K 5) x.1) 2) i (F 14 m9))) 3 (upd ((ps_bs F (K 5) x.1) 3) i (if F 14 m9 = 0 then 0 else F 15 m9))) N)) hP hD [0, 1, 2, 35, 3, 4, 5, 6, 7, 8, 9, 10, 36, 37, 38, 39, 11, 12, 13, 14, 15, 16, 17, 18, 19, 20, 21, 22, 23, 24, 25, 26, 27, 28, 29, 30, 31, 32, 33, 34] (by decide) rfl
      refine W.widen (k := 0) (n := 0) (by show 0 + (ps_dc 32768 (N 2) i + ps_dc 32768 (N 3) i) ≤ 0; rw [ps_dc_in hi2, ps_dc_in hi3]; exact Nat.le_refl _) (by show 0 + (ps_ds 32768 (N 2) i + ps_ds 32768 (N 3) i) ≤ 0; rw [ps_ds_in hi2, ps_ds_in hi3]; exact Nat.le_refl _) ?_
      refine lv_iinc (v := nI (K 5 - (x.1 + 1)) - nI 1) (lv' := [(2, .int (nI (K 5 - (x.1 + 1)) - nI 1)), (3, .ref (a 3)), (0, .ref (a 0)), (1, .int (nI b))]) hx hb d_PS_putBack_73 hl (k := 1) rfl (by rw [← em, Int32.sub_eq_add_neg]; rfl) (by decide) rfl (fun ls hl => ?_)
      refine lv_goto (tgt := 9) hx hb d_PS_putBack_76 (by decide) ?_
      exact ih (x.1 + 1, (va_up (va_up x.2 2 q_10) 3 q_11)) _ _ ls (by show K 5 - (x.1 + 1) < K 5 - x.1; omega) ⟨lv_sub hl [0, 2, 3] rfl, (by show va_P (dC, dI) classes (pw cI a (va_up (va_up x.2 2 q_10) 3 q_11) K S ck cu (ps_bs F (K 5) (x.1 + 1)) N) _; rw [ps_bs_1 em h12 h13 hi31]; exact hP), (by show va_D A (pw cI a (va_up (va_up x.2 2 q_10) 3 q_11) K S ck cu (ps_bs F (K 5) (x.1 + 1)) N); rw [ps_bs_1 em h12 h13 hi31]; exact hD), hS, by show x.1 + 1 ≤ K 5 - b; omega, ps_wf_bs hw0 hmem (show x.1 + 1 ≤ K 5 by omega)⟩
    · have hi31 : i < 2 ^ 31 := by have h1 := hw0.n 10 (by decide); omega
      refine lv_aload_n hx hb d_PS_putBack_14 rfl (lv_at hl 1 rfl) ?_
      refine lv_aload_n hx hb d_PS_putBack_15 rfl (lv_at hl 1 rfl) ?_
      refine va_get (D := (dC, dI)) (ci := cPS) (v := .ref (a 6)) (C := R_PS) (T := F_PS) (N := 10) hx hb hts i_PS hown hK hP 0 rfl rfl 7 (by decide) (hts _ tw_162) (fun _ h9 => h9) rfl d_PS_putBack_16 ?_
      refine va_get (D := (dC, dI)) (ci := cMem) (v := .ref (a 20)) (C := R_Mem) (T := F_Mem) (N := 3) hx hb hts i_Mem hown hK hP 6 rfl rfl 0 (by decide) (hts _ tw_213) (fun _ h9 => h9) rfl d_PS_putBack_19 ?_
      refine lv_iload_n hx hb d_PS_putBack_22 rfl (lv_at hl 0 rfl) ?_
      refine ps_readI (wc := [(a 20, .inr (cCol, [.int (nI 40000), .ref (x.2 12)])), (x.2 12, .inl (cI, N 12, .inl ((ps_bs F (K 5) x.1) 12)))]) hP hD hS hA [32, 33] rfl (fun _ _ h => h.1) (ps_runVI ⟨hx, hb, hml, hown, hts⟩ (c_at l dC dI cI tys ht (a 20) (x.2 12) 40000 (N 12) ((ps_bs F (K 5) x.1) 12) m9 (hw.z 12 (by decide)) (hw.n 12 (by decide)) (by omega)) (ps_cwV ps_gd 1 hts tw_102 k_Col_at e_Col_at ⟨Nat.le_of_ble_eq_true rfl, Nat.le_of_ble_eq_true rfl⟩) hK hP hD [32, 33] (by decide) rfl 0 cCol rfl rfl rfl hl.1 rfl (Nat.le_of_ble_eq_true rfl) d_PS_putBack_23 ⟨Nat.zero_le _, Nat.zero_le _⟩) (fun r_12 H locs hr_12 hP hS => ?_)
      obtain ⟨-, hr_12⟩ := hr_12
      subst hr_12
      refine ps_top (z := nI 4) (by rw [ps_bs_o (by decide)]; exact h12) ?_
      refine ps_afterR (wc := (pw cI a x.2 K S ck cu (ps_bs F (K 5) x.1) N)) (wr := []) hP hD hS hA [0, 1, 2, 3, 4, 5, 6, 7, 8, 9, 10, 11, 12, 13, 14, 15, 16, 17, 18, 19, 20, 21, 22, 23, 24, 25, 26, 27, 28, 29, 30, 31, 32, 33, 34, 35, 36, 37, 38, 39] [] rfl rfl (by decide) (by decide) (ps_runVR ⟨hx, hb, hml, hown, hts⟩ (c_vof l dC dI cI tys ht a x.2 K S ck cu (ps_bs F (K 5) x.1) N hw hKb hSb (nI 4)) (ps_cwV ps_gd 1 hts tw_166 k_PS_valuesOf e_PS_valuesOf ⟨Nat.le_of_ble_eq_true rfl, Nat.le_of_ble_eq_true rfl⟩) hK hP hD [0, 1, 2, 3, 4, 5, 6, 7, 8, 9, 10, 11, 12, 13, 14, 15, 16, 17, 18, 19, 20, 21, 22, 23, 24, 25, 26, 27, 28, 29, 30, 31, 32, 33, 34, 35, 36, 37, 38, 39] (by decide) rfl 0 cPS rfl rfl rfl hl.1 rfl (Nat.le_of_ble_eq_true rfl) d_PS_putBack_26 ⟨Nat.zero_le _, Nat.zero_le _⟩) (fun r_14 u_13 H locs hu_13 hP hD hS => ?_)
      obtain ⟨hu_13, hr_14⟩ := hu_13
      rw [if_pos rfl] at hr_14
      subst hr_14
      subst hu_13
      have hP : va_P (dC, dI) classes (pw cI a x.2 K S ck cu (ps_bs F (K 5) x.1) N) H := hP
      have hD : va_D A (pw cI a x.2 K S ck cu (ps_bs F (K 5) x.1) N) := hD
      refine lv_astore_n (lv' := [(3, .ref (a 5)), (2, .int (nI m9)), (0, .ref (a 0)), (1, .int (nI b))]) hx hb d_PS_putBack_29 rfl hl (by decide) rfl (fun ls hl => ?_)
      refine lv_aload_n hx hb d_PS_putBack_30 rfl (lv_at hl 0 rfl) ?_
      refine lv_aload_n hx hb d_PS_putBack_31 rfl (lv_at hl 2 rfl) ?_
      refine va_get (D := (dC, dI)) (ci := cPS) (v := .ref (a 6)) (C := R_PS) (T := F_PS) (N := 10) hx hb hts i_PS hown hK hP 0 rfl rfl 7 (by decide) (hts _ tw_162) (fun _ h9 => h9) rfl d_PS_putBack_32 ?_
      refine va_get (D := (dC, dI)) (ci := cMem) (v := .ref (a 21)) (C := R_Mem) (T := F_Mem) (N := 3) hx hb hts i_Mem hown hK hP 6 rfl rfl 1 (by decide) (hts _ tw_214) (fun _ h9 => h9) rfl d_PS_putBack_35 ?_
      refine lv_iload_n hx hb d_PS_putBack_38 rfl (lv_at hl 1 rfl) ?_
      refine ps_readI (wc := [(a 21, .inr (cCol, [.int (nI 40000), .ref (x.2 13)])), (x.2 13, .inl (cI, N 13, .inl ((ps_bs F (K 5) x.1) 13)))]) hP hD hS hA [34, 35] rfl (fun _ _ h => h.1) (ps_runVI ⟨hx, hb, hml, hown, hts⟩ (c_at l dC dI cI tys ht (a 21) (x.2 13) 40000 (N 13) ((ps_bs F (K 5) x.1) 13) m9 (hw.z 13 (by decide)) (hw.n 13 (by decide)) (by omega)) (ps_cwV ps_gd 1 hts tw_102 k_Col_at e_Col_at ⟨Nat.le_of_ble_eq_true rfl, Nat.le_of_ble_eq_true rfl⟩) hK hP hD [34, 35] (by decide) rfl 0 cCol rfl rfl rfl hl.1 rfl (Nat.le_of_ble_eq_true rfl) d_PS_putBack_39 ⟨Nat.zero_le _, Nat.zero_le _⟩) (fun r_15 H locs hr_15 hP hS => ?_)
      obtain ⟨-, hr_15⟩ := hr_15
      subst hr_15
      refine ps_top (z := nI i) (by rw [ps_bs_o (by decide)]; exact h13) ?_
      refine lv_aload_n hx hb d_PS_putBack_42 rfl (lv_at hl 2 rfl) ?_
      refine va_get (D := (dC, dI)) (ci := cPS) (v := .ref (a 6)) (C := R_PS) (T := F_PS) (N := 10) hx hb hts i_PS hown hK hP 0 rfl rfl 7 (by decide) (hts _ tw_162) (fun _ h9 => h9) rfl d_PS_putBack_43 ?_
      refine va_get (D := (dC, dI)) (ci := cMem) (v := .ref (a 7)) (C := R_Mem) (T := F_Mem) (N := 3) hx hb hts i_Mem hown hK hP 6 rfl rfl 2 (by decide) (hts _ tw_215) (fun _ h9 => h9) rfl d_PS_putBack_46 ?_
      refine va_get (D := (dC, dI)) (ci := cVal) (v := .ref (a 22)) (C := R_Val) (T := F_Val) (N := 2) hx hb hts i_Val hown hK hP 7 rfl rfl 0 (by decide) (hts _ tw_143) (fun _ h9 => h9) rfl d_PS_putBack_49 ?_
      refine lv_iload_n hx hb d_PS_putBack_52 rfl (lv_at hl 1 rfl) ?_
      refine ps_readI (wc := [(a 22, .inr (cCol, [.int (nI 40000), .ref (x.2 14)])), (x.2 14, .inl (cI, N 14, .inl ((ps_bs F (K 5) x.1) 14)))]) hP hD hS hA [36, 37] rfl (fun _ _ h => h.1) (ps_runVI ⟨hx, hb, hml, hown, hts⟩ (c_at l dC dI cI tys ht (a 22) (x.2 14) 40000 (N 14) ((ps_bs F (K 5) x.1) 14) m9 (hw.z 14 (by decide)) (hw.n 14 (by decide)) (by omega)) (ps_cwV ps_gd 1 hts tw_102 k_Col_at e_Col_at ⟨Nat.le_of_ble_eq_true rfl, Nat.le_of_ble_eq_true rfl⟩) hK hP hD [36, 37] (by decide) rfl 0 cCol rfl rfl rfl hl.1 rfl (Nat.le_of_ble_eq_true rfl) d_PS_putBack_53 ⟨Nat.zero_le _, Nat.zero_le _⟩) (fun r_16 H locs hr_16 hP hS => ?_)
      obtain ⟨-, hr_16⟩ := hr_16
      subst hr_16
      refine ps_top (z := F 14 m9) (by rw [ps_bs_o (by decide)]) ?_
      refine lv_aload_n hx hb d_PS_putBack_56 rfl (lv_at hl 2 rfl) ?_
      refine va_get (D := (dC, dI)) (ci := cPS) (v := .ref (a 6)) (C := R_PS) (T := F_PS) (N := 10) hx hb hts i_PS hown hK hP 0 rfl rfl 7 (by decide) (hts _ tw_162) (fun _ h9 => h9) rfl d_PS_putBack_57 ?_
      refine va_get (D := (dC, dI)) (ci := cMem) (v := .ref (a 7)) (C := R_Mem) (T := F_Mem) (N := 3) hx hb hts i_Mem hown hK hP 6 rfl rfl 2 (by decide) (hts _ tw_215) (fun _ h9 => h9) rfl d_PS_putBack_60 ?_
      refine va_get (D := (dC, dI)) (ci := cVal) (v := .ref (a 23)) (C := R_Val) (T := F_Val) (N := 2) hx hb hts i_Val hown hK hP 7 rfl rfl 1 (by decide) (hts _ tw_142) (fun _ h9 => h9) rfl d_PS_putBack_63 ?_
      refine lv_iload_n hx hb d_PS_putBack_66 rfl (lv_at hl 1 rfl) ?_
      refine ps_readI (wc := [(a 23, .inr (cCol, [.int (nI 40000), .ref (x.2 15)])), (x.2 15, .inl (cI, N 15, .inl ((ps_bs F (K 5) x.1) 15)))]) hP hD hS hA [38, 39] rfl (fun _ _ h => h.1) (ps_runVI ⟨hx, hb, hml, hown, hts⟩ (c_at l dC dI cI tys ht (a 23) (x.2 15) 40000 (N 15) ((ps_bs F (K 5) x.1) 15) m9 (hw.z 15 (by decide)) (hw.n 15 (by decide)) (by omega)) (ps_cwV ps_gd 1 hts tw_102 k_Col_at e_Col_at ⟨Nat.le_of_ble_eq_true rfl, Nat.le_of_ble_eq_true rfl⟩) hK hP hD [38, 39] (by decide) rfl 0 cCol rfl rfl rfl hl.1 rfl (Nat.le_of_ble_eq_true rfl) d_PS_putBack_67 ⟨Nat.zero_le _, Nat.zero_le _⟩) (fun r_17 H locs hr_17 hP hS => ?_)
      obtain ⟨-, hr_17⟩ := hr_17
      subst hr_17
      refine ps_top (z := F 15 m9) (by rw [ps_bs_o (by decide)]) ?_
      refine ps_afterV (wc := [(a 5, .inr (cVal, [.ref (a 18), .ref (a 19)])), (a 18, .inr (cCol, [.int (nI 16384), .ref (x.2 10)])), (x.2 10, .inl (cI, N 10, .inl ((ps_bs F (K 5) x.1) 10))), (a 19, .inr (cCol, [.int (nI 16384), .ref (x.2 11)])), (x.2 11, .inl (cI, N 11, .inl ((ps_bs F (K 5) x.1) 11)))]) (wr := [0, 1, 2, 3, 4, 6, 7, 8, 9, 10, 11, 12, 13, 14, 15, 16, 17, 18, 19, 20, 21, 22, 23, 24, 25, 26, 27, 32, 33, 34, 35, 36, 37, 38, 39].filterMap (fun z9 => ((pw cI a x.2 K S ck cu (ps_bs F (K 5) x.1) N) : va_W)[z9]?)) hP hD hS hA [5, 28, 29, 30, 31] [0, 1, 2, 3, 4, 6, 7, 8, 9, 10, 11, 12, 13, 14, 15, 16, 17, 18, 19, 20, 21, 22, 23, 24, 25, 26, 27, 32, 33, 34, 35, 36, 37, 38, 39] rfl rfl (by decide) (by decide) (ps_runVV ⟨hx, hb, hml, hown, hts⟩ (c_vwrite l dC dI cI tys ht (a 5) (a 18) (x.2 10) (a 19) (x.2 11) 16384 (N 10) (N 11) ((ps_bs F (K 5) x.1) 10) ((ps_bs F (K 5) x.1) 11) i (F 14 m9) (F 15 m9) (hw.z 10 (by decide)) (hw.z 11 (by decide)) (by decide) (hw 10 (by decide)).2 (hw 11 (by decide)).2 (by have h1 : N 10 ≤ 16384 := (hw 10 (by decide)).2; omega)) (ps_cwV ps_gd 3 hts tw_159 k_Val_write e_Val_write ⟨Nat.le_of_ble_eq_true rfl, Nat.le_of_ble_eq_true rfl⟩) hK hP hD [5, 28, 29, 30, 31] (by decide) rfl 0 cVal rfl rfl rfl hl.1 rfl (Nat.le_of_ble_eq_true rfl) d_PS_putBack_70 ⟨by show 0 + (ps_dc 16384 (N 10) i + ps_dc 16384 (N 11) i) ≤ 0; rw [ps_dc_in hi2, ps_dc_in hi3]; exact Nat.le_refl _, by show 0 + (ps_ds 16384 (N 10) i + ps_ds 16384 (N 11) i) ≤ 0; rw [ps_ds_in hi2, ps_ds_in hi3]; exact Nat.le_refl _⟩) (fun u_18 H locs hu_18 hP hD hS => ?_)
      obtain ⟨q_20, q_21, hu_18⟩ := hu_18
      rw [ps_len_in hi2, ps_len_in hi3] at hu_18
      subst hu_18
      obtain ⟨hP, hD⟩ := ps_perm (ws' := (pw cI a (va_up (va_up x.2 10 q_20) 11 q_21) K S ck cu (va_up (va_up (ps_bs F (K 5) x.1) 10 (upd ((ps_bs F (K 5) x.1) 10) i (F 14 m9))) 11 (upd ((ps_bs F (K 5) x.1) 11) i (if F 14 m9 = 0 then 0 else F 15 m9))) N)) hP hD [0, 1, 2, 3, 4, 35, 5, 6, 7, 8, 9, 10, 11, 12, 13, 14, 15, 16, 17, 18, 19, 20, 21, 22, 23, 24, 25, 26, 36, 37, 38, 39, 27, 28, 29, 30, 31, 32, 33, 34] (by decide) rfl
      refine W.widen (k := 0) (n := 0) (by show 0 + (ps_dc 16384 (N 10) i + ps_dc 16384 (N 11) i) ≤ 0; rw [ps_dc_in hi2, ps_dc_in hi3]; exact Nat.le_refl _) (by show 0 + (ps_ds 16384 (N 10) i + ps_ds 16384 (N 11) i) ≤ 0; rw [ps_ds_in hi2, ps_ds_in hi3]; exact Nat.le_refl _) ?_
      refine lv_iinc (v := nI (K 5 - (x.1 + 1)) - nI 1) (lv' := [(2, .int (nI (K 5 - (x.1 + 1)) - nI 1)), (3, .ref (a 5)), (0, .ref (a 0)), (1, .int (nI b))]) hx hb d_PS_putBack_73 hl (k := 1) rfl (by rw [← em, Int32.sub_eq_add_neg]; rfl) (by decide) rfl (fun ls hl => ?_)
      refine lv_goto (tgt := 9) hx hb d_PS_putBack_76 (by decide) ?_
      exact ih (x.1 + 1, (va_up (va_up x.2 10 q_20) 11 q_21)) _ _ ls (by show K 5 - (x.1 + 1) < K 5 - x.1; omega) ⟨lv_sub hl [0, 2, 3] rfl, (by show va_P (dC, dI) classes (pw cI a (va_up (va_up x.2 10 q_20) 11 q_21) K S ck cu (ps_bs F (K 5) (x.1 + 1)) N) _; rw [ps_bs_4 em h12 h13 hi31]; exact hP), (by show va_D A (pw cI a (va_up (va_up x.2 10 q_20) 11 q_21) K S ck cu (ps_bs F (K 5) (x.1 + 1)) N); rw [ps_bs_4 em h12 h13 hi31]; exact hD), hS, by show x.1 + 1 ≤ K 5 - b; omega, ps_wf_bs hw0 hmem (show x.1 + 1 ≤ K 5 by omega)⟩

set_option maxHeartbeats 4000000 in
set_option maxRecDepth 100000 in
/-- PageStore.restore -/
theorem c_restore (l : Launch) (dC : Nat → ClassId) (dI : Nat → Nat → Nat) (cI : ClassId) (tys : List (ClassId × FieldType)) (ht : tys[0]? = some (cI, FieldType.int)) (a q K : Nat → Nat) (S : Nat) (ck cu : Int32) (F : Nat → Nat → Int32) (N : Nat → Nat) (hw : ps_wf F N) (hKb : ∀ j, K j ≤ 65536) (hSb : S ≤ 15) (T : Nat → Nat → Nat) (k : Int32) (hmem : ps_mem (K 5) F N) (hT : ∀ k, 1 ≤ k → k ≤ S → ∀ w, w < 6 → F 0 ((k - 1) * 6 + w) = nI (T k w) ∧ T k w ≤ K w) : ps_mI classes l y_PS_restore w_PS_restore ({ frames := 5, cells := 0, slots := 0, locals := 109 }) (dC, dI) tys [.ref (a 0), .int k] (pw cI a q K S ck cu F N) (fun r u => ps_c (nI 1 ≤ k ∧ k ≤ nI S) (∃ q1 : Nat → Nat, r = nI (k.toNatClampNeg - 1) ∧ u = pw cI a q1 (ps_kx K (T k.toNatClampNeg) 6) (k.toNatClampNeg - 1) ck cu (ps_bs F (K 5) (K 5 - T k.toNatClampNeg 5)) N) (r = -1 ∧ u = pw cI a q K S ck cu F N)) := by
  refine ps_mI_of (by decide) rfl (Nat.le_of_ble_eq_true rfl) ?_
  intro p e s m below meth c A ls C0 hA hK hP hD hS hl
  obtain ⟨hx, hb, hr, hml, hts, hown, hlocks, hin⟩ := C0
  have hl : lv_has ls 3 [(0, .ref (a 0)), (1, .int k)] := hl
  have hP : va_P (dC, dI) classes (pw cI a q K S ck cu F N) s.heap := hP
  have hD : va_D A (pw cI a q K S ck cu F N) := hD
  refine lv_aload_n hx hb d_PS_restore_0 rfl (lv_at hl 0 rfl) ?_
  refine lv_iload_n hx hb d_PS_restore_1 rfl (lv_at hl 1 rfl) ?_
  refine ps_readI (wc := (pw cI a q K S ck cu F N)) hP hD hS hA [0, 1, 2, 3, 4, 5, 6, 7, 8, 9, 10, 11, 12, 13, 14, 15, 16, 17, 18, 19, 20, 21, 22, 23, 24, 25, 26, 27, 28, 29, 30, 31, 32, 33, 34, 35, 36, 37, 38, 39] rfl (fun _ _ h => h.1) (ps_runVI ⟨hx, hb, hml, hown, hts⟩ (c_isSave l dC dI cI tys ht a q K S ck cu F N hw hKb hSb k) (ps_cwV ps_gd 1 hts tw_147 k_PS_isSave e_PS_isSave ⟨Nat.le_of_ble_eq_true rfl, Nat.le_of_ble_eq_true rfl⟩) hK hP hD [0, 1, 2, 3, 4, 5, 6, 7, 8, 9, 10, 11, 12, 13, 14, 15, 16, 17, 18, 19, 20, 21, 22, 23, 24, 25, 26, 27, 28, 29, 30, 31, 32, 33, 34, 35, 36, 37, 38, 39] (by decide) rfl 0 cPS rfl rfl rfl hl.1 rfl (Nat.le_of_ble_eq_true rfl) d_PS_restore_2 ⟨Nat.zero_le _, Nat.zero_le _⟩) (fun r_1 H locs hr_1 hP hS => ?_)
  obtain ⟨-, hr_1⟩ := hr_1
  subst hr_1
  refine lv_if_ne (tgt := 10) hx hb d_PS_restore_5 (by decide) (fun c_2 => ?_) (fun c_2 => ?_)
  · have c_2 := ps_ite1 c_2
    have hc := c_2
    obtain ⟨k0, hk1, hk2, rfl⟩ := ps_rng (by omega) c_2
    rw [nI_clamp (show k0 < 2 ^ 31 by omega)]
    have hT0 := hT k0 hk1 hk2
    refine lv_aload_n hx hb d_PS_restore_10 rfl (lv_at hl 0 rfl) ?_
    refine lv_aload_n hx hb d_PS_restore_11 rfl (lv_at hl 0 rfl) ?_
    refine lv_iload_n hx hb d_PS_restore_12 rfl (lv_at hl 1 rfl) ?_
    refine lv_iconst (v := nI 5) hx hb d_PS_restore_13 (by decide) ?_
    refine ps_readI (wc := (pw cI a q K S ck cu F N)) hP hD hS hA [0, 1, 2, 3, 4, 5, 6, 7, 8, 9, 10, 11, 12, 13, 14, 15, 16, 17, 18, 19, 20, 21, 22, 23, 24, 25, 26, 27, 28, 29, 30, 31, 32, 33, 34, 35, 36, 37, 38, 39] rfl (fun _ _ h => h.1) (ps_runVI ⟨hx, hb, hml, hown, hts⟩ (c_cas l dC dI cI tys ht a q K S ck cu F N hw hKb hSb k0 5 hk1 (by omega) (by omega)) (ps_cwV ps_gd 2 hts tw_148 k_PS_countAtSave e_PS_countAtSave ⟨Nat.le_of_ble_eq_true rfl, Nat.le_of_ble_eq_true rfl⟩) hK hP hD [0, 1, 2, 3, 4, 5, 6, 7, 8, 9, 10, 11, 12, 13, 14, 15, 16, 17, 18, 19, 20, 21, 22, 23, 24, 25, 26, 27, 28, 29, 30, 31, 32, 33, 34, 35, 36, 37, 38, 39] (by decide) rfl 0 cPS rfl rfl rfl hl.1 rfl (Nat.le_of_ble_eq_true rfl) d_PS_restore_14 ⟨Nat.zero_le _, Nat.zero_le _⟩) (fun r_3 H locs hr_3 hP hS => ?_)
    obtain ⟨-, hr_3⟩ := hr_3
    subst hr_3
    refine ps_top (z := nI (T k0 5)) ((hT0 5 (by decide)).1) ?_
    refine ps_afterV (wc := (pw cI a q K S ck cu F N)) (wr := []) hP hD hS hA [0, 1, 2, 3, 4, 5, 6, 7, 8, 9, 10, 11, 12, 13, 14, 15, 16, 17, 18, 19, 20, 21, 22, 23, 24, 25, 26, 27, 28, 29, 30, 31, 32, 33, 34, 35, 36, 37, 38, 39] [] rfl rfl (by decide) (by decide) (ps_runVV ⟨hx, hb, hml, hown, hts⟩ (c_back l dC dI cI tys ht a q K S ck cu F N hw hKb hSb (T k0 5) (hT0 5 (by decide)).2 hmem) (ps_cwV ps_gd 1 hts tw_216 k_PS_putBack e_PS_putBack ⟨Nat.le_of_ble_eq_true rfl, Nat.le_of_ble_eq_true rfl⟩) hK hP hD [0, 1, 2, 3, 4, 5, 6, 7, 8, 9, 10, 11, 12, 13, 14, 15, 16, 17, 18, 19, 20, 21, 22, 23, 24, 25, 26, 27, 28, 29, 30, 31, 32, 33, 34, 35, 36, 37, 38, 39] (by decide) rfl 0 cPS rfl rfl rfl hl.1 rfl (Nat.le_of_ble_eq_true rfl) d_PS_restore_17 ⟨Nat.zero_le _, Nat.zero_le _⟩) (fun u_4 H locs hu_4 hP hD hS => ?_)
    obtain ⟨q_6, hu_4⟩ := hu_4
    subst hu_4
    have hP : va_P (dC, dI) classes (pw cI a q_6 K S ck cu (ps_bs F (K 5) (K 5 - T k0 5)) N) H := hP
    have hD : va_D A (pw cI a q_6 K S ck cu (ps_bs F (K 5) (K 5 - T k0 5)) N) := hD
    refine lv_iconst (v := nI 0) hx hb d_PS_restore_20 (by decide) ?_
    refine lv_istore_n (lv' := [(2, .int (nI 0)), (0, .ref (a 0)), (1, .int (nI k0))]) hx hb d_PS_restore_21 rfl hl (by decide) rfl (fun ls hl => ?_)
    have hwB := ps_wf_bs (d := K 5 - T k0 5) hw hmem (by omega)
    have hKB : ∀ w, w ≤ 6 → ∀ j, ps_kx K (T k0) w j ≤ 65536 := fun w h6 => ps_kx_b hKb (fun j hj => Nat.le_trans (hT0 j hj).2 (hKb j)) h6
    refine ps_loop (α := Nat) (fun w => 0) (fun w => 0) (fun w => 6 - w) (fun w H locs ls => lv_has ls 3 [(2, .int (nI w)), (0, .ref (a 0)), (1, .int (nI k0))] ∧ va_P (dC, dI) classes (pw cI a q_6 (ps_kx K (T k0) w) S ck cu (ps_bs F (K 5) (K 5 - T k0 5)) N) H ∧ va_D A (pw cI a q_6 (ps_kx K (T k0) w) S ck cu (ps_bs F (K 5) (K 5 - T k0 5)) N) ∧ va_S A s.heap H locs ∧ w ≤ 6) ?_ 0 _ _ ls ⟨lv_sub hl [0, 1, 2] rfl, (by rw [ps_kx_0]; exact hP), (by rw [ps_kx_0]; exact hD), hS, Nat.zero_le _⟩
    intro w H locs ls hI ih
    obtain ⟨hl, hP, hD, hS, hw6⟩ := hI
    refine lv_iload_n hx hb d_PS_restore_22 rfl (lv_at hl 0 rfl) ?_
    refine lv_bipush (v := nI 6) hx hb d_PS_restore_23 (by decide) ?_
    refine lv_icmp_ge (tgt := 46) hx hb d_PS_restore_25 (by decide) (fun c_7 => ?_) (fun c_7 => ?_)
    · have c_7 : 6 ≤ w := (nI_leI (by have h0 := hKb 0; have h1 := hKb 1; have h2 := hKb 2; have h3 := hKb 3; have h4 := hKb 4; have h5 := hKb 5; omega) (by have h0 := hKb 0; have h1 := hKb 1; have h2 := hKb 2; have h3 := hKb 3; have h4 := hKb 4; have h5 := hKb 5; omega)).mp c_7
      have hw9 : w = 6 := by omega
      subst hw9
      refine lv_aload_n hx hb d_PS_restore_46 rfl (lv_at hl 1 rfl) ?_
      refine lv_iload_n hx hb d_PS_restore_47 rfl (lv_at hl 2 rfl) ?_
      refine lv_iconst (v := nI 1) hx hb d_PS_restore_48 (by decide) ?_
      refine lv_isub hx hb d_PS_restore_49 ?_
      refine ps_top (z := nI (k0 - 1)) (pk_sub (by have h0 := hKb 0; have h1 := hKb 1; have h2 := hKb 2; have h3 := hKb 3; have h4 := hKb 4; have h5 := hKb 5; omega)) ?_
      refine va_put (D := (dC, dI)) (ci := cPS) (v := .int (nI (k0 - 1))) (ty := .int) (C := R_PS) (T := F_PS) (N := 10) hx hb hts i_PS t_PS t_PS_ok n_PS hown hK hP hD hS 0 rfl rfl 2 (by decide) (hts _ tw_98) (fun _ h9 => h9) rfl (by decide +kernel) rfl rfl (Nat.le_of_ble_eq_true rfl) d_PS_restore_50 (fun H locs hP hD hS => ?_)
      have hP : va_P (dC, dI) classes (pw cI a q_6 (ps_kx K (T k0) 6) (k0 - 1) ck cu (ps_bs F (K 5) (K 5 - T k0 5)) N) H := hP
      have hD : va_D A (pw cI a q_6 (ps_kx K (T k0) 6) (k0 - 1) ck cu (ps_bs F (K 5) (K 5 - T k0 5)) N) := hD
      refine lv_aload_n hx hb d_PS_restore_53 rfl (lv_at hl 1 rfl) ?_
      refine va_get (D := (dC, dI)) (ci := cPS) (v := .int (nI (k0 - 1))) (C := R_PS) (T := F_PS) (N := 10) hx hb hts i_PS hown hK hP 0 rfl rfl 2 (by decide) (hts _ tw_98) (fun _ h9 => h9) rfl d_PS_restore_54 ?_
      exact ps_iret hx hb hr hlocks hK hP hD hS (Nat.le_of_ble_eq_true rfl) (Nat.le_of_ble_eq_true rfl) d_PS_restore_57 (ps_cy hc ⟨q_6, rfl, rfl⟩)
    · have c_7 : ¬ 6 ≤ w := fun q => c_7 ((nI_leI (by have h0 := hKb 0; have h1 := hKb 1; have h2 := hKb 2; have h3 := hKb 3; have h4 := hKb 4; have h5 := hKb 5; omega) (by have h0 := hKb 0; have h1 := hKb 1; have h2 := hKb 2; have h3 := hKb 3; have h4 := hKb 4; have h5 := hKb 5; omega)).mpr q)
      refine lv_aload_n hx hb d_PS_restore_28 rfl (lv_at hl 1 rfl) ?_
      refine va_get (D := (dC, dI)) (ci := cPS) (v := .ref (a 1)) (C := R_PS) (T := F_PS) (N := 10) hx hb hts i_PS hown hK hP 0 rfl rfl 0 (by decide) (hts _ tw_97) (fun _ h9 => h9) rfl d_PS_restore_29 ?_
      refine lv_iload_n hx hb d_PS_restore_32 rfl (lv_at hl 0 rfl) ?_
      refine lv_aload_n hx hb d_PS_restore_33 rfl (lv_at hl 1 rfl) ?_
      refine lv_iload_n hx hb d_PS_restore_34 rfl (lv_at hl 2 rfl) ?_
      refine lv_iload_n hx hb d_PS_restore_35 rfl (lv_at hl 0 rfl) ?_
      refine ps_readI (wc := (pw cI a q_6 (ps_kx K (T k0) w) S ck cu (ps_bs F (K 5) (K 5 - T k0 5)) N)) hP hD hS hA [0, 1, 2, 3, 4, 5, 6, 7, 8, 9, 10, 11, 12, 13, 14, 15, 16, 17, 18, 19, 20, 21, 22, 23, 24, 25, 26, 27, 28, 29, 30, 31, 32, 33, 34, 35, 36, 37, 38, 39] rfl (fun _ _ h => h.1) (ps_runVI ⟨hx, hb, hml, hown, hts⟩ (c_cas l dC dI cI tys ht a q_6 (ps_kx K (T k0) w) S ck cu (ps_bs F (K 5) (K 5 - T k0 5)) N hwB (hKB w hw6) hSb k0 w hk1 (by omega) (by omega)) (ps_cwV ps_gd 2 hts tw_148 k_PS_countAtSave e_PS_countAtSave ⟨Nat.le_of_ble_eq_true rfl, Nat.le_of_ble_eq_true rfl⟩) hK hP hD [0, 1, 2, 3, 4, 5, 6, 7, 8, 9, 10, 11, 12, 13, 14, 15, 16, 17, 18, 19, 20, 21, 22, 23, 24, 25, 26, 27, 28, 29, 30, 31, 32, 33, 34, 35, 36, 37, 38, 39] (by decide) rfl 0 cPS rfl rfl rfl hl.1 rfl (Nat.le_of_ble_eq_true rfl) d_PS_restore_36 ⟨Nat.zero_le _, Nat.zero_le _⟩) (fun r_8 H locs hr_8 hP hS => ?_)
      obtain ⟨-, hr_8⟩ := hr_8
      subst hr_8
      refine ps_top (z := nI (T k0 w)) (by rw [ps_bs_o (by decide)]; exact (hT0 w (by omega)).1) ?_
      refine va_iast hx hb hK hP hD hS 1 0 rfl ht (vp_in_nI (show w < 6 by omega) (by decide)) d_PS_restore_39 (fun H locs hP hD hS => ?_)
      rw [nI_clamp (show w < 2 ^ 31 by omega)] at hP hD
      rw [ps_kup, ps_kx_s] at hP hD
      have hP : va_P (dC, dI) classes (pw cI a q_6 (ps_kx K (T k0) (w + 1)) S ck cu (ps_bs F (K 5) (K 5 - T k0 5)) N) H := hP
      have hD : va_D A (pw cI a q_6 (ps_kx K (T k0) (w + 1)) S ck cu (ps_bs F (K 5) (K 5 - T k0 5)) N) := hD
      refine lv_iinc (v := nI (w + 1)) (lv' := [(2, .int (nI (w + 1))), (0, .ref (a 0)), (1, .int (nI k0))]) hx hb d_PS_restore_40 hl (k := 0) rfl (nI_1 _) (by decide) rfl (fun ls hl => ?_)
      refine lv_goto (tgt := 22) hx hb d_PS_restore_43 (by decide) ?_
      exact ih (w + 1) _ _ ls (by omega) ⟨lv_sub hl [0, 1, 2] rfl, hP, hD, hS, by omega⟩
  · have c_2 := ps_ite0 c_2
    refine lv_iconst (v := (-1)) hx hb d_PS_restore_8 (by decide) ?_
    exact ps_iret hx hb hr hlocks hK hP hD hS (Nat.le_of_ble_eq_true rfl) (Nat.le_of_ble_eq_true rfl) d_PS_restore_9 (ps_cn c_2 ⟨rfl, rfl⟩)

set_option maxHeartbeats 4000000 in
set_option maxRecDepth 100000 in
/-- PageStore() -/
theorem c_pinit (l : Launch) (dC : Nat → ClassId) (dI : Nat → Nat → Nat) (cI : ClassId) (tys : List (ClassId × FieldType)) (ht : tys[0]? = some (cI, FieldType.int)) (h : Nat) : ps_mV classes l y_PS_init w_PS_init ({ frames := 4, cells := 39, slots := 310, locals := 74 }) (dC, dI) tys [.ref h] ([(h, .inr (cPS, [.null, .null, .int 0, .null, .null, .null, .null, .null, .int 0, .int 0]))]) (fun u => ∃ a q : Nat → Nat, a 0 = h ∧ u = pw cI a q (fun _ => 0) 0 0 0 (fun _ _ => 0) (fun _ => 16)) := by
  refine ps_mV_of (by decide) rfl (Nat.le_of_ble_eq_true rfl) ?_
  intro p e s m below meth c A ls C0 hA hK hP hD hS hl
  obtain ⟨hx, hb, hr, hml, hts, hown, hlocks, hin⟩ := C0
  have hl : lv_has ls 1 [(0, .ref h)] := hl
  have hP : va_P (dC, dI) classes [(h, .inr (cPS, [.null, .null, .int 0, .null, .null, .null, .null, .null, .int 0, .int 0]))] s.heap := hP
  have hD : va_D A [(h, .inr (cPS, [.null, .null, .int 0, .null, .null, .null, .null, .null, .int 0, .int 0]))] := hD
  refine lv_aload_n hx hb d_PS_init_0 rfl (lv_at hl 0 rfl) ?_
  refine W.objInit hx hb hown (hts _ tw_217) (hts _ tw_72) (hts _ tw_73) rfl (by rw [hml]; exact hl.1) rfl d_PS_init_1 (Nat.le_of_ble_eq_true rfl) (Nat.le_of_ble_eq_true rfl) ?_
  refine W.eq (g2 := F0 m 4 ls []) rfl ?_
  refine lv_aload_n hx hb d_PS_init_4 rfl (lv_at hl 0 rfl) ?_
  refine lv_bipush (v := nI 6) hx hb d_PS_init_5 (by decide) ?_
  refine ps_newi hx hb (hts _ tw_1) hK 0 ht hP hD hS hA (N := 6) (by decide) (Nat.le_of_ble_eq_true rfl) (Nat.le_of_ble_eq_true rfl) d_PS_init_7 (fun o_1 H hP hD hS => ?_)
  have hP : va_P (dC, dI) classes [(h, .inr (cPS, [.null, .null, .int 0, .null, .null, .null, .null, .null, .int 0, .int 0])), (o_1, .inl (cI, 6, .inl (fun _ => 0)))] H := hP
  have hD : va_D A [(h, .inr (cPS, [.null, .null, .int 0, .null, .null, .null, .null, .null, .int 0, .int 0])), (o_1, .inl (cI, 6, .inl (fun _ => 0)))] := hD
  refine va_putF (D := (dC, dI)) (ci := cPS) (v := .ref o_1) (ty := .array .int) (C := R_PS) (T := F_PS) (N := 10) hx hb hts i_PS t_PS t_PS_ok n_PS hown hK hP hD hS 0 rfl rfl 0 (by decide) (hts _ tw_97) (fun _ h9 => h9) rfl hin rfl (by decide +kernel) rfl rfl (Nat.le_of_ble_eq_true rfl) d_PS_init_9 (fun H locs hP hD hS => ?_)
  have hP : va_P (dC, dI) classes [(h, .inr (cPS, [.ref o_1, .null, .int 0, .null, .null, .null, .null, .null, .int 0, .int 0])), (o_1, .inl (cI, 6, .inl (fun _ => 0)))] H := hP
  have hD : va_D A [(h, .inr (cPS, [.ref o_1, .null, .int 0, .null, .null, .null, .null, .null, .int 0, .int 0])), (o_1, .inl (cI, 6, .inl (fun _ => 0)))] := hD
  refine lv_aload_n hx hb d_PS_init_12 rfl (lv_at hl 0 rfl) ?_
  refine va_new (ci := cCol) (fs := [.int 0, .null]) (C := R_Col) (T := F_Col) (N := 2) hx hb hts i_Col t_Col t_Col_ok hown (hts _ tw_218) (hts _ tw_76) (hts _ tw_39) hK hP hD hS hA rfl z_Col (Nat.le_of_ble_eq_true rfl) (Nat.le_of_ble_eq_true rfl) d_PS_init_13 (fun o_2 H hP hD hS => ?_)
  have hP : va_P (dC, dI) classes [(h, .inr (cPS, [.ref o_1, .null, .int 0, .null, .null, .null, .null, .null, .int 0, .int 0])), (o_1, .inl (cI, 6, .inl (fun _ => 0))), (o_2, .inr (cCol, [.int 0, .null]))] H := hP
  have hD : va_D A [(h, .inr (cPS, [.ref o_1, .null, .int 0, .null, .null, .null, .null, .null, .int 0, .int 0])), (o_1, .inl (cI, 6, .inl (fun _ => 0))), (o_2, .inr (cCol, [.int 0, .null]))] := hD
  refine lv_dup hx hb d_PS_init_16 rfl ?_
  refine lv_bipush (v := nI 90) hx hb d_PS_init_17 (by decide) ?_
  refine ps_afterV (wc := [(o_2, .inr (cCol, [.int 0, .null]))]) (wr := [0, 1].filterMap (fun z9 => ([(h, .inr (cPS, [.ref o_1, .null, .int 0, .null, .null, .null, .null, .null, .int 0, .int 0])), (o_1, .inl (cI, 6, .inl (fun _ => 0))), (o_2, .inr (cCol, [.int 0, .null]))] : va_W)[z9]?)) hP hD hS hA [2] [0, 1] rfl rfl (by decide) (by decide) (ps_runIV ⟨hx, hb, hml, hown, hts⟩ (c_cinit l dC dI cI tys ht o_2 90) (ps_cwI ps_gd 1 hts tw_219 k_Col_init rfl e_Col_init ⟨Nat.le_of_ble_eq_true rfl, Nat.le_of_ble_eq_true rfl⟩) hK hP hD [2] (by decide) rfl rfl hl.1 rfl (Nat.le_of_ble_eq_true rfl) d_PS_init_19 ⟨Nat.le_of_ble_eq_true rfl, Nat.le_of_ble_eq_true rfl⟩) (fun u_3 H locs hu_3 hP hD hS => ?_)
  obtain ⟨q_5, hu_3⟩ := hu_3
  subst hu_3
  obtain ⟨hP, hD⟩ := ps_perm (ws' := [(h, .inr (cPS, [.ref o_1, .null, .int 0, .null, .null, .null, .null, .null, .int 0, .int 0])), (o_1, .inl (cI, 6, .inl (fun _ => 0))), (o_2, .inr (cCol, [.int (nI 90), .ref q_5])), (q_5, .inl (cI, 16, .inl (fun _ => 0)))]) hP hD [0, 1, 2, 3] (by decide) rfl
  refine va_putF (D := (dC, dI)) (ci := cPS) (v := .ref o_2) (ty := .object "PageStore$Column") (C := R_PS) (T := F_PS) (N := 10) hx hb hts i_PS t_PS t_PS_ok n_PS hown hK hP hD hS 0 rfl rfl 1 (by decide) (hts _ tw_101) (fun _ h9 => h9) rfl hin rfl (by decide +kernel) rfl rfl (Nat.le_of_ble_eq_true rfl) d_PS_init_22 (fun H locs hP hD hS => ?_)
  have hP : va_P (dC, dI) classes [(h, .inr (cPS, [.ref o_1, .ref o_2, .int 0, .null, .null, .null, .null, .null, .int 0, .int 0])), (o_1, .inl (cI, 6, .inl (fun _ => 0))), (o_2, .inr (cCol, [.int (nI 90), .ref q_5])), (q_5, .inl (cI, 16, .inl (fun _ => 0)))] H := hP
  have hD : va_D A [(h, .inr (cPS, [.ref o_1, .ref o_2, .int 0, .null, .null, .null, .null, .null, .int 0, .int 0])), (o_1, .inl (cI, 6, .inl (fun _ => 0))), (o_2, .inr (cCol, [.int (nI 90), .ref q_5])), (q_5, .inl (cI, 16, .inl (fun _ => 0)))] := hD
  refine lv_aload_n hx hb d_PS_init_25 rfl (lv_at hl 0 rfl) ?_
  refine va_new (ci := cRow) (fs := [.null, .null, .null]) (C := R_Row) (T := F_Row) (N := 3) hx hb hts i_Row t_Row t_Row_ok hown (hts _ tw_220) (hts _ tw_221) (hts _ tw_116) hK hP hD hS hA rfl z_Row (Nat.le_of_ble_eq_true rfl) (Nat.le_of_ble_eq_true rfl) d_PS_init_26 (fun o_6 H hP hD hS => ?_)
  have hP : va_P (dC, dI) classes [(h, .inr (cPS, [.ref o_1, .ref o_2, .int 0, .null, .null, .null, .null, .null, .int 0, .int 0])), (o_1, .inl (cI, 6, .inl (fun _ => 0))), (o_2, .inr (cCol, [.int (nI 90), .ref q_5])), (q_5, .inl (cI, 16, .inl (fun _ => 0))), (o_6, .inr (cRow, [.null, .null, .null]))] H := hP
  have hD : va_D A [(h, .inr (cPS, [.ref o_1, .ref o_2, .int 0, .null, .null, .null, .null, .null, .int 0, .int 0])), (o_1, .inl (cI, 6, .inl (fun _ => 0))), (o_2, .inr (cCol, [.int (nI 90), .ref q_5])), (q_5, .inl (cI, 16, .inl (fun _ => 0))), (o_6, .inr (cRow, [.null, .null, .null]))] := hD
  refine lv_dup hx hb d_PS_init_29 rfl ?_
  refine ps_afterV (wc := [(o_6, .inr (cRow, [.null, .null, .null]))]) (wr := [0, 1, 2, 3].filterMap (fun z9 => ([(h, .inr (cPS, [.ref o_1, .ref o_2, .int 0, .null, .null, .null, .null, .null, .int 0, .int 0])), (o_1, .inl (cI, 6, .inl (fun _ => 0))), (o_2, .inr (cCol, [.int (nI 90), .ref q_5])), (q_5, .inl (cI, 16, .inl (fun _ => 0))), (o_6, .inr (cRow, [.null, .null, .null]))] : va_W)[z9]?)) hP hD hS hA [4] [0, 1, 2, 3] rfl rfl (by decide) (by decide) (ps_runIV ⟨hx, hb, hml, hown, hts⟩ (c_rinit l dC dI cI tys ht o_6) (ps_cwI ps_gd 0 hts tw_222 k_Row_init rfl e_Row_init ⟨Nat.le_of_ble_eq_true rfl, Nat.le_of_ble_eq_true rfl⟩) hK hP hD [4] (by decide) rfl rfl hl.1 rfl (Nat.le_of_ble_eq_true rfl) d_PS_init_30 ⟨Nat.le_of_ble_eq_true rfl, Nat.le_of_ble_eq_true rfl⟩) (fun u_7 H locs hu_7 hP hD hS => ?_)
  obtain ⟨q_9, q_10, q_11, q_12, q_13, q_14, hu_7⟩ := hu_7
  subst hu_7
  obtain ⟨hP, hD⟩ := ps_perm (ws' := [(h, .inr (cPS, [.ref o_1, .ref o_2, .int 0, .null, .null, .null, .null, .null, .int 0, .int 0])), (o_1, .inl (cI, 6, .inl (fun _ => 0))), (o_2, .inr (cCol, [.int (nI 90), .ref q_5])), (q_5, .inl (cI, 16, .inl (fun _ => 0))), (o_6, .inr (cRow, [.ref q_9, .ref q_11, .ref q_13])), (q_9, .inr (cCol, [.int (nI 16385), .ref q_10])), (q_10, .inl (cI, 16, .inl (fun _ => 0))), (q_11, .inr (cCol, [.int (nI 16385), .ref q_12])), (q_12, .inl (cI, 16, .inl (fun _ => 0))), (q_13, .inr (cCol, [.int (nI 16385), .ref q_14])), (q_14, .inl (cI, 16, .inl (fun _ => 0)))]) hP hD [0, 1, 2, 3, 4, 5, 6, 7, 8, 9, 10] (by decide) rfl
  refine va_putF (D := (dC, dI)) (ci := cPS) (v := .ref o_6) (ty := .object "PageStore$Rows") (C := R_PS) (T := F_PS) (N := 10) hx hb hts i_PS t_PS t_PS_ok n_PS hown hK hP hD hS 0 rfl rfl 3 (by decide) (hts _ tw_112) (fun _ h9 => h9) rfl hin rfl (by decide +kernel) rfl rfl (Nat.le_of_ble_eq_true rfl) d_PS_init_33 (fun H locs hP hD hS => ?_)
  have hP : va_P (dC, dI) classes [(h, .inr (cPS, [.ref o_1, .ref o_2, .int 0, .ref o_6, .null, .null, .null, .null, .int 0, .int 0])), (o_1, .inl (cI, 6, .inl (fun _ => 0))), (o_2, .inr (cCol, [.int (nI 90), .ref q_5])), (q_5, .inl (cI, 16, .inl (fun _ => 0))), (o_6, .inr (cRow, [.ref q_9, .ref q_11, .ref q_13])), (q_9, .inr (cCol, [.int (nI 16385), .ref q_10])), (q_10, .inl (cI, 16, .inl (fun _ => 0))), (q_11, .inr (cCol, [.int (nI 16385), .ref q_12])), (q_12, .inl (cI, 16, .inl (fun _ => 0))), (q_13, .inr (cCol, [.int (nI 16385), .ref q_14])), (q_14, .inl (cI, 16, .inl (fun _ => 0)))] H := hP
  have hD : va_D A [(h, .inr (cPS, [.ref o_1, .ref o_2, .int 0, .ref o_6, .null, .null, .null, .null, .int 0, .int 0])), (o_1, .inl (cI, 6, .inl (fun _ => 0))), (o_2, .inr (cCol, [.int (nI 90), .ref q_5])), (q_5, .inl (cI, 16, .inl (fun _ => 0))), (o_6, .inr (cRow, [.ref q_9, .ref q_11, .ref q_13])), (q_9, .inr (cCol, [.int (nI 16385), .ref q_10])), (q_10, .inl (cI, 16, .inl (fun _ => 0))), (q_11, .inr (cCol, [.int (nI 16385), .ref q_12])), (q_12, .inl (cI, 16, .inl (fun _ => 0))), (q_13, .inr (cCol, [.int (nI 16385), .ref q_14])), (q_14, .inl (cI, 16, .inl (fun _ => 0)))] := hD
  refine lv_aload_n hx hb d_PS_init_36 rfl (lv_at hl 0 rfl) ?_
  refine va_new (ci := cVal) (fs := [.null, .null]) (C := R_Val) (T := F_Val) (N := 2) hx hb hts i_Val t_Val t_Val_ok hown (hts _ tw_223) (hts _ tw_85) (hts _ tw_69) hK hP hD hS hA rfl z_Val (Nat.le_of_ble_eq_true rfl) (Nat.le_of_ble_eq_true rfl) d_PS_init_37 (fun o_15 H hP hD hS => ?_)
  have hP : va_P (dC, dI) classes [(h, .inr (cPS, [.ref o_1, .ref o_2, .int 0, .ref o_6, .null, .null, .null, .null, .int 0, .int 0])), (o_1, .inl (cI, 6, .inl (fun _ => 0))), (o_2, .inr (cCol, [.int (nI 90), .ref q_5])), (q_5, .inl (cI, 16, .inl (fun _ => 0))), (o_6, .inr (cRow, [.ref q_9, .ref q_11, .ref q_13])), (q_9, .inr (cCol, [.int (nI 16385), .ref q_10])), (q_10, .inl (cI, 16, .inl (fun _ => 0))), (q_11, .inr (cCol, [.int (nI 16385), .ref q_12])), (q_12, .inl (cI, 16, .inl (fun _ => 0))), (q_13, .inr (cCol, [.int (nI 16385), .ref q_14])), (q_14, .inl (cI, 16, .inl (fun _ => 0))), (o_15, .inr (cVal, [.null, .null]))] H := hP
  have hD : va_D A [(h, .inr (cPS, [.ref o_1, .ref o_2, .int 0, .ref o_6, .null, .null, .null, .null, .int 0, .int 0])), (o_1, .inl (cI, 6, .inl (fun _ => 0))), (o_2, .inr (cCol, [.int (nI 90), .ref q_5])), (q_5, .inl (cI, 16, .inl (fun _ => 0))), (o_6, .inr (cRow, [.ref q_9, .ref q_11, .ref q_13])), (q_9, .inr (cCol, [.int (nI 16385), .ref q_10])), (q_10, .inl (cI, 16, .inl (fun _ => 0))), (q_11, .inr (cCol, [.int (nI 16385), .ref q_12])), (q_12, .inl (cI, 16, .inl (fun _ => 0))), (q_13, .inr (cCol, [.int (nI 16385), .ref q_14])), (q_14, .inl (cI, 16, .inl (fun _ => 0))), (o_15, .inr (cVal, [.null, .null]))] := hD
  refine lv_dup hx hb d_PS_init_40 rfl ?_
  refine lv_ldc (v := 32768) hx hb hown (hts _ tw_118) d_PS_init_41 ?_
  refine ps_top (z := nI 32768) (by decide) ?_
  refine ps_afterV (wc := [(o_15, .inr (cVal, [.null, .null]))]) (wr := [0, 1, 2, 3, 4, 5, 6, 7, 8, 9, 10].filterMap (fun z9 => ([(h, .inr (cPS, [.ref o_1, .ref o_2, .int 0, .ref o_6, .null, .null, .null, .null, .int 0, .int 0])), (o_1, .inl (cI, 6, .inl (fun _ => 0))), (o_2, .inr (cCol, [.int (nI 90), .ref q_5])), (q_5, .inl (cI, 16, .inl (fun _ => 0))), (o_6, .inr (cRow, [.ref q_9, .ref q_11, .ref q_13])), (q_9, .inr (cCol, [.int (nI 16385), .ref q_10])), (q_10, .inl (cI, 16, .inl (fun _ => 0))), (q_11, .inr (cCol, [.int (nI 16385), .ref q_12])), (q_12, .inl (cI, 16, .inl (fun _ => 0))), (q_13, .inr (cCol, [.int (nI 16385), .ref q_14])), (q_14, .inl (cI, 16, .inl (fun _ => 0))), (o_15, .inr (cVal, [.null, .null]))] : va_W)[z9]?)) hP hD hS hA [11] [0, 1, 2, 3, 4, 5, 6, 7, 8, 9, 10] rfl rfl (by decide) (by decide) (ps_runIV ⟨hx, hb, hml, hown, hts⟩ (c_vinit l dC dI cI tys ht o_15 32768) (ps_cwI ps_gd 1 hts tw_224 k_Val_init rfl e_Val_init ⟨Nat.le_of_ble_eq_true rfl, Nat.le_of_ble_eq_true rfl⟩) hK hP hD [11] (by decide) rfl rfl hl.1 rfl (Nat.le_of_ble_eq_true rfl) d_PS_init_43 ⟨Nat.le_of_ble_eq_true rfl, Nat.le_of_ble_eq_true rfl⟩) (fun u_16 H locs hu_16 hP hD hS => ?_)
  obtain ⟨q_18, q_19, q_20, q_21, hu_16⟩ := hu_16
  subst hu_16
  obtain ⟨hP, hD⟩ := ps_perm (ws' := [(h, .inr (cPS, [.ref o_1, .ref o_2, .int 0, .ref o_6, .null, .null, .null, .null, .int 0, .int 0])), (o_1, .inl (cI, 6, .inl (fun _ => 0))), (o_2, .inr (cCol, [.int (nI 90), .ref q_5])), (q_5, .inl (cI, 16, .inl (fun _ => 0))), (o_6, .inr (cRow, [.ref q_9, .ref q_11, .ref q_13])), (q_9, .inr (cCol, [.int (nI 16385), .ref q_10])), (q_10, .inl (cI, 16, .inl (fun _ => 0))), (q_11, .inr (cCol, [.int (nI 16385), .ref q_12])), (q_12, .inl (cI, 16, .inl (fun _ => 0))), (q_13, .inr (cCol, [.int (nI 16385), .ref q_14])), (q_14, .inl (cI, 16, .inl (fun _ => 0))), (o_15, .inr (cVal, [.ref q_18, .ref q_20])), (q_18, .inr (cCol, [.int (nI 32768), .ref q_19])), (q_19, .inl (cI, 16, .inl (fun _ => 0))), (q_20, .inr (cCol, [.int (nI 32768), .ref q_21])), (q_21, .inl (cI, 16, .inl (fun _ => 0)))]) hP hD [0, 1, 2, 3, 4, 5, 6, 7, 8, 9, 10, 11, 12, 13, 14, 15] (by decide) rfl
  refine va_putF (D := (dC, dI)) (ci := cPS) (v := .ref o_15) (ty := .object "PageStore$Values") (C := R_PS) (T := F_PS) (N := 10) hx hb hts i_PS t_PS t_PS_ok n_PS hown hK hP hD hS 0 rfl rfl 4 (by decide) (hts _ tw_103) (fun _ h9 => h9) rfl hin rfl (by decide +kernel) rfl rfl (Nat.le_of_ble_eq_true rfl) d_PS_init_46 (fun H locs hP hD hS => ?_)
  have hP : va_P (dC, dI) classes [(h, .inr (cPS, [.ref o_1, .ref o_2, .int 0, .ref o_6, .ref o_15, .null, .null, .null, .int 0, .int 0])), (o_1, .inl (cI, 6, .inl (fun _ => 0))), (o_2, .inr (cCol, [.int (nI 90), .ref q_5])), (q_5, .inl (cI, 16, .inl (fun _ => 0))), (o_6, .inr (cRow, [.ref q_9, .ref q_11, .ref q_13])), (q_9, .inr (cCol, [.int (nI 16385), .ref q_10])), (q_10, .inl (cI, 16, .inl (fun _ => 0))), (q_11, .inr (cCol, [.int (nI 16385), .ref q_12])), (q_12, .inl (cI, 16, .inl (fun _ => 0))), (q_13, .inr (cCol, [.int (nI 16385), .ref q_14])), (q_14, .inl (cI, 16, .inl (fun _ => 0))), (o_15, .inr (cVal, [.ref q_18, .ref q_20])), (q_18, .inr (cCol, [.int (nI 32768), .ref q_19])), (q_19, .inl (cI, 16, .inl (fun _ => 0))), (q_20, .inr (cCol, [.int (nI 32768), .ref q_21])), (q_21, .inl (cI, 16, .inl (fun _ => 0)))] H := hP
  have hD : va_D A [(h, .inr (cPS, [.ref o_1, .ref o_2, .int 0, .ref o_6, .ref o_15, .null, .null, .null, .int 0, .int 0])), (o_1, .inl (cI, 6, .inl (fun _ => 0))), (o_2, .inr (cCol, [.int (nI 90), .ref q_5])), (q_5, .inl (cI, 16, .inl (fun _ => 0))), (o_6, .inr (cRow, [.ref q_9, .ref q_11, .ref q_13])), (q_9, .inr (cCol, [.int (nI 16385), .ref q_10])), (q_10, .inl (cI, 16, .inl (fun _ => 0))), (q_11, .inr (cCol, [.int (nI 16385), .ref q_12])), (q_12, .inl (cI, 16, .inl (fun _ => 0))), (q_13, .inr (cCol, [.int (nI 16385), .ref q_14])), (q_14, .inl (cI, 16, .inl (fun _ => 0))), (o_15, .inr (cVal, [.ref q_18, .ref q_20])), (q_18, .inr (cCol, [.int (nI 32768), .ref q_19])), (q_19, .inl (cI, 16, .inl (fun _ => 0))), (q_20, .inr (cCol, [.int (nI 32768), .ref q_21])), (q_21, .inl (cI, 16, .inl (fun _ => 0)))] := hD
  refine lv_aload_n hx hb d_PS_init_49 rfl (lv_at hl 0 rfl) ?_
  refine va_new (ci := cCol) (fs := [.int 0, .null]) (C := R_Col) (T := F_Col) (N := 2) hx hb hts i_Col t_Col t_Col_ok hown (hts _ tw_218) (hts _ tw_76) (hts _ tw_39) hK hP hD hS hA rfl z_Col (Nat.le_of_ble_eq_true rfl) (Nat.le_of_ble_eq_true rfl) d_PS_init_50 (fun o_22 H hP hD hS => ?_)
  have hP : va_P (dC, dI) classes [(h, .inr (cPS, [.ref o_1, .ref o_2, .int 0, .ref o_6, .ref o_15, .null, .null, .null, .int 0, .int 0])), (o_1, .inl (cI, 6, .inl (fun _ => 0))), (o_2, .inr (cCol, [.int (nI 90), .ref q_5])), (q_5, .inl (cI, 16, .inl (fun _ => 0))), (o_6, .inr (cRow, [.ref q_9, .ref q_11, .ref q_13])), (q_9, .inr (cCol, [.int (nI 16385), .ref q_10])), (q_10, .inl (cI, 16, .inl (fun _ => 0))), (q_11, .inr (cCol, [.int (nI 16385), .ref q_12])), (q_12, .inl (cI, 16, .inl (fun _ => 0))), (q_13, .inr (cCol, [.int (nI 16385), .ref q_14])), (q_14, .inl (cI, 16, .inl (fun _ => 0))), (o_15, .inr (cVal, [.ref q_18, .ref q_20])), (q_18, .inr (cCol, [.int (nI 32768), .ref q_19])), (q_19, .inl (cI, 16, .inl (fun _ => 0))), (q_20, .inr (cCol, [.int (nI 32768), .ref q_21])), (q_21, .inl (cI, 16, .inl (fun _ => 0))), (o_22, .inr (cCol, [.int 0, .null]))] H := hP
  have hD : va_D A [(h, .inr (cPS, [.ref o_1, .ref o_2, .int 0, .ref o_6, .ref o_15, .null, .null, .null, .int 0, .int 0])), (o_1, .inl (cI, 6, .inl (fun _ => 0))), (o_2, .inr (cCol, [.int (nI 90), .ref q_5])), (q_5, .inl (cI, 16, .inl (fun _ => 0))), (o_6, .inr (cRow, [.ref q_9, .ref q_11, .ref q_13])), (q_9, .inr (cCol, [.int (nI 16385), .ref q_10])), (q_10, .inl (cI, 16, .inl (fun _ => 0))), (q_11, .inr (cCol, [.int (nI 16385), .ref q_12])), (q_12, .inl (cI, 16, .inl (fun _ => 0))), (q_13, .inr (cCol, [.int (nI 16385), .ref q_14])), (q_14, .inl (cI, 16, .inl (fun _ => 0))), (o_15, .inr (cVal, [.ref q_18, .ref q_20])), (q_18, .inr (cCol, [.int (nI 32768), .ref q_19])), (q_19, .inl (cI, 16, .inl (fun _ => 0))), (q_20, .inr (cCol, [.int (nI 32768), .ref q_21])), (q_21, .inl (cI, 16, .inl (fun _ => 0))), (o_22, .inr (cCol, [.int 0, .null]))] := hD
  refine lv_dup hx hb d_PS_init_53 rfl ?_
  refine lv_ldc (v := 65536) hx hb hown (hts _ tw_122) d_PS_init_54 ?_
  refine ps_top (z := nI 65536) (by decide) ?_
  refine ps_afterV (wc := [(o_22, .inr (cCol, [.int 0, .null]))]) (wr := [0, 1, 2, 3, 4, 5, 6, 7, 8, 9, 10, 11, 12, 13, 14, 15].filterMap (fun z9 => ([(h, .inr (cPS, [.ref o_1, .ref o_2, .int 0, .ref o_6, .ref o_15, .null, .null, .null, .int 0, .int 0])), (o_1, .inl (cI, 6, .inl (fun _ => 0))), (o_2, .inr (cCol, [.int (nI 90), .ref q_5])), (q_5, .inl (cI, 16, .inl (fun _ => 0))), (o_6, .inr (cRow, [.ref q_9, .ref q_11, .ref q_13])), (q_9, .inr (cCol, [.int (nI 16385), .ref q_10])), (q_10, .inl (cI, 16, .inl (fun _ => 0))), (q_11, .inr (cCol, [.int (nI 16385), .ref q_12])), (q_12, .inl (cI, 16, .inl (fun _ => 0))), (q_13, .inr (cCol, [.int (nI 16385), .ref q_14])), (q_14, .inl (cI, 16, .inl (fun _ => 0))), (o_15, .inr (cVal, [.ref q_18, .ref q_20])), (q_18, .inr (cCol, [.int (nI 32768), .ref q_19])), (q_19, .inl (cI, 16, .inl (fun _ => 0))), (q_20, .inr (cCol, [.int (nI 32768), .ref q_21])), (q_21, .inl (cI, 16, .inl (fun _ => 0))), (o_22, .inr (cCol, [.int 0, .null]))] : va_W)[z9]?)) hP hD hS hA [16] [0, 1, 2, 3, 4, 5, 6, 7, 8, 9, 10, 11, 12, 13, 14, 15] rfl rfl (by decide) (by decide) (ps_runIV ⟨hx, hb, hml, hown, hts⟩ (c_cinit l dC dI cI tys ht o_22 65536) (ps_cwI ps_gd 1 hts tw_219 k_Col_init rfl e_Col_init ⟨Nat.le_of_ble_eq_true rfl, Nat.le_of_ble_eq_true rfl⟩) hK hP hD [16] (by decide) rfl rfl hl.1 rfl (Nat.le_of_ble_eq_true rfl) d_PS_init_56 ⟨Nat.le_of_ble_eq_true rfl, Nat.le_of_ble_eq_true rfl⟩) (fun u_23 H locs hu_23 hP hD hS => ?_)
  obtain ⟨q_25, hu_23⟩ := hu_23
  subst hu_23
  obtain ⟨hP, hD⟩ := ps_perm (ws' := [(h, .inr (cPS, [.ref o_1, .ref o_2, .int 0, .ref o_6, .ref o_15, .null, .null, .null, .int 0, .int 0])), (o_1, .inl (cI, 6, .inl (fun _ => 0))), (o_2, .inr (cCol, [.int (nI 90), .ref q_5])), (q_5, .inl (cI, 16, .inl (fun _ => 0))), (o_6, .inr (cRow, [.ref q_9, .ref q_11, .ref q_13])), (q_9, .inr (cCol, [.int (nI 16385), .ref q_10])), (q_10, .inl (cI, 16, .inl (fun _ => 0))), (q_11, .inr (cCol, [.int (nI 16385), .ref q_12])), (q_12, .inl (cI, 16, .inl (fun _ => 0))), (q_13, .inr (cCol, [.int (nI 16385), .ref q_14])), (q_14, .inl (cI, 16, .inl (fun _ => 0))), (o_15, .inr (cVal, [.ref q_18, .ref q_20])), (q_18, .inr (cCol, [.int (nI 32768), .ref q_19])), (q_19, .inl (cI, 16, .inl (fun _ => 0))), (q_20, .inr (cCol, [.int (nI 32768), .ref q_21])), (q_21, .inl (cI, 16, .inl (fun _ => 0))), (o_22, .inr (cCol, [.int (nI 65536), .ref q_25])), (q_25, .inl (cI, 16, .inl (fun _ => 0)))]) hP hD [0, 1, 2, 3, 4, 5, 6, 7, 8, 9, 10, 11, 12, 13, 14, 15, 16, 17] (by decide) rfl
  refine va_putF (D := (dC, dI)) (ci := cPS) (v := .ref o_22) (ty := .object "PageStore$Column") (C := R_PS) (T := F_PS) (N := 10) hx hb hts i_PS t_PS t_PS_ok n_PS hown hK hP hD hS 0 rfl rfl 5 (by decide) (hts _ tw_123) (fun _ h9 => h9) rfl hin rfl (by decide +kernel) rfl rfl (Nat.le_of_ble_eq_true rfl) d_PS_init_59 (fun H locs hP hD hS => ?_)
  have hP : va_P (dC, dI) classes [(h, .inr (cPS, [.ref o_1, .ref o_2, .int 0, .ref o_6, .ref o_15, .ref o_22, .null, .null, .int 0, .int 0])), (o_1, .inl (cI, 6, .inl (fun _ => 0))), (o_2, .inr (cCol, [.int (nI 90), .ref q_5])), (q_5, .inl (cI, 16, .inl (fun _ => 0))), (o_6, .inr (cRow, [.ref q_9, .ref q_11, .ref q_13])), (q_9, .inr (cCol, [.int (nI 16385), .ref q_10])), (q_10, .inl (cI, 16, .inl (fun _ => 0))), (q_11, .inr (cCol, [.int (nI 16385), .ref q_12])), (q_12, .inl (cI, 16, .inl (fun _ => 0))), (q_13, .inr (cCol, [.int (nI 16385), .ref q_14])), (q_14, .inl (cI, 16, .inl (fun _ => 0))), (o_15, .inr (cVal, [.ref q_18, .ref q_20])), (q_18, .inr (cCol, [.int (nI 32768), .ref q_19])), (q_19, .inl (cI, 16, .inl (fun _ => 0))), (q_20, .inr (cCol, [.int (nI 32768), .ref q_21])), (q_21, .inl (cI, 16, .inl (fun _ => 0))), (o_22, .inr (cCol, [.int (nI 65536), .ref q_25])), (q_25, .inl (cI, 16, .inl (fun _ => 0)))] H := hP
  have hD : va_D A [(h, .inr (cPS, [.ref o_1, .ref o_2, .int 0, .ref o_6, .ref o_15, .ref o_22, .null, .null, .int 0, .int 0])), (o_1, .inl (cI, 6, .inl (fun _ => 0))), (o_2, .inr (cCol, [.int (nI 90), .ref q_5])), (q_5, .inl (cI, 16, .inl (fun _ => 0))), (o_6, .inr (cRow, [.ref q_9, .ref q_11, .ref q_13])), (q_9, .inr (cCol, [.int (nI 16385), .ref q_10])), (q_10, .inl (cI, 16, .inl (fun _ => 0))), (q_11, .inr (cCol, [.int (nI 16385), .ref q_12])), (q_12, .inl (cI, 16, .inl (fun _ => 0))), (q_13, .inr (cCol, [.int (nI 16385), .ref q_14])), (q_14, .inl (cI, 16, .inl (fun _ => 0))), (o_15, .inr (cVal, [.ref q_18, .ref q_20])), (q_18, .inr (cCol, [.int (nI 32768), .ref q_19])), (q_19, .inl (cI, 16, .inl (fun _ => 0))), (q_20, .inr (cCol, [.int (nI 32768), .ref q_21])), (q_21, .inl (cI, 16, .inl (fun _ => 0))), (o_22, .inr (cCol, [.int (nI 65536), .ref q_25])), (q_25, .inl (cI, 16, .inl (fun _ => 0)))] := hD
  refine lv_aload_n hx hb d_PS_init_62 rfl (lv_at hl 0 rfl) ?_
  refine va_new (ci := cKey) (fs := [.null, .null, .null, .null]) (C := R_Key) (T := F_Key) (N := 4) hx hb hts i_Key t_Key t_Key_ok hown (hts _ tw_225) (hts _ tw_226) (hts _ tw_54) hK hP hD hS hA rfl z_Key (Nat.le_of_ble_eq_true rfl) (Nat.le_of_ble_eq_true rfl) d_PS_init_63 (fun o_26 H hP hD hS => ?_)
  have hP : va_P (dC, dI) classes [(h, .inr (cPS, [.ref o_1, .ref o_2, .int 0, .ref o_6, .ref o_15, .ref o_22, .null, .null, .int 0, .int 0])), (o_1, .inl (cI, 6, .inl (fun _ => 0))), (o_2, .inr (cCol, [.int (nI 90), .ref q_5])), (q_5, .inl (cI, 16, .inl (fun _ => 0))), (o_6, .inr (cRow, [.ref q_9, .ref q_11, .ref q_13])), (q_9, .inr (cCol, [.int (nI 16385), .ref q_10])), (q_10, .inl (cI, 16, .inl (fun _ => 0))), (q_11, .inr (cCol, [.int (nI 16385), .ref q_12])), (q_12, .inl (cI, 16, .inl (fun _ => 0))), (q_13, .inr (cCol, [.int (nI 16385), .ref q_14])), (q_14, .inl (cI, 16, .inl (fun _ => 0))), (o_15, .inr (cVal, [.ref q_18, .ref q_20])), (q_18, .inr (cCol, [.int (nI 32768), .ref q_19])), (q_19, .inl (cI, 16, .inl (fun _ => 0))), (q_20, .inr (cCol, [.int (nI 32768), .ref q_21])), (q_21, .inl (cI, 16, .inl (fun _ => 0))), (o_22, .inr (cCol, [.int (nI 65536), .ref q_25])), (q_25, .inl (cI, 16, .inl (fun _ => 0))), (o_26, .inr (cKey, [.null, .null, .null, .null]))] H := hP
  have hD : va_D A [(h, .inr (cPS, [.ref o_1, .ref o_2, .int 0, .ref o_6, .ref o_15, .ref o_22, .null, .null, .int 0, .int 0])), (o_1, .inl (cI, 6, .inl (fun _ => 0))), (o_2, .inr (cCol, [.int (nI 90), .ref q_5])), (q_5, .inl (cI, 16, .inl (fun _ => 0))), (o_6, .inr (cRow, [.ref q_9, .ref q_11, .ref q_13])), (q_9, .inr (cCol, [.int (nI 16385), .ref q_10])), (q_10, .inl (cI, 16, .inl (fun _ => 0))), (q_11, .inr (cCol, [.int (nI 16385), .ref q_12])), (q_12, .inl (cI, 16, .inl (fun _ => 0))), (q_13, .inr (cCol, [.int (nI 16385), .ref q_14])), (q_14, .inl (cI, 16, .inl (fun _ => 0))), (o_15, .inr (cVal, [.ref q_18, .ref q_20])), (q_18, .inr (cCol, [.int (nI 32768), .ref q_19])), (q_19, .inl (cI, 16, .inl (fun _ => 0))), (q_20, .inr (cCol, [.int (nI 32768), .ref q_21])), (q_21, .inl (cI, 16, .inl (fun _ => 0))), (o_22, .inr (cCol, [.int (nI 65536), .ref q_25])), (q_25, .inl (cI, 16, .inl (fun _ => 0))), (o_26, .inr (cKey, [.null, .null, .null, .null]))] := hD
  refine lv_dup hx hb d_PS_init_66 rfl ?_
  refine ps_afterV (wc := [(o_26, .inr (cKey, [.null, .null, .null, .null]))]) (wr := [0, 1, 2, 3, 4, 5, 6, 7, 8, 9, 10, 11, 12, 13, 14, 15, 16, 17].filterMap (fun z9 => ([(h, .inr (cPS, [.ref o_1, .ref o_2, .int 0, .ref o_6, .ref o_15, .ref o_22, .null, .null, .int 0, .int 0])), (o_1, .inl (cI, 6, .inl (fun _ => 0))), (o_2, .inr (cCol, [.int (nI 90), .ref q_5])), (q_5, .inl (cI, 16, .inl (fun _ => 0))), (o_6, .inr (cRow, [.ref q_9, .ref q_11, .ref q_13])), (q_9, .inr (cCol, [.int (nI 16385), .ref q_10])), (q_10, .inl (cI, 16, .inl (fun _ => 0))), (q_11, .inr (cCol, [.int (nI 16385), .ref q_12])), (q_12, .inl (cI, 16, .inl (fun _ => 0))), (q_13, .inr (cCol, [.int (nI 16385), .ref q_14])), (q_14, .inl (cI, 16, .inl (fun _ => 0))), (o_15, .inr (cVal, [.ref q_18, .ref q_20])), (q_18, .inr (cCol, [.int (nI 32768), .ref q_19])), (q_19, .inl (cI, 16, .inl (fun _ => 0))), (q_20, .inr (cCol, [.int (nI 32768), .ref q_21])), (q_21, .inl (cI, 16, .inl (fun _ => 0))), (o_22, .inr (cCol, [.int (nI 65536), .ref q_25])), (q_25, .inl (cI, 16, .inl (fun _ => 0))), (o_26, .inr (cKey, [.null, .null, .null, .null]))] : va_W)[z9]?)) hP hD hS hA [18] [0, 1, 2, 3, 4, 5, 6, 7, 8, 9, 10, 11, 12, 13, 14, 15, 16, 17] rfl rfl (by decide) (by decide) (ps_runIV ⟨hx, hb, hml, hown, hts⟩ (c_kinit l dC dI cI tys ht o_26) (ps_cwI ps_gd 0 hts tw_227 k_Key_init rfl e_Key_init ⟨Nat.le_of_ble_eq_true rfl, Nat.le_of_ble_eq_true rfl⟩) hK hP hD [18] (by decide) rfl rfl hl.1 rfl (Nat.le_of_ble_eq_true rfl) d_PS_init_67 ⟨Nat.le_of_ble_eq_true rfl, Nat.le_of_ble_eq_true rfl⟩) (fun u_27 H locs hu_27 hP hD hS => ?_)
  obtain ⟨q_29, q_30, q_31, q_32, q_33, q_34, q_35, q_36, q_37, q_38, q_39, hu_27⟩ := hu_27
  subst hu_27
  obtain ⟨hP, hD⟩ := ps_perm (ws' := [(h, .inr (cPS, [.ref o_1, .ref o_2, .int 0, .ref o_6, .ref o_15, .ref o_22, .null, .null, .int 0, .int 0])), (o_1, .inl (cI, 6, .inl (fun _ => 0))), (o_2, .inr (cCol, [.int (nI 90), .ref q_5])), (q_5, .inl (cI, 16, .inl (fun _ => 0))), (o_6, .inr (cRow, [.ref q_9, .ref q_11, .ref q_13])), (q_9, .inr (cCol, [.int (nI 16385), .ref q_10])), (q_10, .inl (cI, 16, .inl (fun _ => 0))), (q_11, .inr (cCol, [.int (nI 16385), .ref q_12])), (q_12, .inl (cI, 16, .inl (fun _ => 0))), (q_13, .inr (cCol, [.int (nI 16385), .ref q_14])), (q_14, .inl (cI, 16, .inl (fun _ => 0))), (o_15, .inr (cVal, [.ref q_18, .ref q_20])), (q_18, .inr (cCol, [.int (nI 32768), .ref q_19])), (q_19, .inl (cI, 16, .inl (fun _ => 0))), (q_20, .inr (cCol, [.int (nI 32768), .ref q_21])), (q_21, .inl (cI, 16, .inl (fun _ => 0))), (o_22, .inr (cCol, [.int (nI 65536), .ref q_25])), (q_25, .inl (cI, 16, .inl (fun _ => 0))), (o_26, .inr (cKey, [.ref q_29, .ref q_31, .ref q_33, .ref q_35])), (q_29, .inr (cCol, [.int (nI 16384), .ref q_30])), (q_30, .inl (cI, 16, .inl (fun _ => 0))), (q_31, .inr (cCol, [.int (nI 16384), .ref q_32])), (q_32, .inl (cI, 16, .inl (fun _ => 0))), (q_33, .inr (cCol, [.int (nI 16384), .ref q_34])), (q_34, .inl (cI, 16, .inl (fun _ => 0))), (q_35, .inr (cVal, [.ref q_36, .ref q_38])), (q_36, .inr (cCol, [.int (nI 16384), .ref q_37])), (q_37, .inl (cI, 16, .inl (fun _ => 0))), (q_38, .inr (cCol, [.int (nI 16384), .ref q_39])), (q_39, .inl (cI, 16, .inl (fun _ => 0)))]) hP hD [0, 1, 2, 3, 4, 5, 6, 7, 8, 9, 10, 11, 12, 13, 14, 15, 16, 17, 18, 19, 20, 21, 22, 23, 24, 25, 26, 27, 28, 29] (by decide) rfl
  refine va_putF (D := (dC, dI)) (ci := cPS) (v := .ref o_26) (ty := .object "PageStore$Keys") (C := R_PS) (T := F_PS) (N := 10) hx hb hts i_PS t_PS t_PS_ok n_PS hown hK hP hD hS 0 rfl rfl 6 (by decide) (hts _ tw_104) (fun _ h9 => h9) rfl hin rfl (by decide +kernel) rfl rfl (Nat.le_of_ble_eq_true rfl) d_PS_init_70 (fun H locs hP hD hS => ?_)
  have hP : va_P (dC, dI) classes [(h, .inr (cPS, [.ref o_1, .ref o_2, .int 0, .ref o_6, .ref o_15, .ref o_22, .ref o_26, .null, .int 0, .int 0])), (o_1, .inl (cI, 6, .inl (fun _ => 0))), (o_2, .inr (cCol, [.int (nI 90), .ref q_5])), (q_5, .inl (cI, 16, .inl (fun _ => 0))), (o_6, .inr (cRow, [.ref q_9, .ref q_11, .ref q_13])), (q_9, .inr (cCol, [.int (nI 16385), .ref q_10])), (q_10, .inl (cI, 16, .inl (fun _ => 0))), (q_11, .inr (cCol, [.int (nI 16385), .ref q_12])), (q_12, .inl (cI, 16, .inl (fun _ => 0))), (q_13, .inr (cCol, [.int (nI 16385), .ref q_14])), (q_14, .inl (cI, 16, .inl (fun _ => 0))), (o_15, .inr (cVal, [.ref q_18, .ref q_20])), (q_18, .inr (cCol, [.int (nI 32768), .ref q_19])), (q_19, .inl (cI, 16, .inl (fun _ => 0))), (q_20, .inr (cCol, [.int (nI 32768), .ref q_21])), (q_21, .inl (cI, 16, .inl (fun _ => 0))), (o_22, .inr (cCol, [.int (nI 65536), .ref q_25])), (q_25, .inl (cI, 16, .inl (fun _ => 0))), (o_26, .inr (cKey, [.ref q_29, .ref q_31, .ref q_33, .ref q_35])), (q_29, .inr (cCol, [.int (nI 16384), .ref q_30])), (q_30, .inl (cI, 16, .inl (fun _ => 0))), (q_31, .inr (cCol, [.int (nI 16384), .ref q_32])), (q_32, .inl (cI, 16, .inl (fun _ => 0))), (q_33, .inr (cCol, [.int (nI 16384), .ref q_34])), (q_34, .inl (cI, 16, .inl (fun _ => 0))), (q_35, .inr (cVal, [.ref q_36, .ref q_38])), (q_36, .inr (cCol, [.int (nI 16384), .ref q_37])), (q_37, .inl (cI, 16, .inl (fun _ => 0))), (q_38, .inr (cCol, [.int (nI 16384), .ref q_39])), (q_39, .inl (cI, 16, .inl (fun _ => 0)))] H := hP
  have hD : va_D A [(h, .inr (cPS, [.ref o_1, .ref o_2, .int 0, .ref o_6, .ref o_15, .ref o_22, .ref o_26, .null, .int 0, .int 0])), (o_1, .inl (cI, 6, .inl (fun _ => 0))), (o_2, .inr (cCol, [.int (nI 90), .ref q_5])), (q_5, .inl (cI, 16, .inl (fun _ => 0))), (o_6, .inr (cRow, [.ref q_9, .ref q_11, .ref q_13])), (q_9, .inr (cCol, [.int (nI 16385), .ref q_10])), (q_10, .inl (cI, 16, .inl (fun _ => 0))), (q_11, .inr (cCol, [.int (nI 16385), .ref q_12])), (q_12, .inl (cI, 16, .inl (fun _ => 0))), (q_13, .inr (cCol, [.int (nI 16385), .ref q_14])), (q_14, .inl (cI, 16, .inl (fun _ => 0))), (o_15, .inr (cVal, [.ref q_18, .ref q_20])), (q_18, .inr (cCol, [.int (nI 32768), .ref q_19])), (q_19, .inl (cI, 16, .inl (fun _ => 0))), (q_20, .inr (cCol, [.int (nI 32768), .ref q_21])), (q_21, .inl (cI, 16, .inl (fun _ => 0))), (o_22, .inr (cCol, [.int (nI 65536), .ref q_25])), (q_25, .inl (cI, 16, .inl (fun _ => 0))), (o_26, .inr (cKey, [.ref q_29, .ref q_31, .ref q_33, .ref q_35])), (q_29, .inr (cCol, [.int (nI 16384), .ref q_30])), (q_30, .inl (cI, 16, .inl (fun _ => 0))), (q_31, .inr (cCol, [.int (nI 16384), .ref q_32])), (q_32, .inl (cI, 16, .inl (fun _ => 0))), (q_33, .inr (cCol, [.int (nI 16384), .ref q_34])), (q_34, .inl (cI, 16, .inl (fun _ => 0))), (q_35, .inr (cVal, [.ref q_36, .ref q_38])), (q_36, .inr (cCol, [.int (nI 16384), .ref q_37])), (q_37, .inl (cI, 16, .inl (fun _ => 0))), (q_38, .inr (cCol, [.int (nI 16384), .ref q_39])), (q_39, .inl (cI, 16, .inl (fun _ => 0)))] := hD
  refine lv_aload_n hx hb d_PS_init_73 rfl (lv_at hl 0 rfl) ?_
  refine va_new (ci := cMem) (fs := [.null, .null, .null]) (C := R_Mem) (T := F_Mem) (N := 3) hx hb hts i_Mem t_Mem t_Mem_ok hown (hts _ tw_228) (hts _ tw_229) (hts _ tw_173) hK hP hD hS hA rfl z_Mem (Nat.le_of_ble_eq_true rfl) (Nat.le_of_ble_eq_true rfl) d_PS_init_74 (fun o_40 H hP hD hS => ?_)
  have hP : va_P (dC, dI) classes [(h, .inr (cPS, [.ref o_1, .ref o_2, .int 0, .ref o_6, .ref o_15, .ref o_22, .ref o_26, .null, .int 0, .int 0])), (o_1, .inl (cI, 6, .inl (fun _ => 0))), (o_2, .inr (cCol, [.int (nI 90), .ref q_5])), (q_5, .inl (cI, 16, .inl (fun _ => 0))), (o_6, .inr (cRow, [.ref q_9, .ref q_11, .ref q_13])), (q_9, .inr (cCol, [.int (nI 16385), .ref q_10])), (q_10, .inl (cI, 16, .inl (fun _ => 0))), (q_11, .inr (cCol, [.int (nI 16385), .ref q_12])), (q_12, .inl (cI, 16, .inl (fun _ => 0))), (q_13, .inr (cCol, [.int (nI 16385), .ref q_14])), (q_14, .inl (cI, 16, .inl (fun _ => 0))), (o_15, .inr (cVal, [.ref q_18, .ref q_20])), (q_18, .inr (cCol, [.int (nI 32768), .ref q_19])), (q_19, .inl (cI, 16, .inl (fun _ => 0))), (q_20, .inr (cCol, [.int (nI 32768), .ref q_21])), (q_21, .inl (cI, 16, .inl (fun _ => 0))), (o_22, .inr (cCol, [.int (nI 65536), .ref q_25])), (q_25, .inl (cI, 16, .inl (fun _ => 0))), (o_26, .inr (cKey, [.ref q_29, .ref q_31, .ref q_33, .ref q_35])), (q_29, .inr (cCol, [.int (nI 16384), .ref q_30])), (q_30, .inl (cI, 16, .inl (fun _ => 0))), (q_31, .inr (cCol, [.int (nI 16384), .ref q_32])), (q_32, .inl (cI, 16, .inl (fun _ => 0))), (q_33, .inr (cCol, [.int (nI 16384), .ref q_34])), (q_34, .inl (cI, 16, .inl (fun _ => 0))), (q_35, .inr (cVal, [.ref q_36, .ref q_38])), (q_36, .inr (cCol, [.int (nI 16384), .ref q_37])), (q_37, .inl (cI, 16, .inl (fun _ => 0))), (q_38, .inr (cCol, [.int (nI 16384), .ref q_39])), (q_39, .inl (cI, 16, .inl (fun _ => 0))), (o_40, .inr (cMem, [.null, .null, .null]))] H := hP
  have hD : va_D A [(h, .inr (cPS, [.ref o_1, .ref o_2, .int 0, .ref o_6, .ref o_15, .ref o_22, .ref o_26, .null, .int 0, .int 0])), (o_1, .inl (cI, 6, .inl (fun _ => 0))), (o_2, .inr (cCol, [.int (nI 90), .ref q_5])), (q_5, .inl (cI, 16, .inl (fun _ => 0))), (o_6, .inr (cRow, [.ref q_9, .ref q_11, .ref q_13])), (q_9, .inr (cCol, [.int (nI 16385), .ref q_10])), (q_10, .inl (cI, 16, .inl (fun _ => 0))), (q_11, .inr (cCol, [.int (nI 16385), .ref q_12])), (q_12, .inl (cI, 16, .inl (fun _ => 0))), (q_13, .inr (cCol, [.int (nI 16385), .ref q_14])), (q_14, .inl (cI, 16, .inl (fun _ => 0))), (o_15, .inr (cVal, [.ref q_18, .ref q_20])), (q_18, .inr (cCol, [.int (nI 32768), .ref q_19])), (q_19, .inl (cI, 16, .inl (fun _ => 0))), (q_20, .inr (cCol, [.int (nI 32768), .ref q_21])), (q_21, .inl (cI, 16, .inl (fun _ => 0))), (o_22, .inr (cCol, [.int (nI 65536), .ref q_25])), (q_25, .inl (cI, 16, .inl (fun _ => 0))), (o_26, .inr (cKey, [.ref q_29, .ref q_31, .ref q_33, .ref q_35])), (q_29, .inr (cCol, [.int (nI 16384), .ref q_30])), (q_30, .inl (cI, 16, .inl (fun _ => 0))), (q_31, .inr (cCol, [.int (nI 16384), .ref q_32])), (q_32, .inl (cI, 16, .inl (fun _ => 0))), (q_33, .inr (cCol, [.int (nI 16384), .ref q_34])), (q_34, .inl (cI, 16, .inl (fun _ => 0))), (q_35, .inr (cVal, [.ref q_36, .ref q_38])), (q_36, .inr (cCol, [.int (nI 16384), .ref q_37])), (q_37, .inl (cI, 16, .inl (fun _ => 0))), (q_38, .inr (cCol, [.int (nI 16384), .ref q_39])), (q_39, .inl (cI, 16, .inl (fun _ => 0))), (o_40, .inr (cMem, [.null, .null, .null]))] := hD
  refine lv_dup hx hb d_PS_init_77 rfl ?_
  refine ps_afterV (wc := [(o_40, .inr (cMem, [.null, .null, .null]))]) (wr := [0, 1, 2, 3, 4, 5, 6, 7, 8, 9, 10, 11, 12, 13, 14, 15, 16, 17, 18, 19, 20, 21, 22, 23, 24, 25, 26, 27, 28, 29].filterMap (fun z9 => ([(h, .inr (cPS, [.ref o_1, .ref o_2, .int 0, .ref o_6, .ref o_15, .ref o_22, .ref o_26, .null, .int 0, .int 0])), (o_1, .inl (cI, 6, .inl (fun _ => 0))), (o_2, .inr (cCol, [.int (nI 90), .ref q_5])), (q_5, .inl (cI, 16, .inl (fun _ => 0))), (o_6, .inr (cRow, [.ref q_9, .ref q_11, .ref q_13])), (q_9, .inr (cCol, [.int (nI 16385), .ref q_10])), (q_10, .inl (cI, 16, .inl (fun _ => 0))), (q_11, .inr (cCol, [.int (nI 16385), .ref q_12])), (q_12, .inl (cI, 16, .inl (fun _ => 0))), (q_13, .inr (cCol, [.int (nI 16385), .ref q_14])), (q_14, .inl (cI, 16, .inl (fun _ => 0))), (o_15, .inr (cVal, [.ref q_18, .ref q_20])), (q_18, .inr (cCol, [.int (nI 32768), .ref q_19])), (q_19, .inl (cI, 16, .inl (fun _ => 0))), (q_20, .inr (cCol, [.int (nI 32768), .ref q_21])), (q_21, .inl (cI, 16, .inl (fun _ => 0))), (o_22, .inr (cCol, [.int (nI 65536), .ref q_25])), (q_25, .inl (cI, 16, .inl (fun _ => 0))), (o_26, .inr (cKey, [.ref q_29, .ref q_31, .ref q_33, .ref q_35])), (q_29, .inr (cCol, [.int (nI 16384), .ref q_30])), (q_30, .inl (cI, 16, .inl (fun _ => 0))), (q_31, .inr (cCol, [.int (nI 16384), .ref q_32])), (q_32, .inl (cI, 16, .inl (fun _ => 0))), (q_33, .inr (cCol, [.int (nI 16384), .ref q_34])), (q_34, .inl (cI, 16, .inl (fun _ => 0))), (q_35, .inr (cVal, [.ref q_36, .ref q_38])), (q_36, .inr (cCol, [.int (nI 16384), .ref q_37])), (q_37, .inl (cI, 16, .inl (fun _ => 0))), (q_38, .inr (cCol, [.int (nI 16384), .ref q_39])), (q_39, .inl (cI, 16, .inl (fun _ => 0))), (o_40, .inr (cMem, [.null, .null, .null]))] : va_W)[z9]?)) hP hD hS hA [30] [0, 1, 2, 3, 4, 5, 6, 7, 8, 9, 10, 11, 12, 13, 14, 15, 16, 17, 18, 19, 20, 21, 22, 23, 24, 25, 26, 27, 28, 29] rfl rfl (by decide) (by decide) (ps_runIV ⟨hx, hb, hml, hown, hts⟩ (c_minit l dC dI cI tys ht o_40) (ps_cwI ps_gd 0 hts tw_230 k_Mem_init rfl e_Mem_init ⟨Nat.le_of_ble_eq_true rfl, Nat.le_of_ble_eq_true rfl⟩) hK hP hD [30] (by decide) rfl rfl hl.1 rfl (Nat.le_of_ble_eq_true rfl) d_PS_init_78 ⟨Nat.le_of_ble_eq_true rfl, Nat.le_of_ble_eq_true rfl⟩) (fun u_41 H locs hu_41 hP hD hS => ?_)
  obtain ⟨q_43, q_44, q_45, q_46, q_47, q_48, q_49, q_50, q_51, hu_41⟩ := hu_41
  subst hu_41
  obtain ⟨hP, hD⟩ := ps_perm (ws' := [(h, .inr (cPS, [.ref o_1, .ref o_2, .int 0, .ref o_6, .ref o_15, .ref o_22, .ref o_26, .null, .int 0, .int 0])), (o_1, .inl (cI, 6, .inl (fun _ => 0))), (o_2, .inr (cCol, [.int (nI 90), .ref q_5])), (q_5, .inl (cI, 16, .inl (fun _ => 0))), (o_6, .inr (cRow, [.ref q_9, .ref q_11, .ref q_13])), (q_9, .inr (cCol, [.int (nI 16385), .ref q_10])), (q_10, .inl (cI, 16, .inl (fun _ => 0))), (q_11, .inr (cCol, [.int (nI 16385), .ref q_12])), (q_12, .inl (cI, 16, .inl (fun _ => 0))), (q_13, .inr (cCol, [.int (nI 16385), .ref q_14])), (q_14, .inl (cI, 16, .inl (fun _ => 0))), (o_15, .inr (cVal, [.ref q_18, .ref q_20])), (q_18, .inr (cCol, [.int (nI 32768), .ref q_19])), (q_19, .inl (cI, 16, .inl (fun _ => 0))), (q_20, .inr (cCol, [.int (nI 32768), .ref q_21])), (q_21, .inl (cI, 16, .inl (fun _ => 0))), (o_22, .inr (cCol, [.int (nI 65536), .ref q_25])), (q_25, .inl (cI, 16, .inl (fun _ => 0))), (o_26, .inr (cKey, [.ref q_29, .ref q_31, .ref q_33, .ref q_35])), (q_29, .inr (cCol, [.int (nI 16384), .ref q_30])), (q_30, .inl (cI, 16, .inl (fun _ => 0))), (q_31, .inr (cCol, [.int (nI 16384), .ref q_32])), (q_32, .inl (cI, 16, .inl (fun _ => 0))), (q_33, .inr (cCol, [.int (nI 16384), .ref q_34])), (q_34, .inl (cI, 16, .inl (fun _ => 0))), (q_35, .inr (cVal, [.ref q_36, .ref q_38])), (q_36, .inr (cCol, [.int (nI 16384), .ref q_37])), (q_37, .inl (cI, 16, .inl (fun _ => 0))), (q_38, .inr (cCol, [.int (nI 16384), .ref q_39])), (q_39, .inl (cI, 16, .inl (fun _ => 0))), (o_40, .inr (cMem, [.ref q_43, .ref q_45, .ref q_47])), (q_43, .inr (cCol, [.int (nI 40000), .ref q_44])), (q_44, .inl (cI, 16, .inl (fun _ => 0))), (q_45, .inr (cCol, [.int (nI 40000), .ref q_46])), (q_46, .inl (cI, 16, .inl (fun _ => 0))), (q_47, .inr (cVal, [.ref q_48, .ref q_50])), (q_48, .inr (cCol, [.int (nI 40000), .ref q_49])), (q_49, .inl (cI, 16, .inl (fun _ => 0))), (q_50, .inr (cCol, [.int (nI 40000), .ref q_51])), (q_51, .inl (cI, 16, .inl (fun _ => 0)))]) hP hD [0, 1, 2, 3, 4, 5, 6, 7, 8, 9, 10, 11, 12, 13, 14, 15, 16, 17, 18, 19, 20, 21, 22, 23, 24, 25, 26, 27, 28, 29, 30, 31, 32, 33, 34, 35, 36, 37, 38, 39] (by decide) rfl
  refine va_putF (D := (dC, dI)) (ci := cPS) (v := .ref o_40) (ty := .object "PageStore$Memories") (C := R_PS) (T := F_PS) (N := 10) hx hb hts i_PS t_PS t_PS_ok n_PS hown hK hP hD hS 0 rfl rfl 7 (by decide) (hts _ tw_162) (fun _ h9 => h9) rfl hin rfl (by decide +kernel) rfl rfl (Nat.le_of_ble_eq_true rfl) d_PS_init_81 (fun H locs hP hD hS => ?_)
  have hP : va_P (dC, dI) classes [(h, .inr (cPS, [.ref o_1, .ref o_2, .int 0, .ref o_6, .ref o_15, .ref o_22, .ref o_26, .ref o_40, .int 0, .int 0])), (o_1, .inl (cI, 6, .inl (fun _ => 0))), (o_2, .inr (cCol, [.int (nI 90), .ref q_5])), (q_5, .inl (cI, 16, .inl (fun _ => 0))), (o_6, .inr (cRow, [.ref q_9, .ref q_11, .ref q_13])), (q_9, .inr (cCol, [.int (nI 16385), .ref q_10])), (q_10, .inl (cI, 16, .inl (fun _ => 0))), (q_11, .inr (cCol, [.int (nI 16385), .ref q_12])), (q_12, .inl (cI, 16, .inl (fun _ => 0))), (q_13, .inr (cCol, [.int (nI 16385), .ref q_14])), (q_14, .inl (cI, 16, .inl (fun _ => 0))), (o_15, .inr (cVal, [.ref q_18, .ref q_20])), (q_18, .inr (cCol, [.int (nI 32768), .ref q_19])), (q_19, .inl (cI, 16, .inl (fun _ => 0))), (q_20, .inr (cCol, [.int (nI 32768), .ref q_21])), (q_21, .inl (cI, 16, .inl (fun _ => 0))), (o_22, .inr (cCol, [.int (nI 65536), .ref q_25])), (q_25, .inl (cI, 16, .inl (fun _ => 0))), (o_26, .inr (cKey, [.ref q_29, .ref q_31, .ref q_33, .ref q_35])), (q_29, .inr (cCol, [.int (nI 16384), .ref q_30])), (q_30, .inl (cI, 16, .inl (fun _ => 0))), (q_31, .inr (cCol, [.int (nI 16384), .ref q_32])), (q_32, .inl (cI, 16, .inl (fun _ => 0))), (q_33, .inr (cCol, [.int (nI 16384), .ref q_34])), (q_34, .inl (cI, 16, .inl (fun _ => 0))), (q_35, .inr (cVal, [.ref q_36, .ref q_38])), (q_36, .inr (cCol, [.int (nI 16384), .ref q_37])), (q_37, .inl (cI, 16, .inl (fun _ => 0))), (q_38, .inr (cCol, [.int (nI 16384), .ref q_39])), (q_39, .inl (cI, 16, .inl (fun _ => 0))), (o_40, .inr (cMem, [.ref q_43, .ref q_45, .ref q_47])), (q_43, .inr (cCol, [.int (nI 40000), .ref q_44])), (q_44, .inl (cI, 16, .inl (fun _ => 0))), (q_45, .inr (cCol, [.int (nI 40000), .ref q_46])), (q_46, .inl (cI, 16, .inl (fun _ => 0))), (q_47, .inr (cVal, [.ref q_48, .ref q_50])), (q_48, .inr (cCol, [.int (nI 40000), .ref q_49])), (q_49, .inl (cI, 16, .inl (fun _ => 0))), (q_50, .inr (cCol, [.int (nI 40000), .ref q_51])), (q_51, .inl (cI, 16, .inl (fun _ => 0)))] H := hP
  have hD : va_D A [(h, .inr (cPS, [.ref o_1, .ref o_2, .int 0, .ref o_6, .ref o_15, .ref o_22, .ref o_26, .ref o_40, .int 0, .int 0])), (o_1, .inl (cI, 6, .inl (fun _ => 0))), (o_2, .inr (cCol, [.int (nI 90), .ref q_5])), (q_5, .inl (cI, 16, .inl (fun _ => 0))), (o_6, .inr (cRow, [.ref q_9, .ref q_11, .ref q_13])), (q_9, .inr (cCol, [.int (nI 16385), .ref q_10])), (q_10, .inl (cI, 16, .inl (fun _ => 0))), (q_11, .inr (cCol, [.int (nI 16385), .ref q_12])), (q_12, .inl (cI, 16, .inl (fun _ => 0))), (q_13, .inr (cCol, [.int (nI 16385), .ref q_14])), (q_14, .inl (cI, 16, .inl (fun _ => 0))), (o_15, .inr (cVal, [.ref q_18, .ref q_20])), (q_18, .inr (cCol, [.int (nI 32768), .ref q_19])), (q_19, .inl (cI, 16, .inl (fun _ => 0))), (q_20, .inr (cCol, [.int (nI 32768), .ref q_21])), (q_21, .inl (cI, 16, .inl (fun _ => 0))), (o_22, .inr (cCol, [.int (nI 65536), .ref q_25])), (q_25, .inl (cI, 16, .inl (fun _ => 0))), (o_26, .inr (cKey, [.ref q_29, .ref q_31, .ref q_33, .ref q_35])), (q_29, .inr (cCol, [.int (nI 16384), .ref q_30])), (q_30, .inl (cI, 16, .inl (fun _ => 0))), (q_31, .inr (cCol, [.int (nI 16384), .ref q_32])), (q_32, .inl (cI, 16, .inl (fun _ => 0))), (q_33, .inr (cCol, [.int (nI 16384), .ref q_34])), (q_34, .inl (cI, 16, .inl (fun _ => 0))), (q_35, .inr (cVal, [.ref q_36, .ref q_38])), (q_36, .inr (cCol, [.int (nI 16384), .ref q_37])), (q_37, .inl (cI, 16, .inl (fun _ => 0))), (q_38, .inr (cCol, [.int (nI 16384), .ref q_39])), (q_39, .inl (cI, 16, .inl (fun _ => 0))), (o_40, .inr (cMem, [.ref q_43, .ref q_45, .ref q_47])), (q_43, .inr (cCol, [.int (nI 40000), .ref q_44])), (q_44, .inl (cI, 16, .inl (fun _ => 0))), (q_45, .inr (cCol, [.int (nI 40000), .ref q_46])), (q_46, .inl (cI, 16, .inl (fun _ => 0))), (q_47, .inr (cVal, [.ref q_48, .ref q_50])), (q_48, .inr (cCol, [.int (nI 40000), .ref q_49])), (q_49, .inl (cI, 16, .inl (fun _ => 0))), (q_50, .inr (cCol, [.int (nI 40000), .ref q_51])), (q_51, .inl (cI, 16, .inl (fun _ => 0)))] := hD
  obtain ⟨hP, hD⟩ := ps_perm (ws' := (pw cI (fun k => [h, o_1, o_6, o_15, o_26, q_35, o_40, q_47, o_2, o_22, q_18, q_20, q_9, q_11, q_13, q_29, q_31, q_33, q_36, q_38, q_43, q_45, q_48, q_50].getD k 0) (fun k => [q_5, q_25, q_19, q_21, q_10, q_12, q_14, q_30, q_32, q_34, q_37, q_39, q_44, q_46, q_49, q_51].getD k 0) (fun _ => 0) 0 0 0 (fun _ _ => 0) (fun _ => 16))) hP hD [0, 1, 4, 11, 18, 25, 30, 35, 2, 3, 16, 17, 12, 13, 14, 15, 5, 6, 7, 8, 9, 10, 19, 20, 21, 22, 23, 24, 26, 27, 28, 29, 31, 32, 33, 34, 36, 37, 38, 39] (by decide) rfl
  exact ps_vret hx hb hr hlocks hK hP hD hS (Nat.le_of_ble_eq_true rfl) (Nat.le_of_ble_eq_true rfl) d_PS_init_84 (⟨_, _, rfl, rfl⟩)
end
section
theorem d_Mod_init_0 : decode prog_8_method_1_code 0 = .ok (.aload_n 0, 1) := by decide +kernel
theorem d_Mod_init_1 : decode prog_8_method_1_code 1 = .ok (.invokespecial 1, 3) := by decide +kernel
theorem d_Mod_init_4 : decode prog_8_method_1_code 4 = .ok (.aload_n 0, 1) := by decide +kernel
theorem d_Mod_init_5 : decode prog_8_method_1_code 5 = .ok (.sipush (16385), 3) := by decide +kernel
theorem d_Mod_init_8 : decode prog_8_method_1_code 8 = .ok (.newarray .byte, 2) := by decide +kernel
theorem d_Mod_init_10 : decode prog_8_method_1_code 10 = .ok (.putfield 7, 3) := by decide +kernel
theorem d_Mod_init_13 : decode prog_8_method_1_code 13 = .ok (.aload_n 0, 1) := by decide +kernel
theorem d_Mod_init_14 : decode prog_8_method_1_code 14 = .ok (.sipush (16385), 3) := by decide +kernel
theorem d_Mod_init_17 : decode prog_8_method_1_code 17 = .ok (.newarray .int, 2) := by decide +kernel
theorem d_Mod_init_19 : decode prog_8_method_1_code 19 = .ok (.putfield 13, 3) := by decide +kernel
theorem d_Mod_init_22 : decode prog_8_method_1_code 22 = .ok (.aload_n 0, 1) := by decide +kernel
theorem d_Mod_init_23 : decode prog_8_method_1_code 23 = .ok (.sipush (16385), 3) := by decide +kernel
theorem d_Mod_init_26 : decode prog_8_method_1_code 26 = .ok (.newarray .int, 2) := by decide +kernel
theorem d_Mod_init_28 : decode prog_8_method_1_code 28 = .ok (.putfield 17, 3) := by decide +kernel
theorem d_Mod_init_31 : decode prog_8_method_1_code 31 = .ok (.aload_n 0, 1) := by decide +kernel
theorem d_Mod_init_32 : decode prog_8_method_1_code 32 = .ok (.ldc 20, 2) := by decide +kernel
theorem d_Mod_init_34 : decode prog_8_method_1_code 34 = .ok (.newarray .byte, 2) := by decide +kernel
theorem d_Mod_init_36 : decode prog_8_method_1_code 36 = .ok (.putfield 21, 3) := by decide +kernel
theorem d_Mod_init_39 : decode prog_8_method_1_code 39 = .ok (.aload_n 0, 1) := by decide +kernel
theorem d_Mod_init_40 : decode prog_8_method_1_code 40 = .ok (.ldc 20, 2) := by decide +kernel
theorem d_Mod_init_42 : decode prog_8_method_1_code 42 = .ok (.newarray .int, 2) := by decide +kernel
theorem d_Mod_init_44 : decode prog_8_method_1_code 44 = .ok (.putfield 24, 3) := by decide +kernel
theorem d_Mod_init_47 : decode prog_8_method_1_code 47 = .ok (.aload_n 0, 1) := by decide +kernel
theorem d_Mod_init_48 : decode prog_8_method_1_code 48 = .ok (.ldc 27, 2) := by decide +kernel
theorem d_Mod_init_50 : decode prog_8_method_1_code 50 = .ok (.newarray .byte, 2) := by decide +kernel
theorem d_Mod_init_52 : decode prog_8_method_1_code 52 = .ok (.putfield 28, 3) := by decide +kernel
theorem d_Mod_init_55 : decode prog_8_method_1_code 55 = .ok (.aload_n 0, 1) := by decide +kernel
theorem d_Mod_init_56 : decode prog_8_method_1_code 56 = .ok (.sipush (16384), 3) := by decide +kernel
theorem d_Mod_init_59 : decode prog_8_method_1_code 59 = .ok (.newarray .short, 2) := by decide +kernel
theorem d_Mod_init_61 : decode prog_8_method_1_code 61 = .ok (.putfield 31, 3) := by decide +kernel
theorem d_Mod_init_64 : decode prog_8_method_1_code 64 = .ok (.aload_n 0, 1) := by decide +kernel
theorem d_Mod_init_65 : decode prog_8_method_1_code 65 = .ok (.sipush (16384), 3) := by decide +kernel
theorem d_Mod_init_68 : decode prog_8_method_1_code 68 = .ok (.newarray .byte, 2) := by decide +kernel
theorem d_Mod_init_70 : decode prog_8_method_1_code 70 = .ok (.putfield 35, 3) := by decide +kernel
theorem d_Mod_init_73 : decode prog_8_method_1_code 73 = .ok (.aload_n 0, 1) := by decide +kernel
theorem d_Mod_init_74 : decode prog_8_method_1_code 74 = .ok (.sipush (16384), 3) := by decide +kernel
theorem d_Mod_init_77 : decode prog_8_method_1_code 77 = .ok (.newarray .int, 2) := by decide +kernel
theorem d_Mod_init_79 : decode prog_8_method_1_code 79 = .ok (.putfield 38, 3) := by decide +kernel
theorem d_Mod_init_82 : decode prog_8_method_1_code 82 = .ok (.aload_n 0, 1) := by decide +kernel
theorem d_Mod_init_83 : decode prog_8_method_1_code 83 = .ok (.sipush (16384), 3) := by decide +kernel
theorem d_Mod_init_86 : decode prog_8_method_1_code 86 = .ok (.newarray .byte, 2) := by decide +kernel
theorem d_Mod_init_88 : decode prog_8_method_1_code 88 = .ok (.putfield 41, 3) := by decide +kernel
theorem d_Mod_init_91 : decode prog_8_method_1_code 91 = .ok (.aload_n 0, 1) := by decide +kernel
theorem d_Mod_init_92 : decode prog_8_method_1_code 92 = .ok (.sipush (16384), 3) := by decide +kernel
theorem d_Mod_init_95 : decode prog_8_method_1_code 95 = .ok (.newarray .int, 2) := by decide +kernel
theorem d_Mod_init_97 : decode prog_8_method_1_code 97 = .ok (.putfield 44, 3) := by decide +kernel
theorem d_Mod_init_100 : decode prog_8_method_1_code 100 = .ok (.aload_n 0, 1) := by decide +kernel
theorem d_Mod_init_101 : decode prog_8_method_1_code 101 = .ok (.sipush (16384), 3) := by decide +kernel
theorem d_Mod_init_104 : decode prog_8_method_1_code 104 = .ok (.newarray .boolean, 2) := by decide +kernel
theorem d_Mod_init_106 : decode prog_8_method_1_code 106 = .ok (.putfield 47, 3) := by decide +kernel
theorem d_Mod_init_109 : decode prog_8_method_1_code 109 = .ok (.aload_n 0, 1) := by decide +kernel
theorem d_Mod_init_110 : decode prog_8_method_1_code 110 = .ok (.bipush (80), 2) := by decide +kernel
theorem d_Mod_init_112 : decode prog_8_method_1_code 112 = .ok (.newarray .int, 2) := by decide +kernel
theorem d_Mod_init_114 : decode prog_8_method_1_code 114 = .ok (.putfield 51, 3) := by decide +kernel
theorem d_Mod_init_117 : decode prog_8_method_1_code 117 = .ok (.aload_n 0, 1) := by decide +kernel
theorem d_Mod_init_118 : decode prog_8_method_1_code 118 = .ok (.bipush (17), 2) := by decide +kernel
theorem d_Mod_init_120 : decode prog_8_method_1_code 120 = .ok (.newarray .int, 2) := by decide +kernel
theorem d_Mod_init_122 : decode prog_8_method_1_code 122 = .ok (.putfield 54, 3) := by decide +kernel
theorem d_Mod_init_125 : decode prog_8_method_1_code 125 = .ok (.aload_n 0, 1) := by decide +kernel
theorem d_Mod_init_126 : decode prog_8_method_1_code 126 = .ok (.ldc 57, 2) := by decide +kernel
theorem d_Mod_init_128 : decode prog_8_method_1_code 128 = .ok (.newarray .int, 2) := by decide +kernel
theorem d_Mod_init_130 : decode prog_8_method_1_code 130 = .ok (.putfield 58, 3) := by decide +kernel
theorem d_Mod_init_133 : decode prog_8_method_1_code 133 = .ok (.aload_n 0, 1) := by decide +kernel
theorem d_Mod_init_134 : decode prog_8_method_1_code 134 = .ok (.ldc 57, 2) := by decide +kernel
theorem d_Mod_init_136 : decode prog_8_method_1_code 136 = .ok (.newarray .byte, 2) := by decide +kernel
theorem d_Mod_init_138 : decode prog_8_method_1_code 138 = .ok (.putfield 61, 3) := by decide +kernel
theorem d_Mod_init_141 : decode prog_8_method_1_code 141 = .ok (.aload_n 0, 1) := by decide +kernel
theorem d_Mod_init_142 : decode prog_8_method_1_code 142 = .ok (.ldc 57, 2) := by decide +kernel
theorem d_Mod_init_144 : decode prog_8_method_1_code 144 = .ok (.newarray .int, 2) := by decide +kernel
theorem d_Mod_init_146 : decode prog_8_method_1_code 146 = .ok (.putfield 64, 3) := by decide +kernel
theorem d_Mod_init_149 : decode prog_8_method_1_code 149 = .ok (.aload_n 0, 1) := by decide +kernel
theorem d_Mod_init_150 : decode prog_8_method_1_code 150 = .ok (.ldc 57, 2) := by decide +kernel
theorem d_Mod_init_152 : decode prog_8_method_1_code 152 = .ok (.newarray .boolean, 2) := by decide +kernel
theorem d_Mod_init_154 : decode prog_8_method_1_code 154 = .ok (.putfield 67, 3) := by decide +kernel
theorem d_Mod_init_157 : decode prog_8_method_1_code 157 = .ok (.return_, 1) := by decide +kernel
theorem d_Mod_values_0 : decode prog_8_method_3_code 0 = .ok (.iload_n 1, 1) := by decide +kernel
theorem d_Mod_values_1 : decode prog_8_method_3_code 1 = .ok (.ifCond .lt (9), 3) := by decide +kernel
theorem d_Mod_values_4 : decode prog_8_method_3_code 4 = .ok (.iload_n 1, 1) := by decide +kernel
theorem d_Mod_values_5 : decode prog_8_method_3_code 5 = .ok (.ldc 20, 2) := by decide +kernel
theorem d_Mod_values_7 : decode prog_8_method_3_code 7 = .ok (.if_icmp .le (5), 3) := by decide +kernel
theorem d_Mod_values_10 : decode prog_8_method_3_code 10 = .ok (.iconst (-1), 1) := by decide +kernel
theorem d_Mod_values_11 : decode prog_8_method_3_code 11 = .ok (.ireturn, 1) := by decide +kernel
theorem d_Mod_values_12 : decode prog_8_method_3_code 12 = .ok (.aload_n 0, 1) := by decide +kernel
theorem d_Mod_values_13 : decode prog_8_method_3_code 13 = .ok (.getfield 70, 3) := by decide +kernel
theorem d_Mod_values_16 : decode prog_8_method_3_code 16 = .ok (.sipush (16384), 3) := by decide +kernel
theorem d_Mod_values_19 : decode prog_8_method_3_code 19 = .ok (.if_icmp .eq (14), 3) := by decide +kernel
theorem d_Mod_values_22 : decode prog_8_method_3_code 22 = .ok (.aload_n 0, 1) := by decide +kernel
theorem d_Mod_values_23 : decode prog_8_method_3_code 23 = .ok (.getfield 74, 3) := by decide +kernel
theorem d_Mod_values_26 : decode prog_8_method_3_code 26 = .ok (.iload_n 1, 1) := by decide +kernel
theorem d_Mod_values_27 : decode prog_8_method_3_code 27 = .ok (.iadd, 1) := by decide +kernel
theorem d_Mod_values_28 : decode prog_8_method_3_code 28 = .ok (.ldc 20, 2) := by decide +kernel
theorem d_Mod_values_30 : decode prog_8_method_3_code 30 = .ok (.if_icmp .le (6), 3) := by decide +kernel
theorem d_Mod_values_33 : decode prog_8_method_3_code 33 = .ok (.bipush (-3), 2) := by decide +kernel
theorem d_Mod_values_35 : decode prog_8_method_3_code 35 = .ok (.ireturn, 1) := by decide +kernel
theorem d_Mod_values_36 : decode prog_8_method_3_code 36 = .ok (.iconst (0), 1) := by decide +kernel
theorem d_Mod_values_37 : decode prog_8_method_3_code 37 = .ok (.istore_n 2, 1) := by decide +kernel
theorem d_Mod_values_38 : decode prog_8_method_3_code 38 = .ok (.iload_n 2, 1) := by decide +kernel
theorem d_Mod_values_39 : decode prog_8_method_3_code 39 = .ok (.iload_n 1, 1) := by decide +kernel
theorem d_Mod_values_40 : decode prog_8_method_3_code 40 = .ok (.if_icmp .ge (33), 3) := by decide +kernel
theorem d_Mod_values_43 : decode prog_8_method_3_code 43 = .ok (.aload_n 0, 1) := by decide +kernel
theorem d_Mod_values_44 : decode prog_8_method_3_code 44 = .ok (.getfield 21, 3) := by decide +kernel
theorem d_Mod_values_47 : decode prog_8_method_3_code 47 = .ok (.aload_n 0, 1) := by decide +kernel
theorem d_Mod_values_48 : decode prog_8_method_3_code 48 = .ok (.getfield 74, 3) := by decide +kernel
theorem d_Mod_values_51 : decode prog_8_method_3_code 51 = .ok (.iload_n 2, 1) := by decide +kernel
theorem d_Mod_values_52 : decode prog_8_method_3_code 52 = .ok (.iadd, 1) := by decide +kernel
theorem d_Mod_values_53 : decode prog_8_method_3_code 53 = .ok (.iconst (0), 1) := by decide +kernel
theorem d_Mod_values_54 : decode prog_8_method_3_code 54 = .ok (.bastore, 1) := by decide +kernel
theorem d_Mod_values_55 : decode prog_8_method_3_code 55 = .ok (.aload_n 0, 1) := by decide +kernel
theorem d_Mod_values_56 : decode prog_8_method_3_code 56 = .ok (.getfield 24, 3) := by decide +kernel
theorem d_Mod_values_59 : decode prog_8_method_3_code 59 = .ok (.aload_n 0, 1) := by decide +kernel
theorem d_Mod_values_60 : decode prog_8_method_3_code 60 = .ok (.getfield 74, 3) := by decide +kernel
theorem d_Mod_values_63 : decode prog_8_method_3_code 63 = .ok (.iload_n 2, 1) := by decide +kernel
theorem d_Mod_values_64 : decode prog_8_method_3_code 64 = .ok (.iadd, 1) := by decide +kernel
theorem d_Mod_values_65 : decode prog_8_method_3_code 65 = .ok (.iconst (0), 1) := by decide +kernel
theorem d_Mod_values_66 : decode prog_8_method_3_code 66 = .ok (.iastore, 1) := by decide +kernel
theorem d_Mod_values_67 : decode prog_8_method_3_code 67 = .ok (.iinc 2 (1), 3) := by decide +kernel
theorem d_Mod_values_70 : decode prog_8_method_3_code 70 = .ok (.goto (-32), 3) := by decide +kernel
theorem d_Mod_values_73 : decode prog_8_method_3_code 73 = .ok (.aload_n 0, 1) := by decide +kernel
theorem d_Mod_values_74 : decode prog_8_method_3_code 74 = .ok (.dup, 1) := by decide +kernel
theorem d_Mod_values_75 : decode prog_8_method_3_code 75 = .ok (.getfield 74, 3) := by decide +kernel
theorem d_Mod_values_78 : decode prog_8_method_3_code 78 = .ok (.iload_n 1, 1) := by decide +kernel
theorem d_Mod_values_79 : decode prog_8_method_3_code 79 = .ok (.iadd, 1) := by decide +kernel
theorem d_Mod_values_80 : decode prog_8_method_3_code 80 = .ok (.putfield 74, 3) := by decide +kernel
theorem d_Mod_values_83 : decode prog_8_method_3_code 83 = .ok (.aload_n 0, 1) := by decide +kernel
theorem d_Mod_values_84 : decode prog_8_method_3_code 84 = .ok (.iconst (1), 1) := by decide +kernel
theorem d_Mod_values_85 : decode prog_8_method_3_code 85 = .ok (.aload_n 0, 1) := by decide +kernel
theorem d_Mod_values_86 : decode prog_8_method_3_code 86 = .ok (.getfield 74, 3) := by decide +kernel
theorem d_Mod_values_89 : decode prog_8_method_3_code 89 = .ok (.iload_n 1, 1) := by decide +kernel
theorem d_Mod_values_90 : decode prog_8_method_3_code 90 = .ok (.isub, 1) := by decide +kernel
theorem d_Mod_values_91 : decode prog_8_method_3_code 91 = .ok (.iload_n 1, 1) := by decide +kernel
theorem d_Mod_values_92 : decode prog_8_method_3_code 92 = .ok (.invokevirtual 77, 3) := by decide +kernel
theorem d_Mod_values_95 : decode prog_8_method_3_code 95 = .ok (.ireturn, 1) := by decide +kernel
theorem d_Mod_row_0 : decode prog_8_method_2_code 0 = .ok (.aload_n 0, 1) := by decide +kernel
theorem d_Mod_row_1 : decode prog_8_method_2_code 1 = .ok (.dup, 1) := by decide +kernel
theorem d_Mod_row_2 : decode prog_8_method_2_code 2 = .ok (.getfield 70, 3) := by decide +kernel
theorem d_Mod_row_5 : decode prog_8_method_2_code 5 = .ok (.iconst (1), 1) := by decide +kernel
theorem d_Mod_row_6 : decode prog_8_method_2_code 6 = .ok (.iadd, 1) := by decide +kernel
theorem d_Mod_row_7 : decode prog_8_method_2_code 7 = .ok (.putfield 70, 3) := by decide +kernel
theorem d_Mod_row_10 : decode prog_8_method_2_code 10 = .ok (.aload_n 0, 1) := by decide +kernel
theorem d_Mod_row_11 : decode prog_8_method_2_code 11 = .ok (.getfield 7, 3) := by decide +kernel
theorem d_Mod_row_14 : decode prog_8_method_2_code 14 = .ok (.aload_n 0, 1) := by decide +kernel
theorem d_Mod_row_15 : decode prog_8_method_2_code 15 = .ok (.getfield 70, 3) := by decide +kernel
theorem d_Mod_row_18 : decode prog_8_method_2_code 18 = .ok (.iload_n 1, 1) := by decide +kernel
theorem d_Mod_row_19 : decode prog_8_method_2_code 19 = .ok (.i2b, 1) := by decide +kernel
theorem d_Mod_row_20 : decode prog_8_method_2_code 20 = .ok (.bastore, 1) := by decide +kernel
theorem d_Mod_row_21 : decode prog_8_method_2_code 21 = .ok (.aload_n 0, 1) := by decide +kernel
theorem d_Mod_row_22 : decode prog_8_method_2_code 22 = .ok (.getfield 13, 3) := by decide +kernel
theorem d_Mod_row_25 : decode prog_8_method_2_code 25 = .ok (.aload_n 0, 1) := by decide +kernel
theorem d_Mod_row_26 : decode prog_8_method_2_code 26 = .ok (.getfield 70, 3) := by decide +kernel
theorem d_Mod_row_29 : decode prog_8_method_2_code 29 = .ok (.iload_n 2, 1) := by decide +kernel
theorem d_Mod_row_30 : decode prog_8_method_2_code 30 = .ok (.iastore, 1) := by decide +kernel
theorem d_Mod_row_31 : decode prog_8_method_2_code 31 = .ok (.aload_n 0, 1) := by decide +kernel
theorem d_Mod_row_32 : decode prog_8_method_2_code 32 = .ok (.getfield 17, 3) := by decide +kernel
theorem d_Mod_row_35 : decode prog_8_method_2_code 35 = .ok (.aload_n 0, 1) := by decide +kernel
theorem d_Mod_row_36 : decode prog_8_method_2_code 36 = .ok (.getfield 70, 3) := by decide +kernel
theorem d_Mod_row_39 : decode prog_8_method_2_code 39 = .ok (.iload_n 3, 1) := by decide +kernel
theorem d_Mod_row_40 : decode prog_8_method_2_code 40 = .ok (.iastore, 1) := by decide +kernel
theorem d_Mod_row_41 : decode prog_8_method_2_code 41 = .ok (.aload_n 0, 1) := by decide +kernel
theorem d_Mod_row_42 : decode prog_8_method_2_code 42 = .ok (.getfield 70, 3) := by decide +kernel
theorem d_Mod_row_45 : decode prog_8_method_2_code 45 = .ok (.ireturn, 1) := by decide +kernel
theorem d_Mod_bytes_0 : decode prog_8_method_4_code 0 = .ok (.iload_n 1, 1) := by decide +kernel
theorem d_Mod_bytes_1 : decode prog_8_method_4_code 1 = .ok (.ifCond .lt (9), 3) := by decide +kernel
theorem d_Mod_bytes_4 : decode prog_8_method_4_code 4 = .ok (.iload_n 1, 1) := by decide +kernel
theorem d_Mod_bytes_5 : decode prog_8_method_4_code 5 = .ok (.ldc 27, 2) := by decide +kernel
theorem d_Mod_bytes_7 : decode prog_8_method_4_code 7 = .ok (.if_icmp .le (5), 3) := by decide +kernel
theorem d_Mod_bytes_10 : decode prog_8_method_4_code 10 = .ok (.iconst (-1), 1) := by decide +kernel
theorem d_Mod_bytes_11 : decode prog_8_method_4_code 11 = .ok (.ireturn, 1) := by decide +kernel
theorem d_Mod_bytes_12 : decode prog_8_method_4_code 12 = .ok (.aload_n 0, 1) := by decide +kernel
theorem d_Mod_bytes_13 : decode prog_8_method_4_code 13 = .ok (.getfield 70, 3) := by decide +kernel
theorem d_Mod_bytes_16 : decode prog_8_method_4_code 16 = .ok (.sipush (16384), 3) := by decide +kernel
theorem d_Mod_bytes_19 : decode prog_8_method_4_code 19 = .ok (.if_icmp .eq (14), 3) := by decide +kernel
theorem d_Mod_bytes_22 : decode prog_8_method_4_code 22 = .ok (.aload_n 0, 1) := by decide +kernel
theorem d_Mod_bytes_23 : decode prog_8_method_4_code 23 = .ok (.getfield 81, 3) := by decide +kernel
theorem d_Mod_bytes_26 : decode prog_8_method_4_code 26 = .ok (.iload_n 1, 1) := by decide +kernel
theorem d_Mod_bytes_27 : decode prog_8_method_4_code 27 = .ok (.iadd, 1) := by decide +kernel
theorem d_Mod_bytes_28 : decode prog_8_method_4_code 28 = .ok (.ldc 27, 2) := by decide +kernel
theorem d_Mod_bytes_30 : decode prog_8_method_4_code 30 = .ok (.if_icmp .le (6), 3) := by decide +kernel
theorem d_Mod_bytes_33 : decode prog_8_method_4_code 33 = .ok (.bipush (-3), 2) := by decide +kernel
theorem d_Mod_bytes_35 : decode prog_8_method_4_code 35 = .ok (.ireturn, 1) := by decide +kernel
theorem d_Mod_bytes_36 : decode prog_8_method_4_code 36 = .ok (.iconst (0), 1) := by decide +kernel
theorem d_Mod_bytes_37 : decode prog_8_method_4_code 37 = .ok (.istore_n 2, 1) := by decide +kernel
theorem d_Mod_bytes_38 : decode prog_8_method_4_code 38 = .ok (.iload_n 2, 1) := by decide +kernel
theorem d_Mod_bytes_39 : decode prog_8_method_4_code 39 = .ok (.iload_n 1, 1) := by decide +kernel
theorem d_Mod_bytes_40 : decode prog_8_method_4_code 40 = .ok (.if_icmp .ge (21), 3) := by decide +kernel
theorem d_Mod_bytes_43 : decode prog_8_method_4_code 43 = .ok (.aload_n 0, 1) := by decide +kernel
theorem d_Mod_bytes_44 : decode prog_8_method_4_code 44 = .ok (.getfield 28, 3) := by decide +kernel
theorem d_Mod_bytes_47 : decode prog_8_method_4_code 47 = .ok (.aload_n 0, 1) := by decide +kernel
theorem d_Mod_bytes_48 : decode prog_8_method_4_code 48 = .ok (.getfield 81, 3) := by decide +kernel
theorem d_Mod_bytes_51 : decode prog_8_method_4_code 51 = .ok (.iload_n 2, 1) := by decide +kernel
theorem d_Mod_bytes_52 : decode prog_8_method_4_code 52 = .ok (.iadd, 1) := by decide +kernel
theorem d_Mod_bytes_53 : decode prog_8_method_4_code 53 = .ok (.iconst (0), 1) := by decide +kernel
theorem d_Mod_bytes_54 : decode prog_8_method_4_code 54 = .ok (.bastore, 1) := by decide +kernel
theorem d_Mod_bytes_55 : decode prog_8_method_4_code 55 = .ok (.iinc 2 (1), 3) := by decide +kernel
theorem d_Mod_bytes_58 : decode prog_8_method_4_code 58 = .ok (.goto (-20), 3) := by decide +kernel
theorem d_Mod_bytes_61 : decode prog_8_method_4_code 61 = .ok (.aload_n 0, 1) := by decide +kernel
theorem d_Mod_bytes_62 : decode prog_8_method_4_code 62 = .ok (.dup, 1) := by decide +kernel
theorem d_Mod_bytes_63 : decode prog_8_method_4_code 63 = .ok (.getfield 81, 3) := by decide +kernel
theorem d_Mod_bytes_66 : decode prog_8_method_4_code 66 = .ok (.iload_n 1, 1) := by decide +kernel
theorem d_Mod_bytes_67 : decode prog_8_method_4_code 67 = .ok (.iadd, 1) := by decide +kernel
theorem d_Mod_bytes_68 : decode prog_8_method_4_code 68 = .ok (.putfield 81, 3) := by decide +kernel
theorem d_Mod_bytes_71 : decode prog_8_method_4_code 71 = .ok (.aload_n 0, 1) := by decide +kernel
theorem d_Mod_bytes_72 : decode prog_8_method_4_code 72 = .ok (.iconst (2), 1) := by decide +kernel
theorem d_Mod_bytes_73 : decode prog_8_method_4_code 73 = .ok (.aload_n 0, 1) := by decide +kernel
theorem d_Mod_bytes_74 : decode prog_8_method_4_code 74 = .ok (.getfield 81, 3) := by decide +kernel
theorem d_Mod_bytes_77 : decode prog_8_method_4_code 77 = .ok (.iload_n 1, 1) := by decide +kernel
theorem d_Mod_bytes_78 : decode prog_8_method_4_code 78 = .ok (.isub, 1) := by decide +kernel
theorem d_Mod_bytes_79 : decode prog_8_method_4_code 79 = .ok (.iload_n 1, 1) := by decide +kernel
theorem d_Mod_bytes_80 : decode prog_8_method_4_code 80 = .ok (.invokevirtual 77, 3) := by decide +kernel
theorem d_Mod_bytes_83 : decode prog_8_method_4_code 83 = .ok (.ireturn, 1) := by decide +kernel
theorem d_Mod_part_0 : decode prog_8_method_6_code 0 = .ok (.aload_n 0, 1) := by decide +kernel
theorem d_Mod_part_1 : decode prog_8_method_6_code 1 = .ok (.iload_n 1, 1) := by decide +kernel
theorem d_Mod_part_2 : decode prog_8_method_6_code 2 = .ok (.invokevirtual 84, 3) := by decide +kernel
theorem d_Mod_part_5 : decode prog_8_method_6_code 5 = .ok (.ifCond .eq (33), 3) := by decide +kernel
theorem d_Mod_part_8 : decode prog_8_method_6_code 8 = .ok (.iload_n 2, 1) := by decide +kernel
theorem d_Mod_part_9 : decode prog_8_method_6_code 9 = .ok (.ifCond .lt (29), 3) := by decide +kernel
theorem d_Mod_part_12 : decode prog_8_method_6_code 12 = .ok (.iload_n 3, 1) := by decide +kernel
theorem d_Mod_part_13 : decode prog_8_method_6_code 13 = .ok (.ifCond .lt (25), 3) := by decide +kernel
theorem d_Mod_part_16 : decode prog_8_method_6_code 16 = .ok (.iload_n 2, 1) := by decide +kernel
theorem d_Mod_part_17 : decode prog_8_method_6_code 17 = .ok (.aload_n 0, 1) := by decide +kernel
theorem d_Mod_part_18 : decode prog_8_method_6_code 18 = .ok (.getfield 17, 3) := by decide +kernel
theorem d_Mod_part_21 : decode prog_8_method_6_code 21 = .ok (.iload_n 1, 1) := by decide +kernel
theorem d_Mod_part_22 : decode prog_8_method_6_code 22 = .ok (.iaload, 1) := by decide +kernel
theorem d_Mod_part_23 : decode prog_8_method_6_code 23 = .ok (.if_icmp .gt (15), 3) := by decide +kernel
theorem d_Mod_part_26 : decode prog_8_method_6_code 26 = .ok (.iload_n 3, 1) := by decide +kernel
theorem d_Mod_part_27 : decode prog_8_method_6_code 27 = .ok (.aload_n 0, 1) := by decide +kernel
theorem d_Mod_part_28 : decode prog_8_method_6_code 28 = .ok (.getfield 17, 3) := by decide +kernel
theorem d_Mod_part_31 : decode prog_8_method_6_code 31 = .ok (.iload_n 1, 1) := by decide +kernel
theorem d_Mod_part_32 : decode prog_8_method_6_code 32 = .ok (.iaload, 1) := by decide +kernel
theorem d_Mod_part_33 : decode prog_8_method_6_code 33 = .ok (.iload_n 2, 1) := by decide +kernel
theorem d_Mod_part_34 : decode prog_8_method_6_code 34 = .ok (.isub, 1) := by decide +kernel
theorem d_Mod_part_35 : decode prog_8_method_6_code 35 = .ok (.if_icmp .le (5), 3) := by decide +kernel
theorem d_Mod_part_38 : decode prog_8_method_6_code 38 = .ok (.iconst (-1), 1) := by decide +kernel
theorem d_Mod_part_39 : decode prog_8_method_6_code 39 = .ok (.ireturn, 1) := by decide +kernel
theorem d_Mod_part_40 : decode prog_8_method_6_code 40 = .ok (.aload_n 0, 1) := by decide +kernel
theorem d_Mod_part_41 : decode prog_8_method_6_code 41 = .ok (.getfield 70, 3) := by decide +kernel
theorem d_Mod_part_44 : decode prog_8_method_6_code 44 = .ok (.sipush (16384), 3) := by decide +kernel
theorem d_Mod_part_47 : decode prog_8_method_6_code 47 = .ok (.if_icmp .ne (8), 3) := by decide +kernel
theorem d_Mod_part_50 : decode prog_8_method_6_code 50 = .ok (.bipush (-3), 2) := by decide +kernel
theorem d_Mod_part_52 : decode prog_8_method_6_code 52 = .ok (.goto (22), 3) := by decide +kernel
theorem d_Mod_part_55 : decode prog_8_method_6_code 55 = .ok (.aload_n 0, 1) := by decide +kernel
theorem d_Mod_part_56 : decode prog_8_method_6_code 56 = .ok (.aload_n 0, 1) := by decide +kernel
theorem d_Mod_part_57 : decode prog_8_method_6_code 57 = .ok (.getfield 7, 3) := by decide +kernel
theorem d_Mod_part_60 : decode prog_8_method_6_code 60 = .ok (.iload_n 1, 1) := by decide +kernel
theorem d_Mod_part_61 : decode prog_8_method_6_code 61 = .ok (.baload, 1) := by decide +kernel
theorem d_Mod_part_62 : decode prog_8_method_6_code 62 = .ok (.aload_n 0, 1) := by decide +kernel
theorem d_Mod_part_63 : decode prog_8_method_6_code 63 = .ok (.getfield 13, 3) := by decide +kernel
theorem d_Mod_part_66 : decode prog_8_method_6_code 66 = .ok (.iload_n 1, 1) := by decide +kernel
theorem d_Mod_part_67 : decode prog_8_method_6_code 67 = .ok (.iaload, 1) := by decide +kernel
theorem d_Mod_part_68 : decode prog_8_method_6_code 68 = .ok (.iload_n 2, 1) := by decide +kernel
theorem d_Mod_part_69 : decode prog_8_method_6_code 69 = .ok (.iadd, 1) := by decide +kernel
theorem d_Mod_part_70 : decode prog_8_method_6_code 70 = .ok (.iload_n 3, 1) := by decide +kernel
theorem d_Mod_part_71 : decode prog_8_method_6_code 71 = .ok (.invokevirtual 77, 3) := by decide +kernel
theorem d_Mod_part_74 : decode prog_8_method_6_code 74 = .ok (.ireturn, 1) := by decide +kernel
theorem d_Mod_isRow_0 : decode prog_8_method_5_code 0 = .ok (.iload_n 1, 1) := by decide +kernel
theorem d_Mod_isRow_1 : decode prog_8_method_5_code 1 = .ok (.iconst (1), 1) := by decide +kernel
theorem d_Mod_isRow_2 : decode prog_8_method_5_code 2 = .ok (.if_icmp .lt (15), 3) := by decide +kernel
theorem d_Mod_isRow_5 : decode prog_8_method_5_code 5 = .ok (.iload_n 1, 1) := by decide +kernel
theorem d_Mod_isRow_6 : decode prog_8_method_5_code 6 = .ok (.aload_n 0, 1) := by decide +kernel
theorem d_Mod_isRow_7 : decode prog_8_method_5_code 7 = .ok (.getfield 70, 3) := by decide +kernel
theorem d_Mod_isRow_10 : decode prog_8_method_5_code 10 = .ok (.if_icmp .gt (7), 3) := by decide +kernel
theorem d_Mod_isRow_13 : decode prog_8_method_5_code 13 = .ok (.iconst (1), 1) := by decide +kernel
theorem d_Mod_isRow_14 : decode prog_8_method_5_code 14 = .ok (.goto (4), 3) := by decide +kernel
theorem d_Mod_isRow_17 : decode prog_8_method_5_code 17 = .ok (.iconst (0), 1) := by decide +kernel
theorem d_Mod_isRow_18 : decode prog_8_method_5_code 18 = .ok (.ireturn, 1) := by decide +kernel
theorem d_Mod_sort_0 : decode prog_8_method_7_code 0 = .ok (.aload_n 0, 1) := by decide +kernel
theorem d_Mod_sort_1 : decode prog_8_method_7_code 1 = .ok (.iload_n 1, 1) := by decide +kernel
theorem d_Mod_sort_2 : decode prog_8_method_7_code 2 = .ok (.invokevirtual 84, 3) := by decide +kernel
theorem d_Mod_sort_5 : decode prog_8_method_7_code 5 = .ok (.ifCond .eq (12), 3) := by decide +kernel
theorem d_Mod_sort_8 : decode prog_8_method_7_code 8 = .ok (.aload_n 0, 1) := by decide +kernel
theorem d_Mod_sort_9 : decode prog_8_method_7_code 9 = .ok (.getfield 7, 3) := by decide +kernel
theorem d_Mod_sort_12 : decode prog_8_method_7_code 12 = .ok (.iload_n 1, 1) := by decide +kernel
theorem d_Mod_sort_13 : decode prog_8_method_7_code 13 = .ok (.baload, 1) := by decide +kernel
theorem d_Mod_sort_14 : decode prog_8_method_7_code 14 = .ok (.goto (4), 3) := by decide +kernel
theorem d_Mod_sort_17 : decode prog_8_method_7_code 17 = .ok (.iconst (-1), 1) := by decide +kernel
theorem d_Mod_sort_18 : decode prog_8_method_7_code 18 = .ok (.ireturn, 1) := by decide +kernel
theorem d_Mod_length_0 : decode prog_8_method_8_code 0 = .ok (.aload_n 0, 1) := by decide +kernel
theorem d_Mod_length_1 : decode prog_8_method_8_code 1 = .ok (.iload_n 1, 1) := by decide +kernel
theorem d_Mod_length_2 : decode prog_8_method_8_code 2 = .ok (.invokevirtual 84, 3) := by decide +kernel
theorem d_Mod_length_5 : decode prog_8_method_8_code 5 = .ok (.ifCond .eq (12), 3) := by decide +kernel
theorem d_Mod_length_8 : decode prog_8_method_8_code 8 = .ok (.aload_n 0, 1) := by decide +kernel
theorem d_Mod_length_9 : decode prog_8_method_8_code 9 = .ok (.getfield 17, 3) := by decide +kernel
theorem d_Mod_length_12 : decode prog_8_method_8_code 12 = .ok (.iload_n 1, 1) := by decide +kernel
theorem d_Mod_length_13 : decode prog_8_method_8_code 13 = .ok (.iaload, 1) := by decide +kernel
theorem d_Mod_length_14 : decode prog_8_method_8_code 14 = .ok (.goto (4), 3) := by decide +kernel
theorem d_Mod_length_17 : decode prog_8_method_8_code 17 = .ok (.iconst (-1), 1) := by decide +kernel
theorem d_Mod_length_18 : decode prog_8_method_8_code 18 = .ok (.ireturn, 1) := by decide +kernel
theorem d_Mod_set_0 : decode prog_8_method_12_code 0 = .ok (.aload_n 0, 1) := by decide +kernel
theorem d_Mod_set_1 : decode prog_8_method_12_code 1 = .ok (.iload_n 1, 1) := by decide +kernel
theorem d_Mod_set_2 : decode prog_8_method_12_code 2 = .ok (.iload_n 2, 1) := by decide +kernel
theorem d_Mod_set_3 : decode prog_8_method_12_code 3 = .ok (.invokevirtual 97, 3) := by decide +kernel
theorem d_Mod_set_6 : decode prog_8_method_12_code 6 = .ok (.istore 5, 2) := by decide +kernel
theorem d_Mod_set_8 : decode prog_8_method_12_code 8 = .ok (.iload 5, 2) := by decide +kernel
theorem d_Mod_set_10 : decode prog_8_method_12_code 10 = .ok (.ifCond .lt (23), 3) := by decide +kernel
theorem d_Mod_set_13 : decode prog_8_method_12_code 13 = .ok (.aload_n 0, 1) := by decide +kernel
theorem d_Mod_set_14 : decode prog_8_method_12_code 14 = .ok (.getfield 7, 3) := by decide +kernel
theorem d_Mod_set_17 : decode prog_8_method_12_code 17 = .ok (.iload_n 1, 1) := by decide +kernel
theorem d_Mod_set_18 : decode prog_8_method_12_code 18 = .ok (.baload, 1) := by decide +kernel
theorem d_Mod_set_19 : decode prog_8_method_12_code 19 = .ok (.iconst (1), 1) := by decide +kernel
theorem d_Mod_set_20 : decode prog_8_method_12_code 20 = .ok (.if_icmp .ne (13), 3) := by decide +kernel
theorem d_Mod_set_23 : decode prog_8_method_12_code 23 = .ok (.iload_n 3, 1) := by decide +kernel
theorem d_Mod_set_24 : decode prog_8_method_12_code 24 = .ok (.ifCond .lt (9), 3) := by decide +kernel
theorem d_Mod_set_27 : decode prog_8_method_12_code 27 = .ok (.iload_n 3, 1) := by decide +kernel
theorem d_Mod_set_28 : decode prog_8_method_12_code 28 = .ok (.bipush (15), 2) := by decide +kernel
theorem d_Mod_set_30 : decode prog_8_method_12_code 30 = .ok (.if_icmp .le (5), 3) := by decide +kernel
theorem d_Mod_set_33 : decode prog_8_method_12_code 33 = .ok (.iconst (-1), 1) := by decide +kernel
theorem d_Mod_set_34 : decode prog_8_method_12_code 34 = .ok (.ireturn, 1) := by decide +kernel
theorem d_Mod_set_35 : decode prog_8_method_12_code 35 = .ok (.aload_n 0, 1) := by decide +kernel
theorem d_Mod_set_36 : decode prog_8_method_12_code 36 = .ok (.iload 5, 2) := by decide +kernel
theorem d_Mod_set_38 : decode prog_8_method_12_code 38 = .ok (.invokevirtual 101, 3) := by decide +kernel
theorem d_Mod_set_41 : decode prog_8_method_12_code 41 = .ok (.ifCond .ne (6), 3) := by decide +kernel
theorem d_Mod_set_44 : decode prog_8_method_12_code 44 = .ok (.bipush (-3), 2) := by decide +kernel
theorem d_Mod_set_46 : decode prog_8_method_12_code 46 = .ok (.ireturn, 1) := by decide +kernel
theorem d_Mod_set_47 : decode prog_8_method_12_code 47 = .ok (.aload_n 0, 1) := by decide +kernel
theorem d_Mod_set_48 : decode prog_8_method_12_code 48 = .ok (.getfield 21, 3) := by decide +kernel
theorem d_Mod_set_51 : decode prog_8_method_12_code 51 = .ok (.iload 5, 2) := by decide +kernel
theorem d_Mod_set_53 : decode prog_8_method_12_code 53 = .ok (.iload_n 3, 1) := by decide +kernel
theorem d_Mod_set_54 : decode prog_8_method_12_code 54 = .ok (.i2b, 1) := by decide +kernel
theorem d_Mod_set_55 : decode prog_8_method_12_code 55 = .ok (.bastore, 1) := by decide +kernel
theorem d_Mod_set_56 : decode prog_8_method_12_code 56 = .ok (.aload_n 0, 1) := by decide +kernel
theorem d_Mod_set_57 : decode prog_8_method_12_code 57 = .ok (.getfield 24, 3) := by decide +kernel
theorem d_Mod_set_60 : decode prog_8_method_12_code 60 = .ok (.iload 5, 2) := by decide +kernel
theorem d_Mod_set_62 : decode prog_8_method_12_code 62 = .ok (.iload_n 3, 1) := by decide +kernel
theorem d_Mod_set_63 : decode prog_8_method_12_code 63 = .ok (.ifCond .ne (7), 3) := by decide +kernel
theorem d_Mod_set_66 : decode prog_8_method_12_code 66 = .ok (.iconst (0), 1) := by decide +kernel
theorem d_Mod_set_67 : decode prog_8_method_12_code 67 = .ok (.goto (5), 3) := by decide +kernel
theorem d_Mod_set_70 : decode prog_8_method_12_code 70 = .ok (.iload 4, 2) := by decide +kernel
theorem d_Mod_set_72 : decode prog_8_method_12_code 72 = .ok (.iastore, 1) := by decide +kernel
theorem d_Mod_set_73 : decode prog_8_method_12_code 73 = .ok (.iconst (1), 1) := by decide +kernel
theorem d_Mod_set_74 : decode prog_8_method_12_code 74 = .ok (.ireturn, 1) := by decide +kernel
theorem d_Mod_at_0 : decode prog_8_method_9_code 0 = .ok (.aload_n 0, 1) := by decide +kernel
theorem d_Mod_at_1 : decode prog_8_method_9_code 1 = .ok (.iload_n 1, 1) := by decide +kernel
theorem d_Mod_at_2 : decode prog_8_method_9_code 2 = .ok (.invokevirtual 84, 3) := by decide +kernel
theorem d_Mod_at_5 : decode prog_8_method_9_code 5 = .ok (.ifCond .eq (28), 3) := by decide +kernel
theorem d_Mod_at_8 : decode prog_8_method_9_code 8 = .ok (.iload_n 2, 1) := by decide +kernel
theorem d_Mod_at_9 : decode prog_8_method_9_code 9 = .ok (.ifCond .lt (24), 3) := by decide +kernel
theorem d_Mod_at_12 : decode prog_8_method_9_code 12 = .ok (.iload_n 2, 1) := by decide +kernel
theorem d_Mod_at_13 : decode prog_8_method_9_code 13 = .ok (.aload_n 0, 1) := by decide +kernel
theorem d_Mod_at_14 : decode prog_8_method_9_code 14 = .ok (.getfield 17, 3) := by decide +kernel
theorem d_Mod_at_17 : decode prog_8_method_9_code 17 = .ok (.iload_n 1, 1) := by decide +kernel
theorem d_Mod_at_18 : decode prog_8_method_9_code 18 = .ok (.iaload, 1) := by decide +kernel
theorem d_Mod_at_19 : decode prog_8_method_9_code 19 = .ok (.if_icmp .ge (14), 3) := by decide +kernel
theorem d_Mod_at_22 : decode prog_8_method_9_code 22 = .ok (.aload_n 0, 1) := by decide +kernel
theorem d_Mod_at_23 : decode prog_8_method_9_code 23 = .ok (.getfield 13, 3) := by decide +kernel
theorem d_Mod_at_26 : decode prog_8_method_9_code 26 = .ok (.iload_n 1, 1) := by decide +kernel
theorem d_Mod_at_27 : decode prog_8_method_9_code 27 = .ok (.iaload, 1) := by decide +kernel
theorem d_Mod_at_28 : decode prog_8_method_9_code 28 = .ok (.iload_n 2, 1) := by decide +kernel
theorem d_Mod_at_29 : decode prog_8_method_9_code 29 = .ok (.iadd, 1) := by decide +kernel
theorem d_Mod_at_30 : decode prog_8_method_9_code 30 = .ok (.goto (4), 3) := by decide +kernel
theorem d_Mod_at_33 : decode prog_8_method_9_code 33 = .ok (.iconst (-1), 1) := by decide +kernel
theorem d_Mod_at_34 : decode prog_8_method_9_code 34 = .ok (.ireturn, 1) := by decide +kernel
theorem d_Mod_remember_0 : decode prog_8_method_11_code 0 = .ok (.aload_n 0, 1) := by decide +kernel
theorem d_Mod_remember_1 : decode prog_8_method_11_code 1 = .ok (.iload_n 1, 1) := by decide +kernel
theorem d_Mod_remember_2 : decode prog_8_method_11_code 2 = .ok (.invokevirtual 94, 3) := by decide +kernel
theorem d_Mod_remember_5 : decode prog_8_method_11_code 5 = .ok (.ifCond .ne (5), 3) := by decide +kernel
theorem d_Mod_remember_8 : decode prog_8_method_11_code 8 = .ok (.iconst (1), 1) := by decide +kernel
theorem d_Mod_remember_9 : decode prog_8_method_11_code 9 = .ok (.ireturn, 1) := by decide +kernel
theorem d_Mod_remember_10 : decode prog_8_method_11_code 10 = .ok (.aload_n 0, 1) := by decide +kernel
theorem d_Mod_remember_11 : decode prog_8_method_11_code 11 = .ok (.getfield 91, 3) := by decide +kernel
theorem d_Mod_remember_14 : decode prog_8_method_11_code 14 = .ok (.ldc 57, 2) := by decide +kernel
theorem d_Mod_remember_16 : decode prog_8_method_11_code 16 = .ok (.if_icmp .ne (5), 3) := by decide +kernel
theorem d_Mod_remember_19 : decode prog_8_method_11_code 19 = .ok (.iconst (0), 1) := by decide +kernel
theorem d_Mod_remember_20 : decode prog_8_method_11_code 20 = .ok (.ireturn, 1) := by decide +kernel
theorem d_Mod_remember_21 : decode prog_8_method_11_code 21 = .ok (.aload_n 0, 1) := by decide +kernel
theorem d_Mod_remember_22 : decode prog_8_method_11_code 22 = .ok (.getfield 58, 3) := by decide +kernel
theorem d_Mod_remember_25 : decode prog_8_method_11_code 25 = .ok (.aload_n 0, 1) := by decide +kernel
theorem d_Mod_remember_26 : decode prog_8_method_11_code 26 = .ok (.getfield 91, 3) := by decide +kernel
theorem d_Mod_remember_29 : decode prog_8_method_11_code 29 = .ok (.iload_n 1, 1) := by decide +kernel
theorem d_Mod_remember_30 : decode prog_8_method_11_code 30 = .ok (.iastore, 1) := by decide +kernel
theorem d_Mod_remember_31 : decode prog_8_method_11_code 31 = .ok (.iload_n 1, 1) := by decide +kernel
theorem d_Mod_remember_32 : decode prog_8_method_11_code 32 = .ok (.ifCond .lt (36), 3) := by decide +kernel
theorem d_Mod_remember_35 : decode prog_8_method_11_code 35 = .ok (.aload_n 0, 1) := by decide +kernel
theorem d_Mod_remember_36 : decode prog_8_method_11_code 36 = .ok (.getfield 61, 3) := by decide +kernel
theorem d_Mod_remember_39 : decode prog_8_method_11_code 39 = .ok (.aload_n 0, 1) := by decide +kernel
theorem d_Mod_remember_40 : decode prog_8_method_11_code 40 = .ok (.getfield 91, 3) := by decide +kernel
theorem d_Mod_remember_43 : decode prog_8_method_11_code 43 = .ok (.aload_n 0, 1) := by decide +kernel
theorem d_Mod_remember_44 : decode prog_8_method_11_code 44 = .ok (.getfield 21, 3) := by decide +kernel
theorem d_Mod_remember_47 : decode prog_8_method_11_code 47 = .ok (.iload_n 1, 1) := by decide +kernel
theorem d_Mod_remember_48 : decode prog_8_method_11_code 48 = .ok (.baload, 1) := by decide +kernel
theorem d_Mod_remember_49 : decode prog_8_method_11_code 49 = .ok (.bastore, 1) := by decide +kernel
theorem d_Mod_remember_50 : decode prog_8_method_11_code 50 = .ok (.aload_n 0, 1) := by decide +kernel
theorem d_Mod_remember_51 : decode prog_8_method_11_code 51 = .ok (.getfield 64, 3) := by decide +kernel
theorem d_Mod_remember_54 : decode prog_8_method_11_code 54 = .ok (.aload_n 0, 1) := by decide +kernel
theorem d_Mod_remember_55 : decode prog_8_method_11_code 55 = .ok (.getfield 91, 3) := by decide +kernel
theorem d_Mod_remember_58 : decode prog_8_method_11_code 58 = .ok (.aload_n 0, 1) := by decide +kernel
theorem d_Mod_remember_59 : decode prog_8_method_11_code 59 = .ok (.getfield 24, 3) := by decide +kernel
theorem d_Mod_remember_62 : decode prog_8_method_11_code 62 = .ok (.iload_n 1, 1) := by decide +kernel
theorem d_Mod_remember_63 : decode prog_8_method_11_code 63 = .ok (.iaload, 1) := by decide +kernel
theorem d_Mod_remember_64 : decode prog_8_method_11_code 64 = .ok (.iastore, 1) := by decide +kernel
theorem d_Mod_remember_65 : decode prog_8_method_11_code 65 = .ok (.goto (54), 3) := by decide +kernel
theorem d_Mod_remember_68 : decode prog_8_method_11_code 68 = .ok (.aload_n 0, 1) := by decide +kernel
theorem d_Mod_remember_69 : decode prog_8_method_11_code 69 = .ok (.getfield 61, 3) := by decide +kernel
theorem d_Mod_remember_72 : decode prog_8_method_11_code 72 = .ok (.aload_n 0, 1) := by decide +kernel
theorem d_Mod_remember_73 : decode prog_8_method_11_code 73 = .ok (.getfield 91, 3) := by decide +kernel
theorem d_Mod_remember_76 : decode prog_8_method_11_code 76 = .ok (.aload_n 0, 1) := by decide +kernel
theorem d_Mod_remember_77 : decode prog_8_method_11_code 77 = .ok (.getfield 41, 3) := by decide +kernel
theorem d_Mod_remember_80 : decode prog_8_method_11_code 80 = .ok (.iconst (-1), 1) := by decide +kernel
theorem d_Mod_remember_81 : decode prog_8_method_11_code 81 = .ok (.iload_n 1, 1) := by decide +kernel
theorem d_Mod_remember_82 : decode prog_8_method_11_code 82 = .ok (.isub, 1) := by decide +kernel
theorem d_Mod_remember_83 : decode prog_8_method_11_code 83 = .ok (.baload, 1) := by decide +kernel
theorem d_Mod_remember_84 : decode prog_8_method_11_code 84 = .ok (.bastore, 1) := by decide +kernel
theorem d_Mod_remember_85 : decode prog_8_method_11_code 85 = .ok (.aload_n 0, 1) := by decide +kernel
theorem d_Mod_remember_86 : decode prog_8_method_11_code 86 = .ok (.getfield 64, 3) := by decide +kernel
theorem d_Mod_remember_89 : decode prog_8_method_11_code 89 = .ok (.aload_n 0, 1) := by decide +kernel
theorem d_Mod_remember_90 : decode prog_8_method_11_code 90 = .ok (.getfield 91, 3) := by decide +kernel
theorem d_Mod_remember_93 : decode prog_8_method_11_code 93 = .ok (.aload_n 0, 1) := by decide +kernel
theorem d_Mod_remember_94 : decode prog_8_method_11_code 94 = .ok (.getfield 44, 3) := by decide +kernel
theorem d_Mod_remember_97 : decode prog_8_method_11_code 97 = .ok (.iconst (-1), 1) := by decide +kernel
theorem d_Mod_remember_98 : decode prog_8_method_11_code 98 = .ok (.iload_n 1, 1) := by decide +kernel
theorem d_Mod_remember_99 : decode prog_8_method_11_code 99 = .ok (.isub, 1) := by decide +kernel
theorem d_Mod_remember_100 : decode prog_8_method_11_code 100 = .ok (.iaload, 1) := by decide +kernel
theorem d_Mod_remember_101 : decode prog_8_method_11_code 101 = .ok (.iastore, 1) := by decide +kernel
theorem d_Mod_remember_102 : decode prog_8_method_11_code 102 = .ok (.aload_n 0, 1) := by decide +kernel
theorem d_Mod_remember_103 : decode prog_8_method_11_code 103 = .ok (.getfield 67, 3) := by decide +kernel
theorem d_Mod_remember_106 : decode prog_8_method_11_code 106 = .ok (.aload_n 0, 1) := by decide +kernel
theorem d_Mod_remember_107 : decode prog_8_method_11_code 107 = .ok (.getfield 91, 3) := by decide +kernel
theorem d_Mod_remember_110 : decode prog_8_method_11_code 110 = .ok (.aload_n 0, 1) := by decide +kernel
theorem d_Mod_remember_111 : decode prog_8_method_11_code 111 = .ok (.getfield 47, 3) := by decide +kernel
theorem d_Mod_remember_114 : decode prog_8_method_11_code 114 = .ok (.iconst (-1), 1) := by decide +kernel
theorem d_Mod_remember_115 : decode prog_8_method_11_code 115 = .ok (.iload_n 1, 1) := by decide +kernel
theorem d_Mod_remember_116 : decode prog_8_method_11_code 116 = .ok (.isub, 1) := by decide +kernel
theorem d_Mod_remember_117 : decode prog_8_method_11_code 117 = .ok (.baload, 1) := by decide +kernel
theorem d_Mod_remember_118 : decode prog_8_method_11_code 118 = .ok (.bastore, 1) := by decide +kernel
theorem d_Mod_remember_119 : decode prog_8_method_11_code 119 = .ok (.aload_n 0, 1) := by decide +kernel
theorem d_Mod_remember_120 : decode prog_8_method_11_code 120 = .ok (.dup, 1) := by decide +kernel
theorem d_Mod_remember_121 : decode prog_8_method_11_code 121 = .ok (.getfield 91, 3) := by decide +kernel
theorem d_Mod_remember_124 : decode prog_8_method_11_code 124 = .ok (.iconst (1), 1) := by decide +kernel
theorem d_Mod_remember_125 : decode prog_8_method_11_code 125 = .ok (.iadd, 1) := by decide +kernel
theorem d_Mod_remember_126 : decode prog_8_method_11_code 126 = .ok (.putfield 91, 3) := by decide +kernel
theorem d_Mod_remember_129 : decode prog_8_method_11_code 129 = .ok (.iconst (1), 1) := by decide +kernel
theorem d_Mod_remember_130 : decode prog_8_method_11_code 130 = .ok (.ireturn, 1) := by decide +kernel
theorem d_Mod_isOpen_0 : decode prog_8_method_10_code 0 = .ok (.aload_n 0, 1) := by decide +kernel
theorem d_Mod_isOpen_1 : decode prog_8_method_10_code 1 = .ok (.getfield 88, 3) := by decide +kernel
theorem d_Mod_isOpen_4 : decode prog_8_method_10_code 4 = .ok (.ifCond .ne (5), 3) := by decide +kernel
theorem d_Mod_isOpen_7 : decode prog_8_method_10_code 7 = .ok (.iconst (0), 1) := by decide +kernel
theorem d_Mod_isOpen_8 : decode prog_8_method_10_code 8 = .ok (.ireturn, 1) := by decide +kernel
theorem d_Mod_isOpen_9 : decode prog_8_method_10_code 9 = .ok (.iload_n 1, 1) := by decide +kernel
theorem d_Mod_isOpen_10 : decode prog_8_method_10_code 10 = .ok (.ifCond .lt (28), 3) := by decide +kernel
theorem d_Mod_isOpen_13 : decode prog_8_method_10_code 13 = .ok (.iload_n 1, 1) := by decide +kernel
theorem d_Mod_isOpen_14 : decode prog_8_method_10_code 14 = .ok (.aload_n 0, 1) := by decide +kernel
theorem d_Mod_isOpen_15 : decode prog_8_method_10_code 15 = .ok (.getfield 51, 3) := by decide +kernel
theorem d_Mod_isOpen_18 : decode prog_8_method_10_code 18 = .ok (.iconst (5), 1) := by decide +kernel
theorem d_Mod_isOpen_19 : decode prog_8_method_10_code 19 = .ok (.aload_n 0, 1) := by decide +kernel
theorem d_Mod_isOpen_20 : decode prog_8_method_10_code 20 = .ok (.getfield 88, 3) := by decide +kernel
theorem d_Mod_isOpen_23 : decode prog_8_method_10_code 23 = .ok (.imul, 1) := by decide +kernel
theorem d_Mod_isOpen_24 : decode prog_8_method_10_code 24 = .ok (.iconst (1), 1) := by decide +kernel
theorem d_Mod_isOpen_25 : decode prog_8_method_10_code 25 = .ok (.iadd, 1) := by decide +kernel
theorem d_Mod_isOpen_26 : decode prog_8_method_10_code 26 = .ok (.iaload, 1) := by decide +kernel
theorem d_Mod_isOpen_27 : decode prog_8_method_10_code 27 = .ok (.if_icmp .ge (7), 3) := by decide +kernel
theorem d_Mod_isOpen_30 : decode prog_8_method_10_code 30 = .ok (.iconst (1), 1) := by decide +kernel
theorem d_Mod_isOpen_31 : decode prog_8_method_10_code 31 = .ok (.goto (31), 3) := by decide +kernel
theorem d_Mod_isOpen_34 : decode prog_8_method_10_code 34 = .ok (.iconst (0), 1) := by decide +kernel
theorem d_Mod_isOpen_35 : decode prog_8_method_10_code 35 = .ok (.goto (27), 3) := by decide +kernel
theorem d_Mod_isOpen_38 : decode prog_8_method_10_code 38 = .ok (.iconst (-1), 1) := by decide +kernel
theorem d_Mod_isOpen_39 : decode prog_8_method_10_code 39 = .ok (.iload_n 1, 1) := by decide +kernel
theorem d_Mod_isOpen_40 : decode prog_8_method_10_code 40 = .ok (.isub, 1) := by decide +kernel
theorem d_Mod_isOpen_41 : decode prog_8_method_10_code 41 = .ok (.aload_n 0, 1) := by decide +kernel
theorem d_Mod_isOpen_42 : decode prog_8_method_10_code 42 = .ok (.getfield 51, 3) := by decide +kernel
theorem d_Mod_isOpen_45 : decode prog_8_method_10_code 45 = .ok (.iconst (5), 1) := by decide +kernel
theorem d_Mod_isOpen_46 : decode prog_8_method_10_code 46 = .ok (.aload_n 0, 1) := by decide +kernel
theorem d_Mod_isOpen_47 : decode prog_8_method_10_code 47 = .ok (.getfield 88, 3) := by decide +kernel
theorem d_Mod_isOpen_50 : decode prog_8_method_10_code 50 = .ok (.imul, 1) := by decide +kernel
theorem d_Mod_isOpen_51 : decode prog_8_method_10_code 51 = .ok (.iconst (4), 1) := by decide +kernel
theorem d_Mod_isOpen_52 : decode prog_8_method_10_code 52 = .ok (.iadd, 1) := by decide +kernel
theorem d_Mod_isOpen_53 : decode prog_8_method_10_code 53 = .ok (.iaload, 1) := by decide +kernel
theorem d_Mod_isOpen_54 : decode prog_8_method_10_code 54 = .ok (.if_icmp .ge (7), 3) := by decide +kernel
theorem d_Mod_isOpen_57 : decode prog_8_method_10_code 57 = .ok (.iconst (1), 1) := by decide +kernel
theorem d_Mod_isOpen_58 : decode prog_8_method_10_code 58 = .ok (.goto (4), 3) := by decide +kernel
theorem d_Mod_isOpen_61 : decode prog_8_method_10_code 61 = .ok (.iconst (0), 1) := by decide +kernel
theorem d_Mod_isOpen_62 : decode prog_8_method_10_code 62 = .ok (.istore_n 2, 1) := by decide +kernel
theorem d_Mod_isOpen_63 : decode prog_8_method_10_code 63 = .ok (.aload_n 0, 1) := by decide +kernel
theorem d_Mod_isOpen_64 : decode prog_8_method_10_code 64 = .ok (.getfield 54, 3) := by decide +kernel
theorem d_Mod_isOpen_67 : decode prog_8_method_10_code 67 = .ok (.aload_n 0, 1) := by decide +kernel
theorem d_Mod_isOpen_68 : decode prog_8_method_10_code 68 = .ok (.getfield 88, 3) := by decide +kernel
theorem d_Mod_isOpen_71 : decode prog_8_method_10_code 71 = .ok (.iaload, 1) := by decide +kernel
theorem d_Mod_isOpen_72 : decode prog_8_method_10_code 72 = .ok (.istore_n 3, 1) := by decide +kernel
theorem d_Mod_isOpen_73 : decode prog_8_method_10_code 73 = .ok (.iload_n 3, 1) := by decide +kernel
theorem d_Mod_isOpen_74 : decode prog_8_method_10_code 74 = .ok (.aload_n 0, 1) := by decide +kernel
theorem d_Mod_isOpen_75 : decode prog_8_method_10_code 75 = .ok (.getfield 91, 3) := by decide +kernel
theorem d_Mod_isOpen_78 : decode prog_8_method_10_code 78 = .ok (.if_icmp .ge (29), 3) := by decide +kernel
theorem d_Mod_isOpen_81 : decode prog_8_method_10_code 81 = .ok (.iload_n 2, 1) := by decide +kernel
theorem d_Mod_isOpen_82 : decode prog_8_method_10_code 82 = .ok (.ifCond .eq (25), 3) := by decide +kernel
theorem d_Mod_isOpen_85 : decode prog_8_method_10_code 85 = .ok (.aload_n 0, 1) := by decide +kernel
theorem d_Mod_isOpen_86 : decode prog_8_method_10_code 86 = .ok (.getfield 58, 3) := by decide +kernel
theorem d_Mod_isOpen_89 : decode prog_8_method_10_code 89 = .ok (.iload_n 3, 1) := by decide +kernel
theorem d_Mod_isOpen_90 : decode prog_8_method_10_code 90 = .ok (.iaload, 1) := by decide +kernel
theorem d_Mod_isOpen_91 : decode prog_8_method_10_code 91 = .ok (.iload_n 1, 1) := by decide +kernel
theorem d_Mod_isOpen_92 : decode prog_8_method_10_code 92 = .ok (.if_icmp .eq (7), 3) := by decide +kernel
theorem d_Mod_isOpen_95 : decode prog_8_method_10_code 95 = .ok (.iconst (1), 1) := by decide +kernel
theorem d_Mod_isOpen_96 : decode prog_8_method_10_code 96 = .ok (.goto (4), 3) := by decide +kernel
theorem d_Mod_isOpen_99 : decode prog_8_method_10_code 99 = .ok (.iconst (0), 1) := by decide +kernel
theorem d_Mod_isOpen_100 : decode prog_8_method_10_code 100 = .ok (.istore_n 2, 1) := by decide +kernel
theorem d_Mod_isOpen_101 : decode prog_8_method_10_code 101 = .ok (.iinc 3 (1), 3) := by decide +kernel
theorem d_Mod_isOpen_104 : decode prog_8_method_10_code 104 = .ok (.goto (-31), 3) := by decide +kernel
theorem d_Mod_isOpen_107 : decode prog_8_method_10_code 107 = .ok (.iload_n 2, 1) := by decide +kernel
theorem d_Mod_isOpen_108 : decode prog_8_method_10_code 108 = .ok (.ireturn, 1) := by decide +kernel
theorem d_Mod_get_0 : decode prog_8_method_13_code 0 = .ok (.aload_n 0, 1) := by decide +kernel
theorem d_Mod_get_1 : decode prog_8_method_13_code 1 = .ok (.iload_n 1, 1) := by decide +kernel
theorem d_Mod_get_2 : decode prog_8_method_13_code 2 = .ok (.iload_n 2, 1) := by decide +kernel
theorem d_Mod_get_3 : decode prog_8_method_13_code 3 = .ok (.invokevirtual 97, 3) := by decide +kernel
theorem d_Mod_get_6 : decode prog_8_method_13_code 6 = .ok (.istore_n 3, 1) := by decide +kernel
theorem d_Mod_get_7 : decode prog_8_method_13_code 7 = .ok (.iload_n 3, 1) := by decide +kernel
theorem d_Mod_get_8 : decode prog_8_method_13_code 8 = .ok (.ifCond .ge (5), 3) := by decide +kernel
theorem d_Mod_get_11 : decode prog_8_method_13_code 11 = .ok (.iconst (-1), 1) := by decide +kernel
theorem d_Mod_get_12 : decode prog_8_method_13_code 12 = .ok (.ireturn, 1) := by decide +kernel
theorem d_Mod_get_13 : decode prog_8_method_13_code 13 = .ok (.aload_n 0, 1) := by decide +kernel
theorem d_Mod_get_14 : decode prog_8_method_13_code 14 = .ok (.getfield 7, 3) := by decide +kernel
theorem d_Mod_get_17 : decode prog_8_method_13_code 17 = .ok (.iload_n 1, 1) := by decide +kernel
theorem d_Mod_get_18 : decode prog_8_method_13_code 18 = .ok (.baload, 1) := by decide +kernel
theorem d_Mod_get_19 : decode prog_8_method_13_code 19 = .ok (.iconst (1), 1) := by decide +kernel
theorem d_Mod_get_20 : decode prog_8_method_13_code 20 = .ok (.if_icmp .ne (12), 3) := by decide +kernel
theorem d_Mod_get_23 : decode prog_8_method_13_code 23 = .ok (.aload_n 0, 1) := by decide +kernel
theorem d_Mod_get_24 : decode prog_8_method_13_code 24 = .ok (.getfield 21, 3) := by decide +kernel
theorem d_Mod_get_27 : decode prog_8_method_13_code 27 = .ok (.iload_n 3, 1) := by decide +kernel
theorem d_Mod_get_28 : decode prog_8_method_13_code 28 = .ok (.baload, 1) := by decide +kernel
theorem d_Mod_get_29 : decode prog_8_method_13_code 29 = .ok (.goto (13), 3) := by decide +kernel
theorem d_Mod_get_32 : decode prog_8_method_13_code 32 = .ok (.aload_n 0, 1) := by decide +kernel
theorem d_Mod_get_33 : decode prog_8_method_13_code 33 = .ok (.getfield 28, 3) := by decide +kernel
theorem d_Mod_get_36 : decode prog_8_method_13_code 36 = .ok (.iload_n 3, 1) := by decide +kernel
theorem d_Mod_get_37 : decode prog_8_method_13_code 37 = .ok (.baload, 1) := by decide +kernel
theorem d_Mod_get_38 : decode prog_8_method_13_code 38 = .ok (.sipush (255), 3) := by decide +kernel
theorem d_Mod_get_41 : decode prog_8_method_13_code 41 = .ok (.iand, 1) := by decide +kernel
theorem d_Mod_get_42 : decode prog_8_method_13_code 42 = .ok (.ireturn, 1) := by decide +kernel
theorem d_Mod_number_0 : decode prog_8_method_14_code 0 = .ok (.aload_n 0, 1) := by decide +kernel
theorem d_Mod_number_1 : decode prog_8_method_14_code 1 = .ok (.iload_n 1, 1) := by decide +kernel
theorem d_Mod_number_2 : decode prog_8_method_14_code 2 = .ok (.iload_n 2, 1) := by decide +kernel
theorem d_Mod_number_3 : decode prog_8_method_14_code 3 = .ok (.invokevirtual 97, 3) := by decide +kernel
theorem d_Mod_number_6 : decode prog_8_method_14_code 6 = .ok (.istore_n 3, 1) := by decide +kernel
theorem d_Mod_number_7 : decode prog_8_method_14_code 7 = .ok (.iload_n 3, 1) := by decide +kernel
theorem d_Mod_number_8 : decode prog_8_method_14_code 8 = .ok (.ifCond .lt (13), 3) := by decide +kernel
theorem d_Mod_number_11 : decode prog_8_method_14_code 11 = .ok (.aload_n 0, 1) := by decide +kernel
theorem d_Mod_number_12 : decode prog_8_method_14_code 12 = .ok (.getfield 7, 3) := by decide +kernel
theorem d_Mod_number_15 : decode prog_8_method_14_code 15 = .ok (.iload_n 1, 1) := by decide +kernel
theorem d_Mod_number_16 : decode prog_8_method_14_code 16 = .ok (.baload, 1) := by decide +kernel
theorem d_Mod_number_17 : decode prog_8_method_14_code 17 = .ok (.iconst (1), 1) := by decide +kernel
theorem d_Mod_number_18 : decode prog_8_method_14_code 18 = .ok (.if_icmp .eq (7), 3) := by decide +kernel
theorem d_Mod_number_21 : decode prog_8_method_14_code 21 = .ok (.iconst (0), 1) := by decide +kernel
theorem d_Mod_number_22 : decode prog_8_method_14_code 22 = .ok (.goto (9), 3) := by decide +kernel
theorem d_Mod_number_25 : decode prog_8_method_14_code 25 = .ok (.aload_n 0, 1) := by decide +kernel
theorem d_Mod_number_26 : decode prog_8_method_14_code 26 = .ok (.getfield 24, 3) := by decide +kernel
theorem d_Mod_number_29 : decode prog_8_method_14_code 29 = .ok (.iload_n 3, 1) := by decide +kernel
theorem d_Mod_number_30 : decode prog_8_method_14_code 30 = .ok (.iaload, 1) := by decide +kernel
theorem d_Mod_number_31 : decode prog_8_method_14_code 31 = .ok (.ireturn, 1) := by decide +kernel
theorem d_Mod_setByte_0 : decode prog_8_method_15_code 0 = .ok (.aload_n 0, 1) := by decide +kernel
theorem d_Mod_setByte_1 : decode prog_8_method_15_code 1 = .ok (.iload_n 1, 1) := by decide +kernel
theorem d_Mod_setByte_2 : decode prog_8_method_15_code 2 = .ok (.iload_n 2, 1) := by decide +kernel
theorem d_Mod_setByte_3 : decode prog_8_method_15_code 3 = .ok (.invokevirtual 97, 3) := by decide +kernel
theorem d_Mod_setByte_6 : decode prog_8_method_15_code 6 = .ok (.istore 4, 2) := by decide +kernel
theorem d_Mod_setByte_8 : decode prog_8_method_15_code 8 = .ok (.iload 4, 2) := by decide +kernel
theorem d_Mod_setByte_10 : decode prog_8_method_15_code 10 = .ok (.ifCond .lt (13), 3) := by decide +kernel
theorem d_Mod_setByte_13 : decode prog_8_method_15_code 13 = .ok (.aload_n 0, 1) := by decide +kernel
theorem d_Mod_setByte_14 : decode prog_8_method_15_code 14 = .ok (.getfield 7, 3) := by decide +kernel
theorem d_Mod_setByte_17 : decode prog_8_method_15_code 17 = .ok (.iload_n 1, 1) := by decide +kernel
theorem d_Mod_setByte_18 : decode prog_8_method_15_code 18 = .ok (.baload, 1) := by decide +kernel
theorem d_Mod_setByte_19 : decode prog_8_method_15_code 19 = .ok (.iconst (2), 1) := by decide +kernel
theorem d_Mod_setByte_20 : decode prog_8_method_15_code 20 = .ok (.if_icmp .eq (5), 3) := by decide +kernel
theorem d_Mod_setByte_23 : decode prog_8_method_15_code 23 = .ok (.iconst (-1), 1) := by decide +kernel
theorem d_Mod_setByte_24 : decode prog_8_method_15_code 24 = .ok (.ireturn, 1) := by decide +kernel
theorem d_Mod_setByte_25 : decode prog_8_method_15_code 25 = .ok (.aload_n 0, 1) := by decide +kernel
theorem d_Mod_setByte_26 : decode prog_8_method_15_code 26 = .ok (.getfield 28, 3) := by decide +kernel
theorem d_Mod_setByte_29 : decode prog_8_method_15_code 29 = .ok (.iload 4, 2) := by decide +kernel
theorem d_Mod_setByte_31 : decode prog_8_method_15_code 31 = .ok (.iload_n 3, 1) := by decide +kernel
theorem d_Mod_setByte_32 : decode prog_8_method_15_code 32 = .ok (.i2b, 1) := by decide +kernel
theorem d_Mod_setByte_33 : decode prog_8_method_15_code 33 = .ok (.bastore, 1) := by decide +kernel
theorem d_Mod_setByte_34 : decode prog_8_method_15_code 34 = .ok (.iconst (1), 1) := by decide +kernel
theorem d_Mod_setByte_35 : decode prog_8_method_15_code 35 = .ok (.ireturn, 1) := by decide +kernel
theorem d_Mod_dictionary_0 : decode prog_8_method_16_code 0 = .ok (.aload_n 0, 1) := by decide +kernel
theorem d_Mod_dictionary_1 : decode prog_8_method_16_code 1 = .ok (.getfield 104, 3) := by decide +kernel
theorem d_Mod_dictionary_4 : decode prog_8_method_16_code 4 = .ok (.sipush (1024), 3) := by decide +kernel
theorem d_Mod_dictionary_7 : decode prog_8_method_16_code 7 = .ok (.if_icmp .ne (6), 3) := by decide +kernel
theorem d_Mod_dictionary_10 : decode prog_8_method_16_code 10 = .ok (.bipush (-3), 2) := by decide +kernel
theorem d_Mod_dictionary_12 : decode prog_8_method_16_code 12 = .ok (.ireturn, 1) := by decide +kernel
theorem d_Mod_dictionary_13 : decode prog_8_method_16_code 13 = .ok (.aload_n 0, 1) := by decide +kernel
theorem d_Mod_dictionary_14 : decode prog_8_method_16_code 14 = .ok (.dup, 1) := by decide +kernel
theorem d_Mod_dictionary_15 : decode prog_8_method_16_code 15 = .ok (.getfield 104, 3) := by decide +kernel
theorem d_Mod_dictionary_18 : decode prog_8_method_16_code 18 = .ok (.iconst (1), 1) := by decide +kernel
theorem d_Mod_dictionary_19 : decode prog_8_method_16_code 19 = .ok (.iadd, 1) := by decide +kernel
theorem d_Mod_dictionary_20 : decode prog_8_method_16_code 20 = .ok (.putfield 104, 3) := by decide +kernel
theorem d_Mod_dictionary_23 : decode prog_8_method_16_code 23 = .ok (.aload_n 0, 1) := by decide +kernel
theorem d_Mod_dictionary_24 : decode prog_8_method_16_code 24 = .ok (.getfield 104, 3) := by decide +kernel
theorem d_Mod_dictionary_27 : decode prog_8_method_16_code 27 = .ok (.ireturn, 1) := by decide +kernel
theorem d_Mod_define_0 : decode prog_8_method_20_code 0 = .ok (.aload_n 0, 1) := by decide +kernel
theorem d_Mod_define_1 : decode prog_8_method_20_code 1 = .ok (.iload_n 1, 1) := by decide +kernel
theorem d_Mod_define_2 : decode prog_8_method_20_code 2 = .ok (.invokevirtual 110, 3) := by decide +kernel
theorem d_Mod_define_5 : decode prog_8_method_20_code 5 = .ok (.ifCond .eq (22), 3) := by decide +kernel
theorem d_Mod_define_8 : decode prog_8_method_20_code 8 = .ok (.iload_n 2, 1) := by decide +kernel
theorem d_Mod_define_9 : decode prog_8_method_20_code 9 = .ok (.invokestatic 113, 3) := by decide +kernel
theorem d_Mod_define_12 : decode prog_8_method_20_code 12 = .ok (.ifCond .eq (15), 3) := by decide +kernel
theorem d_Mod_define_15 : decode prog_8_method_20_code 15 = .ok (.iload 4, 2) := by decide +kernel
theorem d_Mod_define_17 : decode prog_8_method_20_code 17 = .ok (.ifCond .lt (10), 3) := by decide +kernel
theorem d_Mod_define_20 : decode prog_8_method_20_code 20 = .ok (.iload 4, 2) := by decide +kernel
theorem d_Mod_define_22 : decode prog_8_method_20_code 22 = .ok (.bipush (15), 2) := by decide +kernel
theorem d_Mod_define_24 : decode prog_8_method_20_code 24 = .ok (.if_icmp .le (5), 3) := by decide +kernel
theorem d_Mod_define_27 : decode prog_8_method_20_code 27 = .ok (.iconst (-1), 1) := by decide +kernel
theorem d_Mod_define_28 : decode prog_8_method_20_code 28 = .ok (.ireturn, 1) := by decide +kernel
theorem d_Mod_define_29 : decode prog_8_method_20_code 29 = .ok (.aload_n 0, 1) := by decide +kernel
theorem d_Mod_define_30 : decode prog_8_method_20_code 30 = .ok (.iload_n 1, 1) := by decide +kernel
theorem d_Mod_define_31 : decode prog_8_method_20_code 31 = .ok (.iload_n 2, 1) := by decide +kernel
theorem d_Mod_define_32 : decode prog_8_method_20_code 32 = .ok (.iload_n 3, 1) := by decide +kernel
theorem d_Mod_define_33 : decode prog_8_method_20_code 33 = .ok (.invokevirtual 116, 3) := by decide +kernel
theorem d_Mod_define_36 : decode prog_8_method_20_code 36 = .ok (.istore 6, 2) := by decide +kernel
theorem d_Mod_define_38 : decode prog_8_method_20_code 38 = .ok (.iload 6, 2) := by decide +kernel
theorem d_Mod_define_40 : decode prog_8_method_20_code 40 = .ok (.ifCond .ge (16), 3) := by decide +kernel
theorem d_Mod_define_43 : decode prog_8_method_20_code 43 = .ok (.aload_n 0, 1) := by decide +kernel
theorem d_Mod_define_44 : decode prog_8_method_20_code 44 = .ok (.getfield 107, 3) := by decide +kernel
theorem d_Mod_define_47 : decode prog_8_method_20_code 47 = .ok (.sipush (16384), 3) := by decide +kernel
theorem d_Mod_define_50 : decode prog_8_method_20_code 50 = .ok (.if_icmp .ne (6), 3) := by decide +kernel
theorem d_Mod_define_53 : decode prog_8_method_20_code 53 = .ok (.bipush (-3), 2) := by decide +kernel
theorem d_Mod_define_55 : decode prog_8_method_20_code 55 = .ok (.ireturn, 1) := by decide +kernel
theorem d_Mod_define_56 : decode prog_8_method_20_code 56 = .ok (.iload 6, 2) := by decide +kernel
theorem d_Mod_define_58 : decode prog_8_method_20_code 58 = .ok (.ifCond .lt (17), 3) := by decide +kernel
theorem d_Mod_define_61 : decode prog_8_method_20_code 61 = .ok (.aload_n 0, 1) := by decide +kernel
theorem d_Mod_define_62 : decode prog_8_method_20_code 62 = .ok (.iconst (-1), 1) := by decide +kernel
theorem d_Mod_define_63 : decode prog_8_method_20_code 63 = .ok (.iload 6, 2) := by decide +kernel
theorem d_Mod_define_65 : decode prog_8_method_20_code 65 = .ok (.isub, 1) := by decide +kernel
theorem d_Mod_define_66 : decode prog_8_method_20_code 66 = .ok (.invokevirtual 101, 3) := by decide +kernel
theorem d_Mod_define_69 : decode prog_8_method_20_code 69 = .ok (.ifCond .ne (6), 3) := by decide +kernel
theorem d_Mod_define_72 : decode prog_8_method_20_code 72 = .ok (.bipush (-3), 2) := by decide +kernel
theorem d_Mod_define_74 : decode prog_8_method_20_code 74 = .ok (.ireturn, 1) := by decide +kernel
theorem d_Mod_define_75 : decode prog_8_method_20_code 75 = .ok (.iload 6, 2) := by decide +kernel
theorem d_Mod_define_77 : decode prog_8_method_20_code 77 = .ok (.ifCond .ge (7), 3) := by decide +kernel
theorem d_Mod_define_80 : decode prog_8_method_20_code 80 = .ok (.iconst (1), 1) := by decide +kernel
theorem d_Mod_define_81 : decode prog_8_method_20_code 81 = .ok (.goto (4), 3) := by decide +kernel
theorem d_Mod_define_84 : decode prog_8_method_20_code 84 = .ok (.iconst (0), 1) := by decide +kernel
theorem d_Mod_define_85 : decode prog_8_method_20_code 85 = .ok (.istore 7, 2) := by decide +kernel
theorem d_Mod_define_87 : decode prog_8_method_20_code 87 = .ok (.iload 6, 2) := by decide +kernel
theorem d_Mod_define_89 : decode prog_8_method_20_code 89 = .ok (.ifCond .ge (45), 3) := by decide +kernel
theorem d_Mod_define_92 : decode prog_8_method_20_code 92 = .ok (.aload_n 0, 1) := by decide +kernel
theorem d_Mod_define_93 : decode prog_8_method_20_code 93 = .ok (.getfield 107, 3) := by decide +kernel
theorem d_Mod_define_96 : decode prog_8_method_20_code 96 = .ok (.istore 6, 2) := by decide +kernel
theorem d_Mod_define_98 : decode prog_8_method_20_code 98 = .ok (.aload_n 0, 1) := by decide +kernel
theorem d_Mod_define_99 : decode prog_8_method_20_code 99 = .ok (.dup, 1) := by decide +kernel
theorem d_Mod_define_100 : decode prog_8_method_20_code 100 = .ok (.getfield 107, 3) := by decide +kernel
theorem d_Mod_define_103 : decode prog_8_method_20_code 103 = .ok (.iconst (1), 1) := by decide +kernel
theorem d_Mod_define_104 : decode prog_8_method_20_code 104 = .ok (.iadd, 1) := by decide +kernel
theorem d_Mod_define_105 : decode prog_8_method_20_code 105 = .ok (.putfield 107, 3) := by decide +kernel
theorem d_Mod_define_108 : decode prog_8_method_20_code 108 = .ok (.aload_n 0, 1) := by decide +kernel
theorem d_Mod_define_109 : decode prog_8_method_20_code 109 = .ok (.getfield 31, 3) := by decide +kernel
theorem d_Mod_define_112 : decode prog_8_method_20_code 112 = .ok (.iload 6, 2) := by decide +kernel
theorem d_Mod_define_114 : decode prog_8_method_20_code 114 = .ok (.iload_n 1, 1) := by decide +kernel
theorem d_Mod_define_115 : decode prog_8_method_20_code 115 = .ok (.i2s, 1) := by decide +kernel
theorem d_Mod_define_116 : decode prog_8_method_20_code 116 = .ok (.sastore, 1) := by decide +kernel
theorem d_Mod_define_117 : decode prog_8_method_20_code 117 = .ok (.aload_n 0, 1) := by decide +kernel
theorem d_Mod_define_118 : decode prog_8_method_20_code 118 = .ok (.getfield 35, 3) := by decide +kernel
theorem d_Mod_define_121 : decode prog_8_method_20_code 121 = .ok (.iload 6, 2) := by decide +kernel
theorem d_Mod_define_123 : decode prog_8_method_20_code 123 = .ok (.iload_n 2, 1) := by decide +kernel
theorem d_Mod_define_124 : decode prog_8_method_20_code 124 = .ok (.i2b, 1) := by decide +kernel
theorem d_Mod_define_125 : decode prog_8_method_20_code 125 = .ok (.bastore, 1) := by decide +kernel
theorem d_Mod_define_126 : decode prog_8_method_20_code 126 = .ok (.aload_n 0, 1) := by decide +kernel
theorem d_Mod_define_127 : decode prog_8_method_20_code 127 = .ok (.getfield 38, 3) := by decide +kernel
theorem d_Mod_define_130 : decode prog_8_method_20_code 130 = .ok (.iload 6, 2) := by decide +kernel
theorem d_Mod_define_132 : decode prog_8_method_20_code 132 = .ok (.iload_n 3, 1) := by decide +kernel
theorem d_Mod_define_133 : decode prog_8_method_20_code 133 = .ok (.iastore, 1) := by decide +kernel
theorem d_Mod_define_134 : decode prog_8_method_20_code 134 = .ok (.aload_n 0, 1) := by decide +kernel
theorem d_Mod_define_135 : decode prog_8_method_20_code 135 = .ok (.getfield 41, 3) := by decide +kernel
theorem d_Mod_define_138 : decode prog_8_method_20_code 138 = .ok (.iload 6, 2) := by decide +kernel
theorem d_Mod_define_140 : decode prog_8_method_20_code 140 = .ok (.iload 4, 2) := by decide +kernel
theorem d_Mod_define_142 : decode prog_8_method_20_code 142 = .ok (.i2b, 1) := by decide +kernel
theorem d_Mod_define_143 : decode prog_8_method_20_code 143 = .ok (.bastore, 1) := by decide +kernel
theorem d_Mod_define_144 : decode prog_8_method_20_code 144 = .ok (.aload_n 0, 1) := by decide +kernel
theorem d_Mod_define_145 : decode prog_8_method_20_code 145 = .ok (.getfield 44, 3) := by decide +kernel
theorem d_Mod_define_148 : decode prog_8_method_20_code 148 = .ok (.iload 6, 2) := by decide +kernel
theorem d_Mod_define_150 : decode prog_8_method_20_code 150 = .ok (.iload 4, 2) := by decide +kernel
theorem d_Mod_define_152 : decode prog_8_method_20_code 152 = .ok (.ifCond .ne (7), 3) := by decide +kernel
theorem d_Mod_define_155 : decode prog_8_method_20_code 155 = .ok (.iconst (0), 1) := by decide +kernel
theorem d_Mod_define_156 : decode prog_8_method_20_code 156 = .ok (.goto (5), 3) := by decide +kernel
theorem d_Mod_define_159 : decode prog_8_method_20_code 159 = .ok (.iload 5, 2) := by decide +kernel
theorem d_Mod_define_161 : decode prog_8_method_20_code 161 = .ok (.iastore, 1) := by decide +kernel
theorem d_Mod_define_162 : decode prog_8_method_20_code 162 = .ok (.aload_n 0, 1) := by decide +kernel
theorem d_Mod_define_163 : decode prog_8_method_20_code 163 = .ok (.getfield 47, 3) := by decide +kernel
theorem d_Mod_define_166 : decode prog_8_method_20_code 166 = .ok (.iload 6, 2) := by decide +kernel
theorem d_Mod_define_168 : decode prog_8_method_20_code 168 = .ok (.iconst (0), 1) := by decide +kernel
theorem d_Mod_define_169 : decode prog_8_method_20_code 169 = .ok (.bastore, 1) := by decide +kernel
theorem d_Mod_define_170 : decode prog_8_method_20_code 170 = .ok (.iload 7, 2) := by decide +kernel
theorem d_Mod_define_172 : decode prog_8_method_20_code 172 = .ok (.ireturn, 1) := by decide +kernel
theorem d_Mod_isDictionary_0 : decode prog_8_method_17_code 0 = .ok (.iload_n 1, 1) := by decide +kernel
theorem d_Mod_isDictionary_1 : decode prog_8_method_17_code 1 = .ok (.iconst (1), 1) := by decide +kernel
theorem d_Mod_isDictionary_2 : decode prog_8_method_17_code 2 = .ok (.if_icmp .lt (15), 3) := by decide +kernel
theorem d_Mod_isDictionary_5 : decode prog_8_method_17_code 5 = .ok (.iload_n 1, 1) := by decide +kernel
theorem d_Mod_isDictionary_6 : decode prog_8_method_17_code 6 = .ok (.aload_n 0, 1) := by decide +kernel
theorem d_Mod_isDictionary_7 : decode prog_8_method_17_code 7 = .ok (.getfield 104, 3) := by decide +kernel
theorem d_Mod_isDictionary_10 : decode prog_8_method_17_code 10 = .ok (.if_icmp .gt (7), 3) := by decide +kernel
theorem d_Mod_isDictionary_13 : decode prog_8_method_17_code 13 = .ok (.iconst (1), 1) := by decide +kernel
theorem d_Mod_isDictionary_14 : decode prog_8_method_17_code 14 = .ok (.goto (4), 3) := by decide +kernel
theorem d_Mod_isDictionary_17 : decode prog_8_method_17_code 17 = .ok (.iconst (0), 1) := by decide +kernel
theorem d_Mod_isDictionary_18 : decode prog_8_method_17_code 18 = .ok (.ireturn, 1) := by decide +kernel
theorem d_Mod_isKey_0 : decode prog_8_method_18_code 0 = .ok (.iload_n 0, 1) := by decide +kernel
theorem d_Mod_isKey_1 : decode prog_8_method_18_code 1 = .ok (.iconst (1), 1) := by decide +kernel
theorem d_Mod_isKey_2 : decode prog_8_method_18_code 2 = .ok (.if_icmp .lt (13), 3) := by decide +kernel
theorem d_Mod_isKey_5 : decode prog_8_method_18_code 5 = .ok (.iload_n 0, 1) := by decide +kernel
theorem d_Mod_isKey_6 : decode prog_8_method_18_code 6 = .ok (.bipush (15), 2) := by decide +kernel
theorem d_Mod_isKey_8 : decode prog_8_method_18_code 8 = .ok (.if_icmp .gt (7), 3) := by decide +kernel
theorem d_Mod_isKey_11 : decode prog_8_method_18_code 11 = .ok (.iconst (1), 1) := by decide +kernel
theorem d_Mod_isKey_12 : decode prog_8_method_18_code 12 = .ok (.goto (4), 3) := by decide +kernel
theorem d_Mod_isKey_15 : decode prog_8_method_18_code 15 = .ok (.iconst (0), 1) := by decide +kernel
theorem d_Mod_isKey_16 : decode prog_8_method_18_code 16 = .ok (.ireturn, 1) := by decide +kernel
theorem d_Mod_key_0 : decode prog_8_method_19_code 0 = .ok (.iconst (0), 1) := by decide +kernel
theorem d_Mod_key_1 : decode prog_8_method_19_code 1 = .ok (.istore 4, 2) := by decide +kernel
theorem d_Mod_key_3 : decode prog_8_method_19_code 3 = .ok (.iload 4, 2) := by decide +kernel
theorem d_Mod_key_5 : decode prog_8_method_19_code 5 = .ok (.aload_n 0, 1) := by decide +kernel
theorem d_Mod_key_6 : decode prog_8_method_19_code 6 = .ok (.getfield 107, 3) := by decide +kernel
theorem d_Mod_key_9 : decode prog_8_method_19_code 9 = .ok (.if_icmp .ge (42), 3) := by decide +kernel
theorem d_Mod_key_12 : decode prog_8_method_19_code 12 = .ok (.aload_n 0, 1) := by decide +kernel
theorem d_Mod_key_13 : decode prog_8_method_19_code 13 = .ok (.getfield 31, 3) := by decide +kernel
theorem d_Mod_key_16 : decode prog_8_method_19_code 16 = .ok (.iload 4, 2) := by decide +kernel
theorem d_Mod_key_18 : decode prog_8_method_19_code 18 = .ok (.saload, 1) := by decide +kernel
theorem d_Mod_key_19 : decode prog_8_method_19_code 19 = .ok (.iload_n 1, 1) := by decide +kernel
theorem d_Mod_key_20 : decode prog_8_method_19_code 20 = .ok (.if_icmp .ne (25), 3) := by decide +kernel
theorem d_Mod_key_23 : decode prog_8_method_19_code 23 = .ok (.aload_n 0, 1) := by decide +kernel
theorem d_Mod_key_24 : decode prog_8_method_19_code 24 = .ok (.getfield 35, 3) := by decide +kernel
theorem d_Mod_key_27 : decode prog_8_method_19_code 27 = .ok (.iload 4, 2) := by decide +kernel
theorem d_Mod_key_29 : decode prog_8_method_19_code 29 = .ok (.baload, 1) := by decide +kernel
theorem d_Mod_key_30 : decode prog_8_method_19_code 30 = .ok (.iload_n 2, 1) := by decide +kernel
theorem d_Mod_key_31 : decode prog_8_method_19_code 31 = .ok (.if_icmp .ne (14), 3) := by decide +kernel
theorem d_Mod_key_34 : decode prog_8_method_19_code 34 = .ok (.aload_n 0, 1) := by decide +kernel
theorem d_Mod_key_35 : decode prog_8_method_19_code 35 = .ok (.getfield 38, 3) := by decide +kernel
theorem d_Mod_key_38 : decode prog_8_method_19_code 38 = .ok (.iload 4, 2) := by decide +kernel
theorem d_Mod_key_40 : decode prog_8_method_19_code 40 = .ok (.iaload, 1) := by decide +kernel
theorem d_Mod_key_41 : decode prog_8_method_19_code 41 = .ok (.iload_n 3, 1) := by decide +kernel
theorem d_Mod_key_42 : decode prog_8_method_19_code 42 = .ok (.if_icmp .eq (9), 3) := by decide +kernel
theorem d_Mod_key_45 : decode prog_8_method_19_code 45 = .ok (.iinc 4 (1), 3) := by decide +kernel
theorem d_Mod_key_48 : decode prog_8_method_19_code 48 = .ok (.goto (-45), 3) := by decide +kernel
theorem d_Mod_key_51 : decode prog_8_method_19_code 51 = .ok (.iload 4, 2) := by decide +kernel
theorem d_Mod_key_53 : decode prog_8_method_19_code 53 = .ok (.aload_n 0, 1) := by decide +kernel
theorem d_Mod_key_54 : decode prog_8_method_19_code 54 = .ok (.getfield 107, 3) := by decide +kernel
theorem d_Mod_key_57 : decode prog_8_method_19_code 57 = .ok (.if_icmp .ge (8), 3) := by decide +kernel
theorem d_Mod_key_60 : decode prog_8_method_19_code 60 = .ok (.iload 4, 2) := by decide +kernel
theorem d_Mod_key_62 : decode prog_8_method_19_code 62 = .ok (.goto (4), 3) := by decide +kernel
theorem d_Mod_key_65 : decode prog_8_method_19_code 65 = .ok (.iconst (-1), 1) := by decide +kernel
theorem d_Mod_key_66 : decode prog_8_method_19_code 66 = .ok (.ireturn, 1) := by decide +kernel
theorem d_Mod_find_0 : decode prog_8_method_22_code 0 = .ok (.aload_n 0, 1) := by decide +kernel
theorem d_Mod_find_1 : decode prog_8_method_22_code 1 = .ok (.iload_n 1, 1) := by decide +kernel
theorem d_Mod_find_2 : decode prog_8_method_22_code 2 = .ok (.invokevirtual 110, 3) := by decide +kernel
theorem d_Mod_find_5 : decode prog_8_method_22_code 5 = .ok (.ifCond .eq (10), 3) := by decide +kernel
theorem d_Mod_find_8 : decode prog_8_method_22_code 8 = .ok (.iload_n 2, 1) := by decide +kernel
theorem d_Mod_find_9 : decode prog_8_method_22_code 9 = .ok (.invokestatic 113, 3) := by decide +kernel
theorem d_Mod_find_12 : decode prog_8_method_22_code 12 = .ok (.ifCond .ne (5), 3) := by decide +kernel
theorem d_Mod_find_15 : decode prog_8_method_22_code 15 = .ok (.iconst (-1), 1) := by decide +kernel
theorem d_Mod_find_16 : decode prog_8_method_22_code 16 = .ok (.ireturn, 1) := by decide +kernel
theorem d_Mod_find_17 : decode prog_8_method_22_code 17 = .ok (.aload_n 0, 1) := by decide +kernel
theorem d_Mod_find_18 : decode prog_8_method_22_code 18 = .ok (.iload_n 1, 1) := by decide +kernel
theorem d_Mod_find_19 : decode prog_8_method_22_code 19 = .ok (.iload_n 2, 1) := by decide +kernel
theorem d_Mod_find_20 : decode prog_8_method_22_code 20 = .ok (.iload_n 3, 1) := by decide +kernel
theorem d_Mod_find_21 : decode prog_8_method_22_code 21 = .ok (.invokevirtual 119, 3) := by decide +kernel
theorem d_Mod_find_24 : decode prog_8_method_22_code 24 = .ok (.istore 4, 2) := by decide +kernel
theorem d_Mod_find_26 : decode prog_8_method_22_code 26 = .ok (.iload 4, 2) := by decide +kernel
theorem d_Mod_find_28 : decode prog_8_method_22_code 28 = .ok (.ifCond .ge (8), 3) := by decide +kernel
theorem d_Mod_find_31 : decode prog_8_method_22_code 31 = .ok (.bipush (-2), 2) := by decide +kernel
theorem d_Mod_find_33 : decode prog_8_method_22_code 33 = .ok (.goto (10), 3) := by decide +kernel
theorem d_Mod_find_36 : decode prog_8_method_22_code 36 = .ok (.aload_n 0, 1) := by decide +kernel
theorem d_Mod_find_37 : decode prog_8_method_22_code 37 = .ok (.getfield 41, 3) := by decide +kernel
theorem d_Mod_find_40 : decode prog_8_method_22_code 40 = .ok (.iload 4, 2) := by decide +kernel
theorem d_Mod_find_42 : decode prog_8_method_22_code 42 = .ok (.baload, 1) := by decide +kernel
theorem d_Mod_find_43 : decode prog_8_method_22_code 43 = .ok (.ireturn, 1) := by decide +kernel
theorem d_Mod_there_0 : decode prog_8_method_21_code 0 = .ok (.aload_n 0, 1) := by decide +kernel
theorem d_Mod_there_1 : decode prog_8_method_21_code 1 = .ok (.iload_n 1, 1) := by decide +kernel
theorem d_Mod_there_2 : decode prog_8_method_21_code 2 = .ok (.iload_n 2, 1) := by decide +kernel
theorem d_Mod_there_3 : decode prog_8_method_21_code 3 = .ok (.iload_n 3, 1) := by decide +kernel
theorem d_Mod_there_4 : decode prog_8_method_21_code 4 = .ok (.invokevirtual 116, 3) := by decide +kernel
theorem d_Mod_there_7 : decode prog_8_method_21_code 7 = .ok (.istore 4, 2) := by decide +kernel
theorem d_Mod_there_9 : decode prog_8_method_21_code 9 = .ok (.iload 4, 2) := by decide +kernel
theorem d_Mod_there_11 : decode prog_8_method_21_code 11 = .ok (.ifCond .lt (18), 3) := by decide +kernel
theorem d_Mod_there_14 : decode prog_8_method_21_code 14 = .ok (.aload_n 0, 1) := by decide +kernel
theorem d_Mod_there_15 : decode prog_8_method_21_code 15 = .ok (.getfield 47, 3) := by decide +kernel
theorem d_Mod_there_18 : decode prog_8_method_21_code 18 = .ok (.iload 4, 2) := by decide +kernel
theorem d_Mod_there_20 : decode prog_8_method_21_code 20 = .ok (.baload, 1) := by decide +kernel
theorem d_Mod_there_21 : decode prog_8_method_21_code 21 = .ok (.ifCond .ne (8), 3) := by decide +kernel
theorem d_Mod_there_24 : decode prog_8_method_21_code 24 = .ok (.iload 4, 2) := by decide +kernel
theorem d_Mod_there_26 : decode prog_8_method_21_code 26 = .ok (.goto (4), 3) := by decide +kernel
theorem d_Mod_there_29 : decode prog_8_method_21_code 29 = .ok (.iconst (-1), 1) := by decide +kernel
theorem d_Mod_there_30 : decode prog_8_method_21_code 30 = .ok (.ireturn, 1) := by decide +kernel
theorem d_Mod_found_0 : decode prog_8_method_23_code 0 = .ok (.aload_n 0, 1) := by decide +kernel
theorem d_Mod_found_1 : decode prog_8_method_23_code 1 = .ok (.iload_n 1, 1) := by decide +kernel
theorem d_Mod_found_2 : decode prog_8_method_23_code 2 = .ok (.invokevirtual 110, 3) := by decide +kernel
theorem d_Mod_found_5 : decode prog_8_method_23_code 5 = .ok (.ifCond .eq (13), 3) := by decide +kernel
theorem d_Mod_found_8 : decode prog_8_method_23_code 8 = .ok (.aload_n 0, 1) := by decide +kernel
theorem d_Mod_found_9 : decode prog_8_method_23_code 9 = .ok (.iload_n 1, 1) := by decide +kernel
theorem d_Mod_found_10 : decode prog_8_method_23_code 10 = .ok (.iload_n 2, 1) := by decide +kernel
theorem d_Mod_found_11 : decode prog_8_method_23_code 11 = .ok (.iload_n 3, 1) := by decide +kernel
theorem d_Mod_found_12 : decode prog_8_method_23_code 12 = .ok (.invokevirtual 119, 3) := by decide +kernel
theorem d_Mod_found_15 : decode prog_8_method_23_code 15 = .ok (.goto (4), 3) := by decide +kernel
theorem d_Mod_found_18 : decode prog_8_method_23_code 18 = .ok (.iconst (-1), 1) := by decide +kernel
theorem d_Mod_found_19 : decode prog_8_method_23_code 19 = .ok (.istore 4, 2) := by decide +kernel
theorem d_Mod_found_21 : decode prog_8_method_23_code 21 = .ok (.iload 4, 2) := by decide +kernel
theorem d_Mod_found_23 : decode prog_8_method_23_code 23 = .ok (.ifCond .ge (7), 3) := by decide +kernel
theorem d_Mod_found_26 : decode prog_8_method_23_code 26 = .ok (.iconst (0), 1) := by decide +kernel
theorem d_Mod_found_27 : decode prog_8_method_23_code 27 = .ok (.goto (10), 3) := by decide +kernel
theorem d_Mod_found_30 : decode prog_8_method_23_code 30 = .ok (.aload_n 0, 1) := by decide +kernel
theorem d_Mod_found_31 : decode prog_8_method_23_code 31 = .ok (.getfield 44, 3) := by decide +kernel
theorem d_Mod_found_34 : decode prog_8_method_23_code 34 = .ok (.iload 4, 2) := by decide +kernel
theorem d_Mod_found_36 : decode prog_8_method_23_code 36 = .ok (.iaload, 1) := by decide +kernel
theorem d_Mod_found_37 : decode prog_8_method_23_code 37 = .ok (.ireturn, 1) := by decide +kernel
theorem d_Mod_undefine_0 : decode prog_8_method_24_code 0 = .ok (.aload_n 0, 1) := by decide +kernel
theorem d_Mod_undefine_1 : decode prog_8_method_24_code 1 = .ok (.iload_n 1, 1) := by decide +kernel
theorem d_Mod_undefine_2 : decode prog_8_method_24_code 2 = .ok (.invokevirtual 110, 3) := by decide +kernel
theorem d_Mod_undefine_5 : decode prog_8_method_24_code 5 = .ok (.ifCond .eq (10), 3) := by decide +kernel
theorem d_Mod_undefine_8 : decode prog_8_method_24_code 8 = .ok (.iload_n 2, 1) := by decide +kernel
theorem d_Mod_undefine_9 : decode prog_8_method_24_code 9 = .ok (.invokestatic 113, 3) := by decide +kernel
theorem d_Mod_undefine_12 : decode prog_8_method_24_code 12 = .ok (.ifCond .ne (5), 3) := by decide +kernel
theorem d_Mod_undefine_15 : decode prog_8_method_24_code 15 = .ok (.iconst (-1), 1) := by decide +kernel
theorem d_Mod_undefine_16 : decode prog_8_method_24_code 16 = .ok (.ireturn, 1) := by decide +kernel
theorem d_Mod_undefine_17 : decode prog_8_method_24_code 17 = .ok (.aload_n 0, 1) := by decide +kernel
theorem d_Mod_undefine_18 : decode prog_8_method_24_code 18 = .ok (.iload_n 1, 1) := by decide +kernel
theorem d_Mod_undefine_19 : decode prog_8_method_24_code 19 = .ok (.iload_n 2, 1) := by decide +kernel
theorem d_Mod_undefine_20 : decode prog_8_method_24_code 20 = .ok (.iload_n 3, 1) := by decide +kernel
theorem d_Mod_undefine_21 : decode prog_8_method_24_code 21 = .ok (.invokevirtual 119, 3) := by decide +kernel
theorem d_Mod_undefine_24 : decode prog_8_method_24_code 24 = .ok (.istore 4, 2) := by decide +kernel
theorem d_Mod_undefine_26 : decode prog_8_method_24_code 26 = .ok (.iload 4, 2) := by decide +kernel
theorem d_Mod_undefine_28 : decode prog_8_method_24_code 28 = .ok (.ifCond .ge (6), 3) := by decide +kernel
theorem d_Mod_undefine_31 : decode prog_8_method_24_code 31 = .ok (.bipush (-2), 2) := by decide +kernel
theorem d_Mod_undefine_33 : decode prog_8_method_24_code 33 = .ok (.ireturn, 1) := by decide +kernel
theorem d_Mod_undefine_34 : decode prog_8_method_24_code 34 = .ok (.aload_n 0, 1) := by decide +kernel
theorem d_Mod_undefine_35 : decode prog_8_method_24_code 35 = .ok (.iconst (-1), 1) := by decide +kernel
theorem d_Mod_undefine_36 : decode prog_8_method_24_code 36 = .ok (.iload 4, 2) := by decide +kernel
theorem d_Mod_undefine_38 : decode prog_8_method_24_code 38 = .ok (.isub, 1) := by decide +kernel
theorem d_Mod_undefine_39 : decode prog_8_method_24_code 39 = .ok (.invokevirtual 101, 3) := by decide +kernel
theorem d_Mod_undefine_42 : decode prog_8_method_24_code 42 = .ok (.ifCond .ne (6), 3) := by decide +kernel
theorem d_Mod_undefine_45 : decode prog_8_method_24_code 45 = .ok (.bipush (-3), 2) := by decide +kernel
theorem d_Mod_undefine_47 : decode prog_8_method_24_code 47 = .ok (.ireturn, 1) := by decide +kernel
theorem d_Mod_undefine_48 : decode prog_8_method_24_code 48 = .ok (.aload_n 0, 1) := by decide +kernel
theorem d_Mod_undefine_49 : decode prog_8_method_24_code 49 = .ok (.getfield 47, 3) := by decide +kernel
theorem d_Mod_undefine_52 : decode prog_8_method_24_code 52 = .ok (.iload 4, 2) := by decide +kernel
theorem d_Mod_undefine_54 : decode prog_8_method_24_code 54 = .ok (.iconst (1), 1) := by decide +kernel
theorem d_Mod_undefine_55 : decode prog_8_method_24_code 55 = .ok (.bastore, 1) := by decide +kernel
theorem d_Mod_undefine_56 : decode prog_8_method_24_code 56 = .ok (.iconst (1), 1) := by decide +kernel
theorem d_Mod_undefine_57 : decode prog_8_method_24_code 57 = .ok (.ireturn, 1) := by decide +kernel
theorem d_Mod_count_0 : decode prog_8_method_25_code 0 = .ok (.aload_n 0, 1) := by decide +kernel
theorem d_Mod_count_1 : decode prog_8_method_25_code 1 = .ok (.iload_n 1, 1) := by decide +kernel
theorem d_Mod_count_2 : decode prog_8_method_25_code 2 = .ok (.invokevirtual 110, 3) := by decide +kernel
theorem d_Mod_count_5 : decode prog_8_method_25_code 5 = .ok (.ifCond .ne (5), 3) := by decide +kernel
theorem d_Mod_count_8 : decode prog_8_method_25_code 8 = .ok (.iconst (-1), 1) := by decide +kernel
theorem d_Mod_count_9 : decode prog_8_method_25_code 9 = .ok (.ireturn, 1) := by decide +kernel
theorem d_Mod_count_10 : decode prog_8_method_25_code 10 = .ok (.iconst (0), 1) := by decide +kernel
theorem d_Mod_count_11 : decode prog_8_method_25_code 11 = .ok (.istore_n 2, 1) := by decide +kernel
theorem d_Mod_count_12 : decode prog_8_method_25_code 12 = .ok (.iconst (0), 1) := by decide +kernel
theorem d_Mod_count_13 : decode prog_8_method_25_code 13 = .ok (.istore_n 3, 1) := by decide +kernel
theorem d_Mod_count_14 : decode prog_8_method_25_code 14 = .ok (.iload_n 3, 1) := by decide +kernel
theorem d_Mod_count_15 : decode prog_8_method_25_code 15 = .ok (.aload_n 0, 1) := by decide +kernel
theorem d_Mod_count_16 : decode prog_8_method_25_code 16 = .ok (.getfield 107, 3) := by decide +kernel
theorem d_Mod_count_19 : decode prog_8_method_25_code 19 = .ok (.if_icmp .ge (36), 3) := by decide +kernel
theorem d_Mod_count_22 : decode prog_8_method_25_code 22 = .ok (.iload_n 2, 1) := by decide +kernel
theorem d_Mod_count_23 : decode prog_8_method_25_code 23 = .ok (.aload_n 0, 1) := by decide +kernel
theorem d_Mod_count_24 : decode prog_8_method_25_code 24 = .ok (.getfield 31, 3) := by decide +kernel
theorem d_Mod_count_27 : decode prog_8_method_25_code 27 = .ok (.iload_n 3, 1) := by decide +kernel
theorem d_Mod_count_28 : decode prog_8_method_25_code 28 = .ok (.saload, 1) := by decide +kernel
theorem d_Mod_count_29 : decode prog_8_method_25_code 29 = .ok (.iload_n 1, 1) := by decide +kernel
theorem d_Mod_count_30 : decode prog_8_method_25_code 30 = .ok (.if_icmp .ne (16), 3) := by decide +kernel
theorem d_Mod_count_33 : decode prog_8_method_25_code 33 = .ok (.aload_n 0, 1) := by decide +kernel
theorem d_Mod_count_34 : decode prog_8_method_25_code 34 = .ok (.getfield 47, 3) := by decide +kernel
theorem d_Mod_count_37 : decode prog_8_method_25_code 37 = .ok (.iload_n 3, 1) := by decide +kernel
theorem d_Mod_count_38 : decode prog_8_method_25_code 38 = .ok (.baload, 1) := by decide +kernel
theorem d_Mod_count_39 : decode prog_8_method_25_code 39 = .ok (.ifCond .ne (7), 3) := by decide +kernel
theorem d_Mod_count_42 : decode prog_8_method_25_code 42 = .ok (.iconst (1), 1) := by decide +kernel
theorem d_Mod_count_43 : decode prog_8_method_25_code 43 = .ok (.goto (4), 3) := by decide +kernel
theorem d_Mod_count_46 : decode prog_8_method_25_code 46 = .ok (.iconst (0), 1) := by decide +kernel
theorem d_Mod_count_47 : decode prog_8_method_25_code 47 = .ok (.iadd, 1) := by decide +kernel
theorem d_Mod_count_48 : decode prog_8_method_25_code 48 = .ok (.istore_n 2, 1) := by decide +kernel
theorem d_Mod_count_49 : decode prog_8_method_25_code 49 = .ok (.iinc 3 (1), 3) := by decide +kernel
theorem d_Mod_count_52 : decode prog_8_method_25_code 52 = .ok (.goto (-38), 3) := by decide +kernel
theorem d_Mod_count_55 : decode prog_8_method_25_code 55 = .ok (.iload_n 2, 1) := by decide +kernel
theorem d_Mod_count_56 : decode prog_8_method_25_code 56 = .ok (.ireturn, 1) := by decide +kernel
theorem d_Mod_next_0 : decode prog_8_method_26_code 0 = .ok (.aload_n 0, 1) := by decide +kernel
theorem d_Mod_next_1 : decode prog_8_method_26_code 1 = .ok (.iload_n 1, 1) := by decide +kernel
theorem d_Mod_next_2 : decode prog_8_method_26_code 2 = .ok (.invokevirtual 110, 3) := by decide +kernel
theorem d_Mod_next_5 : decode prog_8_method_26_code 5 = .ok (.ifCond .eq (13), 3) := by decide +kernel
theorem d_Mod_next_8 : decode prog_8_method_26_code 8 = .ok (.iload_n 2, 1) := by decide +kernel
theorem d_Mod_next_9 : decode prog_8_method_26_code 9 = .ok (.ifCond .lt (9), 3) := by decide +kernel
theorem d_Mod_next_12 : decode prog_8_method_26_code 12 = .ok (.iload_n 2, 1) := by decide +kernel
theorem d_Mod_next_13 : decode prog_8_method_26_code 13 = .ok (.bipush (15), 2) := by decide +kernel
theorem d_Mod_next_15 : decode prog_8_method_26_code 15 = .ok (.if_icmp .le (5), 3) := by decide +kernel
theorem d_Mod_next_18 : decode prog_8_method_26_code 18 = .ok (.iconst (-1), 1) := by decide +kernel
theorem d_Mod_next_19 : decode prog_8_method_26_code 19 = .ok (.ireturn, 1) := by decide +kernel
theorem d_Mod_next_20 : decode prog_8_method_26_code 20 = .ok (.iload_n 2, 1) := by decide +kernel
theorem d_Mod_next_21 : decode prog_8_method_26_code 21 = .ok (.ifCond .ne (7), 3) := by decide +kernel
theorem d_Mod_next_24 : decode prog_8_method_26_code 24 = .ok (.iconst (-1), 1) := by decide +kernel
theorem d_Mod_next_25 : decode prog_8_method_26_code 25 = .ok (.goto (10), 3) := by decide +kernel
theorem d_Mod_next_28 : decode prog_8_method_26_code 28 = .ok (.aload_n 0, 1) := by decide +kernel
theorem d_Mod_next_29 : decode prog_8_method_26_code 29 = .ok (.iload_n 1, 1) := by decide +kernel
theorem d_Mod_next_30 : decode prog_8_method_26_code 30 = .ok (.iload_n 2, 1) := by decide +kernel
theorem d_Mod_next_31 : decode prog_8_method_26_code 31 = .ok (.iload_n 3, 1) := by decide +kernel
theorem d_Mod_next_32 : decode prog_8_method_26_code 32 = .ok (.invokevirtual 116, 3) := by decide +kernel
theorem d_Mod_next_35 : decode prog_8_method_26_code 35 = .ok (.istore 4, 2) := by decide +kernel
theorem d_Mod_next_37 : decode prog_8_method_26_code 37 = .ok (.iload_n 2, 1) := by decide +kernel
theorem d_Mod_next_38 : decode prog_8_method_26_code 38 = .ok (.ifCond .le (11), 3) := by decide +kernel
theorem d_Mod_next_41 : decode prog_8_method_26_code 41 = .ok (.iload 4, 2) := by decide +kernel
theorem d_Mod_next_43 : decode prog_8_method_26_code 43 = .ok (.ifCond .ge (6), 3) := by decide +kernel
theorem d_Mod_next_46 : decode prog_8_method_26_code 46 = .ok (.bipush (-2), 2) := by decide +kernel
theorem d_Mod_next_48 : decode prog_8_method_26_code 48 = .ok (.ireturn, 1) := by decide +kernel
theorem d_Mod_next_49 : decode prog_8_method_26_code 49 = .ok (.iinc 4 (1), 3) := by decide +kernel
theorem d_Mod_next_52 : decode prog_8_method_26_code 52 = .ok (.iload 4, 2) := by decide +kernel
theorem d_Mod_next_54 : decode prog_8_method_26_code 54 = .ok (.aload_n 0, 1) := by decide +kernel
theorem d_Mod_next_55 : decode prog_8_method_26_code 55 = .ok (.getfield 107, 3) := by decide +kernel
theorem d_Mod_next_58 : decode prog_8_method_26_code 58 = .ok (.if_icmp .ge (30), 3) := by decide +kernel
theorem d_Mod_next_61 : decode prog_8_method_26_code 61 = .ok (.aload_n 0, 1) := by decide +kernel
theorem d_Mod_next_62 : decode prog_8_method_26_code 62 = .ok (.getfield 31, 3) := by decide +kernel
theorem d_Mod_next_65 : decode prog_8_method_26_code 65 = .ok (.iload 4, 2) := by decide +kernel
theorem d_Mod_next_67 : decode prog_8_method_26_code 67 = .ok (.saload, 1) := by decide +kernel
theorem d_Mod_next_68 : decode prog_8_method_26_code 68 = .ok (.iload_n 1, 1) := by decide +kernel
theorem d_Mod_next_69 : decode prog_8_method_26_code 69 = .ok (.if_icmp .ne (13), 3) := by decide +kernel
theorem d_Mod_next_72 : decode prog_8_method_26_code 72 = .ok (.aload_n 0, 1) := by decide +kernel
theorem d_Mod_next_73 : decode prog_8_method_26_code 73 = .ok (.getfield 47, 3) := by decide +kernel
theorem d_Mod_next_76 : decode prog_8_method_26_code 76 = .ok (.iload 4, 2) := by decide +kernel
theorem d_Mod_next_78 : decode prog_8_method_26_code 78 = .ok (.baload, 1) := by decide +kernel
theorem d_Mod_next_79 : decode prog_8_method_26_code 79 = .ok (.ifCond .eq (9), 3) := by decide +kernel
theorem d_Mod_next_82 : decode prog_8_method_26_code 82 = .ok (.iinc 4 (1), 3) := by decide +kernel
theorem d_Mod_next_85 : decode prog_8_method_26_code 85 = .ok (.goto (-33), 3) := by decide +kernel
theorem d_Mod_next_88 : decode prog_8_method_26_code 88 = .ok (.aload_n 0, 1) := by decide +kernel
theorem d_Mod_next_89 : decode prog_8_method_26_code 89 = .ok (.iload 4, 2) := by decide +kernel
theorem d_Mod_next_91 : decode prog_8_method_26_code 91 = .ok (.aload_n 0, 1) := by decide +kernel
theorem d_Mod_next_92 : decode prog_8_method_26_code 92 = .ok (.getfield 107, 3) := by decide +kernel
theorem d_Mod_next_95 : decode prog_8_method_26_code 95 = .ok (.if_icmp .ge (13), 3) := by decide +kernel
theorem d_Mod_next_98 : decode prog_8_method_26_code 98 = .ok (.aload_n 0, 1) := by decide +kernel
theorem d_Mod_next_99 : decode prog_8_method_26_code 99 = .ok (.getfield 35, 3) := by decide +kernel
theorem d_Mod_next_102 : decode prog_8_method_26_code 102 = .ok (.iload 4, 2) := by decide +kernel
theorem d_Mod_next_104 : decode prog_8_method_26_code 104 = .ok (.baload, 1) := by decide +kernel
theorem d_Mod_next_105 : decode prog_8_method_26_code 105 = .ok (.goto (4), 3) := by decide +kernel
theorem d_Mod_next_108 : decode prog_8_method_26_code 108 = .ok (.iconst (0), 1) := by decide +kernel
theorem d_Mod_next_109 : decode prog_8_method_26_code 109 = .ok (.putfield 122, 3) := by decide +kernel
theorem d_Mod_next_112 : decode prog_8_method_26_code 112 = .ok (.aload_n 0, 1) := by decide +kernel
theorem d_Mod_next_113 : decode prog_8_method_26_code 113 = .ok (.iload 4, 2) := by decide +kernel
theorem d_Mod_next_115 : decode prog_8_method_26_code 115 = .ok (.aload_n 0, 1) := by decide +kernel
theorem d_Mod_next_116 : decode prog_8_method_26_code 116 = .ok (.getfield 107, 3) := by decide +kernel
theorem d_Mod_next_119 : decode prog_8_method_26_code 119 = .ok (.if_icmp .ge (13), 3) := by decide +kernel
theorem d_Mod_next_122 : decode prog_8_method_26_code 122 = .ok (.aload_n 0, 1) := by decide +kernel
theorem d_Mod_next_123 : decode prog_8_method_26_code 123 = .ok (.getfield 38, 3) := by decide +kernel
theorem d_Mod_next_126 : decode prog_8_method_26_code 126 = .ok (.iload 4, 2) := by decide +kernel
theorem d_Mod_next_128 : decode prog_8_method_26_code 128 = .ok (.iaload, 1) := by decide +kernel
theorem d_Mod_next_129 : decode prog_8_method_26_code 129 = .ok (.goto (4), 3) := by decide +kernel
theorem d_Mod_next_132 : decode prog_8_method_26_code 132 = .ok (.iconst (0), 1) := by decide +kernel
theorem d_Mod_next_133 : decode prog_8_method_26_code 133 = .ok (.putfield 125, 3) := by decide +kernel
theorem d_Mod_next_136 : decode prog_8_method_26_code 136 = .ok (.iload 4, 2) := by decide +kernel
theorem d_Mod_next_138 : decode prog_8_method_26_code 138 = .ok (.aload_n 0, 1) := by decide +kernel
theorem d_Mod_next_139 : decode prog_8_method_26_code 139 = .ok (.getfield 107, 3) := by decide +kernel
theorem d_Mod_next_142 : decode prog_8_method_26_code 142 = .ok (.if_icmp .ge (7), 3) := by decide +kernel
theorem d_Mod_next_145 : decode prog_8_method_26_code 145 = .ok (.iconst (1), 1) := by decide +kernel
theorem d_Mod_next_146 : decode prog_8_method_26_code 146 = .ok (.goto (4), 3) := by decide +kernel
theorem d_Mod_next_149 : decode prog_8_method_26_code 149 = .ok (.iconst (0), 1) := by decide +kernel
theorem d_Mod_next_150 : decode prog_8_method_26_code 150 = .ok (.ireturn, 1) := by decide +kernel
theorem d_Mod_cursorKind_0 : decode prog_8_method_27_code 0 = .ok (.aload_n 0, 1) := by decide +kernel
theorem d_Mod_cursorKind_1 : decode prog_8_method_27_code 1 = .ok (.getfield 122, 3) := by decide +kernel
theorem d_Mod_cursorKind_4 : decode prog_8_method_27_code 4 = .ok (.ireturn, 1) := by decide +kernel
theorem d_Mod_cursorNumber_0 : decode prog_8_method_28_code 0 = .ok (.aload_n 0, 1) := by decide +kernel
theorem d_Mod_cursorNumber_1 : decode prog_8_method_28_code 1 = .ok (.getfield 125, 3) := by decide +kernel
theorem d_Mod_cursorNumber_4 : decode prog_8_method_28_code 4 = .ok (.ireturn, 1) := by decide +kernel
theorem d_Mod_save_0 : decode prog_8_method_30_code 0 = .ok (.aload_n 0, 1) := by decide +kernel
theorem d_Mod_save_1 : decode prog_8_method_30_code 1 = .ok (.getfield 88, 3) := by decide +kernel
theorem d_Mod_save_4 : decode prog_8_method_30_code 4 = .ok (.bipush (15), 2) := by decide +kernel
theorem d_Mod_save_6 : decode prog_8_method_30_code 6 = .ok (.if_icmp .ne (6), 3) := by decide +kernel
theorem d_Mod_save_9 : decode prog_8_method_30_code 9 = .ok (.bipush (-3), 2) := by decide +kernel
theorem d_Mod_save_11 : decode prog_8_method_30_code 11 = .ok (.ireturn, 1) := by decide +kernel
theorem d_Mod_save_12 : decode prog_8_method_30_code 12 = .ok (.aload_n 0, 1) := by decide +kernel
theorem d_Mod_save_13 : decode prog_8_method_30_code 13 = .ok (.dup, 1) := by decide +kernel
theorem d_Mod_save_14 : decode prog_8_method_30_code 14 = .ok (.getfield 88, 3) := by decide +kernel
theorem d_Mod_save_17 : decode prog_8_method_30_code 17 = .ok (.iconst (1), 1) := by decide +kernel
theorem d_Mod_save_18 : decode prog_8_method_30_code 18 = .ok (.iadd, 1) := by decide +kernel
theorem d_Mod_save_19 : decode prog_8_method_30_code 19 = .ok (.putfield 88, 3) := by decide +kernel
theorem d_Mod_save_22 : decode prog_8_method_30_code 22 = .ok (.iconst (0), 1) := by decide +kernel
theorem d_Mod_save_23 : decode prog_8_method_30_code 23 = .ok (.istore_n 1, 1) := by decide +kernel
theorem d_Mod_save_24 : decode prog_8_method_30_code 24 = .ok (.iload_n 1, 1) := by decide +kernel
theorem d_Mod_save_25 : decode prog_8_method_30_code 25 = .ok (.iconst (5), 1) := by decide +kernel
theorem d_Mod_save_26 : decode prog_8_method_30_code 26 = .ok (.if_icmp .ge (27), 3) := by decide +kernel
theorem d_Mod_save_29 : decode prog_8_method_30_code 29 = .ok (.aload_n 0, 1) := by decide +kernel
theorem d_Mod_save_30 : decode prog_8_method_30_code 30 = .ok (.getfield 51, 3) := by decide +kernel
theorem d_Mod_save_33 : decode prog_8_method_30_code 33 = .ok (.iconst (5), 1) := by decide +kernel
theorem d_Mod_save_34 : decode prog_8_method_30_code 34 = .ok (.aload_n 0, 1) := by decide +kernel
theorem d_Mod_save_35 : decode prog_8_method_30_code 35 = .ok (.getfield 88, 3) := by decide +kernel
theorem d_Mod_save_38 : decode prog_8_method_30_code 38 = .ok (.imul, 1) := by decide +kernel
theorem d_Mod_save_39 : decode prog_8_method_30_code 39 = .ok (.iload_n 1, 1) := by decide +kernel
theorem d_Mod_save_40 : decode prog_8_method_30_code 40 = .ok (.iadd, 1) := by decide +kernel
theorem d_Mod_save_41 : decode prog_8_method_30_code 41 = .ok (.aload_n 0, 1) := by decide +kernel
theorem d_Mod_save_42 : decode prog_8_method_30_code 42 = .ok (.iload_n 1, 1) := by decide +kernel
theorem d_Mod_save_43 : decode prog_8_method_30_code 43 = .ok (.invokevirtual 128, 3) := by decide +kernel
theorem d_Mod_save_46 : decode prog_8_method_30_code 46 = .ok (.iastore, 1) := by decide +kernel
theorem d_Mod_save_47 : decode prog_8_method_30_code 47 = .ok (.iinc 1 (1), 3) := by decide +kernel
theorem d_Mod_save_50 : decode prog_8_method_30_code 50 = .ok (.goto (-26), 3) := by decide +kernel
theorem d_Mod_save_53 : decode prog_8_method_30_code 53 = .ok (.aload_n 0, 1) := by decide +kernel
theorem d_Mod_save_54 : decode prog_8_method_30_code 54 = .ok (.getfield 54, 3) := by decide +kernel
theorem d_Mod_save_57 : decode prog_8_method_30_code 57 = .ok (.aload_n 0, 1) := by decide +kernel
theorem d_Mod_save_58 : decode prog_8_method_30_code 58 = .ok (.getfield 88, 3) := by decide +kernel
theorem d_Mod_save_61 : decode prog_8_method_30_code 61 = .ok (.aload_n 0, 1) := by decide +kernel
theorem d_Mod_save_62 : decode prog_8_method_30_code 62 = .ok (.getfield 91, 3) := by decide +kernel
theorem d_Mod_save_65 : decode prog_8_method_30_code 65 = .ok (.iastore, 1) := by decide +kernel
theorem d_Mod_save_66 : decode prog_8_method_30_code 66 = .ok (.aload_n 0, 1) := by decide +kernel
theorem d_Mod_save_67 : decode prog_8_method_30_code 67 = .ok (.getfield 88, 3) := by decide +kernel
theorem d_Mod_save_70 : decode prog_8_method_30_code 70 = .ok (.ireturn, 1) := by decide +kernel
theorem d_Mod_now_0 : decode prog_8_method_29_code 0 = .ok (.iload_n 1, 1) := by decide +kernel
theorem d_Mod_now_1 : decode prog_8_method_29_code 1 = .ok (.ifCond .ne (10), 3) := by decide +kernel
theorem d_Mod_now_4 : decode prog_8_method_29_code 4 = .ok (.aload_n 0, 1) := by decide +kernel
theorem d_Mod_now_5 : decode prog_8_method_29_code 5 = .ok (.getfield 70, 3) := by decide +kernel
theorem d_Mod_now_8 : decode prog_8_method_29_code 8 = .ok (.goto (43), 3) := by decide +kernel
theorem d_Mod_now_11 : decode prog_8_method_29_code 11 = .ok (.iload_n 1, 1) := by decide +kernel
theorem d_Mod_now_12 : decode prog_8_method_29_code 12 = .ok (.iconst (1), 1) := by decide +kernel
theorem d_Mod_now_13 : decode prog_8_method_29_code 13 = .ok (.if_icmp .ne (10), 3) := by decide +kernel
theorem d_Mod_now_16 : decode prog_8_method_29_code 16 = .ok (.aload_n 0, 1) := by decide +kernel
theorem d_Mod_now_17 : decode prog_8_method_29_code 17 = .ok (.getfield 74, 3) := by decide +kernel
theorem d_Mod_now_20 : decode prog_8_method_29_code 20 = .ok (.goto (31), 3) := by decide +kernel
theorem d_Mod_now_23 : decode prog_8_method_29_code 23 = .ok (.iload_n 1, 1) := by decide +kernel
theorem d_Mod_now_24 : decode prog_8_method_29_code 24 = .ok (.iconst (2), 1) := by decide +kernel
theorem d_Mod_now_25 : decode prog_8_method_29_code 25 = .ok (.if_icmp .ne (10), 3) := by decide +kernel
theorem d_Mod_now_28 : decode prog_8_method_29_code 28 = .ok (.aload_n 0, 1) := by decide +kernel
theorem d_Mod_now_29 : decode prog_8_method_29_code 29 = .ok (.getfield 81, 3) := by decide +kernel
theorem d_Mod_now_32 : decode prog_8_method_29_code 32 = .ok (.goto (19), 3) := by decide +kernel
theorem d_Mod_now_35 : decode prog_8_method_29_code 35 = .ok (.iload_n 1, 1) := by decide +kernel
theorem d_Mod_now_36 : decode prog_8_method_29_code 36 = .ok (.iconst (3), 1) := by decide +kernel
theorem d_Mod_now_37 : decode prog_8_method_29_code 37 = .ok (.if_icmp .ne (10), 3) := by decide +kernel
theorem d_Mod_now_40 : decode prog_8_method_29_code 40 = .ok (.aload_n 0, 1) := by decide +kernel
theorem d_Mod_now_41 : decode prog_8_method_29_code 41 = .ok (.getfield 104, 3) := by decide +kernel
theorem d_Mod_now_44 : decode prog_8_method_29_code 44 = .ok (.goto (7), 3) := by decide +kernel
theorem d_Mod_now_47 : decode prog_8_method_29_code 47 = .ok (.aload_n 0, 1) := by decide +kernel
theorem d_Mod_now_48 : decode prog_8_method_29_code 48 = .ok (.getfield 107, 3) := by decide +kernel
theorem d_Mod_now_51 : decode prog_8_method_29_code 51 = .ok (.ireturn, 1) := by decide +kernel
theorem d_Mod_restore_0 : decode prog_8_method_32_code 0 = .ok (.iload_n 1, 1) := by decide +kernel
theorem d_Mod_restore_1 : decode prog_8_method_32_code 1 = .ok (.iconst (1), 1) := by decide +kernel
theorem d_Mod_restore_2 : decode prog_8_method_32_code 2 = .ok (.if_icmp .lt (11), 3) := by decide +kernel
theorem d_Mod_restore_5 : decode prog_8_method_32_code 5 = .ok (.iload_n 1, 1) := by decide +kernel
theorem d_Mod_restore_6 : decode prog_8_method_32_code 6 = .ok (.aload_n 0, 1) := by decide +kernel
theorem d_Mod_restore_7 : decode prog_8_method_32_code 7 = .ok (.getfield 88, 3) := by decide +kernel
theorem d_Mod_restore_10 : decode prog_8_method_32_code 10 = .ok (.if_icmp .le (5), 3) := by decide +kernel
theorem d_Mod_restore_13 : decode prog_8_method_32_code 13 = .ok (.iconst (-1), 1) := by decide +kernel
theorem d_Mod_restore_14 : decode prog_8_method_32_code 14 = .ok (.ireturn, 1) := by decide +kernel
theorem d_Mod_restore_15 : decode prog_8_method_32_code 15 = .ok (.aload_n 0, 1) := by decide +kernel
theorem d_Mod_restore_16 : decode prog_8_method_32_code 16 = .ok (.getfield 91, 3) := by decide +kernel
theorem d_Mod_restore_19 : decode prog_8_method_32_code 19 = .ok (.aload_n 0, 1) := by decide +kernel
theorem d_Mod_restore_20 : decode prog_8_method_32_code 20 = .ok (.getfield 54, 3) := by decide +kernel
theorem d_Mod_restore_23 : decode prog_8_method_32_code 23 = .ok (.iload_n 1, 1) := by decide +kernel
theorem d_Mod_restore_24 : decode prog_8_method_32_code 24 = .ok (.iaload, 1) := by decide +kernel
theorem d_Mod_restore_25 : decode prog_8_method_32_code 25 = .ok (.if_icmp .le (10), 3) := by decide +kernel
theorem d_Mod_restore_28 : decode prog_8_method_32_code 28 = .ok (.aload_n 0, 1) := by decide +kernel
theorem d_Mod_restore_29 : decode prog_8_method_32_code 29 = .ok (.invokevirtual 132, 3) := by decide +kernel
theorem d_Mod_restore_32 : decode prog_8_method_32_code 32 = .ok (.goto (-17), 3) := by decide +kernel
theorem d_Mod_restore_35 : decode prog_8_method_32_code 35 = .ok (.aload_n 0, 1) := by decide +kernel
theorem d_Mod_restore_36 : decode prog_8_method_32_code 36 = .ok (.aload_n 0, 1) := by decide +kernel
theorem d_Mod_restore_37 : decode prog_8_method_32_code 37 = .ok (.getfield 51, 3) := by decide +kernel
theorem d_Mod_restore_40 : decode prog_8_method_32_code 40 = .ok (.iconst (5), 1) := by decide +kernel
theorem d_Mod_restore_41 : decode prog_8_method_32_code 41 = .ok (.iload_n 1, 1) := by decide +kernel
theorem d_Mod_restore_42 : decode prog_8_method_32_code 42 = .ok (.imul, 1) := by decide +kernel
theorem d_Mod_restore_43 : decode prog_8_method_32_code 43 = .ok (.iaload, 1) := by decide +kernel
theorem d_Mod_restore_44 : decode prog_8_method_32_code 44 = .ok (.putfield 70, 3) := by decide +kernel
theorem d_Mod_restore_47 : decode prog_8_method_32_code 47 = .ok (.aload_n 0, 1) := by decide +kernel
theorem d_Mod_restore_48 : decode prog_8_method_32_code 48 = .ok (.aload_n 0, 1) := by decide +kernel
theorem d_Mod_restore_49 : decode prog_8_method_32_code 49 = .ok (.getfield 51, 3) := by decide +kernel
theorem d_Mod_restore_52 : decode prog_8_method_32_code 52 = .ok (.iconst (5), 1) := by decide +kernel
theorem d_Mod_restore_53 : decode prog_8_method_32_code 53 = .ok (.iload_n 1, 1) := by decide +kernel
theorem d_Mod_restore_54 : decode prog_8_method_32_code 54 = .ok (.imul, 1) := by decide +kernel
theorem d_Mod_restore_55 : decode prog_8_method_32_code 55 = .ok (.iconst (1), 1) := by decide +kernel
theorem d_Mod_restore_56 : decode prog_8_method_32_code 56 = .ok (.iadd, 1) := by decide +kernel
theorem d_Mod_restore_57 : decode prog_8_method_32_code 57 = .ok (.iaload, 1) := by decide +kernel
theorem d_Mod_restore_58 : decode prog_8_method_32_code 58 = .ok (.putfield 74, 3) := by decide +kernel
theorem d_Mod_restore_61 : decode prog_8_method_32_code 61 = .ok (.aload_n 0, 1) := by decide +kernel
theorem d_Mod_restore_62 : decode prog_8_method_32_code 62 = .ok (.aload_n 0, 1) := by decide +kernel
theorem d_Mod_restore_63 : decode prog_8_method_32_code 63 = .ok (.getfield 51, 3) := by decide +kernel
theorem d_Mod_restore_66 : decode prog_8_method_32_code 66 = .ok (.iconst (5), 1) := by decide +kernel
theorem d_Mod_restore_67 : decode prog_8_method_32_code 67 = .ok (.iload_n 1, 1) := by decide +kernel
theorem d_Mod_restore_68 : decode prog_8_method_32_code 68 = .ok (.imul, 1) := by decide +kernel
theorem d_Mod_restore_69 : decode prog_8_method_32_code 69 = .ok (.iconst (2), 1) := by decide +kernel
theorem d_Mod_restore_70 : decode prog_8_method_32_code 70 = .ok (.iadd, 1) := by decide +kernel
theorem d_Mod_restore_71 : decode prog_8_method_32_code 71 = .ok (.iaload, 1) := by decide +kernel
theorem d_Mod_restore_72 : decode prog_8_method_32_code 72 = .ok (.putfield 81, 3) := by decide +kernel
theorem d_Mod_restore_75 : decode prog_8_method_32_code 75 = .ok (.aload_n 0, 1) := by decide +kernel
theorem d_Mod_restore_76 : decode prog_8_method_32_code 76 = .ok (.aload_n 0, 1) := by decide +kernel
theorem d_Mod_restore_77 : decode prog_8_method_32_code 77 = .ok (.getfield 51, 3) := by decide +kernel
theorem d_Mod_restore_80 : decode prog_8_method_32_code 80 = .ok (.iconst (5), 1) := by decide +kernel
theorem d_Mod_restore_81 : decode prog_8_method_32_code 81 = .ok (.iload_n 1, 1) := by decide +kernel
theorem d_Mod_restore_82 : decode prog_8_method_32_code 82 = .ok (.imul, 1) := by decide +kernel
theorem d_Mod_restore_83 : decode prog_8_method_32_code 83 = .ok (.iconst (3), 1) := by decide +kernel
theorem d_Mod_restore_84 : decode prog_8_method_32_code 84 = .ok (.iadd, 1) := by decide +kernel
theorem d_Mod_restore_85 : decode prog_8_method_32_code 85 = .ok (.iaload, 1) := by decide +kernel
theorem d_Mod_restore_86 : decode prog_8_method_32_code 86 = .ok (.putfield 104, 3) := by decide +kernel
theorem d_Mod_restore_89 : decode prog_8_method_32_code 89 = .ok (.aload_n 0, 1) := by decide +kernel
theorem d_Mod_restore_90 : decode prog_8_method_32_code 90 = .ok (.aload_n 0, 1) := by decide +kernel
theorem d_Mod_restore_91 : decode prog_8_method_32_code 91 = .ok (.getfield 51, 3) := by decide +kernel
theorem d_Mod_restore_94 : decode prog_8_method_32_code 94 = .ok (.iconst (5), 1) := by decide +kernel
theorem d_Mod_restore_95 : decode prog_8_method_32_code 95 = .ok (.iload_n 1, 1) := by decide +kernel
theorem d_Mod_restore_96 : decode prog_8_method_32_code 96 = .ok (.imul, 1) := by decide +kernel
theorem d_Mod_restore_97 : decode prog_8_method_32_code 97 = .ok (.iconst (4), 1) := by decide +kernel
theorem d_Mod_restore_98 : decode prog_8_method_32_code 98 = .ok (.iadd, 1) := by decide +kernel
theorem d_Mod_restore_99 : decode prog_8_method_32_code 99 = .ok (.iaload, 1) := by decide +kernel
theorem d_Mod_restore_100 : decode prog_8_method_32_code 100 = .ok (.putfield 107, 3) := by decide +kernel
theorem d_Mod_restore_103 : decode prog_8_method_32_code 103 = .ok (.aload_n 0, 1) := by decide +kernel
theorem d_Mod_restore_104 : decode prog_8_method_32_code 104 = .ok (.iload_n 1, 1) := by decide +kernel
theorem d_Mod_restore_105 : decode prog_8_method_32_code 105 = .ok (.iconst (1), 1) := by decide +kernel
theorem d_Mod_restore_106 : decode prog_8_method_32_code 106 = .ok (.isub, 1) := by decide +kernel
theorem d_Mod_restore_107 : decode prog_8_method_32_code 107 = .ok (.putfield 88, 3) := by decide +kernel
theorem d_Mod_restore_110 : decode prog_8_method_32_code 110 = .ok (.aload_n 0, 1) := by decide +kernel
theorem d_Mod_restore_111 : decode prog_8_method_32_code 111 = .ok (.getfield 88, 3) := by decide +kernel
theorem d_Mod_restore_114 : decode prog_8_method_32_code 114 = .ok (.ireturn, 1) := by decide +kernel
theorem d_Mod_back_0 : decode prog_8_method_31_code 0 = .ok (.aload_n 0, 1) := by decide +kernel
theorem d_Mod_back_1 : decode prog_8_method_31_code 1 = .ok (.dup, 1) := by decide +kernel
theorem d_Mod_back_2 : decode prog_8_method_31_code 2 = .ok (.getfield 91, 3) := by decide +kernel
theorem d_Mod_back_5 : decode prog_8_method_31_code 5 = .ok (.iconst (1), 1) := by decide +kernel
theorem d_Mod_back_6 : decode prog_8_method_31_code 6 = .ok (.isub, 1) := by decide +kernel
theorem d_Mod_back_7 : decode prog_8_method_31_code 7 = .ok (.putfield 91, 3) := by decide +kernel
theorem d_Mod_back_10 : decode prog_8_method_31_code 10 = .ok (.aload_n 0, 1) := by decide +kernel
theorem d_Mod_back_11 : decode prog_8_method_31_code 11 = .ok (.getfield 58, 3) := by decide +kernel
theorem d_Mod_back_14 : decode prog_8_method_31_code 14 = .ok (.aload_n 0, 1) := by decide +kernel
theorem d_Mod_back_15 : decode prog_8_method_31_code 15 = .ok (.getfield 91, 3) := by decide +kernel
theorem d_Mod_back_18 : decode prog_8_method_31_code 18 = .ok (.iaload, 1) := by decide +kernel
theorem d_Mod_back_19 : decode prog_8_method_31_code 19 = .ok (.istore_n 1, 1) := by decide +kernel
theorem d_Mod_back_20 : decode prog_8_method_31_code 20 = .ok (.iload_n 1, 1) := by decide +kernel
theorem d_Mod_back_21 : decode prog_8_method_31_code 21 = .ok (.ifCond .lt (36), 3) := by decide +kernel
theorem d_Mod_back_24 : decode prog_8_method_31_code 24 = .ok (.aload_n 0, 1) := by decide +kernel
theorem d_Mod_back_25 : decode prog_8_method_31_code 25 = .ok (.getfield 21, 3) := by decide +kernel
theorem d_Mod_back_28 : decode prog_8_method_31_code 28 = .ok (.iload_n 1, 1) := by decide +kernel
theorem d_Mod_back_29 : decode prog_8_method_31_code 29 = .ok (.aload_n 0, 1) := by decide +kernel
theorem d_Mod_back_30 : decode prog_8_method_31_code 30 = .ok (.getfield 61, 3) := by decide +kernel
theorem d_Mod_back_33 : decode prog_8_method_31_code 33 = .ok (.aload_n 0, 1) := by decide +kernel
theorem d_Mod_back_34 : decode prog_8_method_31_code 34 = .ok (.getfield 91, 3) := by decide +kernel
theorem d_Mod_back_37 : decode prog_8_method_31_code 37 = .ok (.baload, 1) := by decide +kernel
theorem d_Mod_back_38 : decode prog_8_method_31_code 38 = .ok (.bastore, 1) := by decide +kernel
theorem d_Mod_back_39 : decode prog_8_method_31_code 39 = .ok (.aload_n 0, 1) := by decide +kernel
theorem d_Mod_back_40 : decode prog_8_method_31_code 40 = .ok (.getfield 24, 3) := by decide +kernel
theorem d_Mod_back_43 : decode prog_8_method_31_code 43 = .ok (.iload_n 1, 1) := by decide +kernel
theorem d_Mod_back_44 : decode prog_8_method_31_code 44 = .ok (.aload_n 0, 1) := by decide +kernel
theorem d_Mod_back_45 : decode prog_8_method_31_code 45 = .ok (.getfield 64, 3) := by decide +kernel
theorem d_Mod_back_48 : decode prog_8_method_31_code 48 = .ok (.aload_n 0, 1) := by decide +kernel
theorem d_Mod_back_49 : decode prog_8_method_31_code 49 = .ok (.getfield 91, 3) := by decide +kernel
theorem d_Mod_back_52 : decode prog_8_method_31_code 52 = .ok (.iaload, 1) := by decide +kernel
theorem d_Mod_back_53 : decode prog_8_method_31_code 53 = .ok (.iastore, 1) := by decide +kernel
theorem d_Mod_back_54 : decode prog_8_method_31_code 54 = .ok (.goto (54), 3) := by decide +kernel
theorem d_Mod_back_57 : decode prog_8_method_31_code 57 = .ok (.aload_n 0, 1) := by decide +kernel
theorem d_Mod_back_58 : decode prog_8_method_31_code 58 = .ok (.getfield 41, 3) := by decide +kernel
theorem d_Mod_back_61 : decode prog_8_method_31_code 61 = .ok (.iconst (-1), 1) := by decide +kernel
theorem d_Mod_back_62 : decode prog_8_method_31_code 62 = .ok (.iload_n 1, 1) := by decide +kernel
theorem d_Mod_back_63 : decode prog_8_method_31_code 63 = .ok (.isub, 1) := by decide +kernel
theorem d_Mod_back_64 : decode prog_8_method_31_code 64 = .ok (.aload_n 0, 1) := by decide +kernel
theorem d_Mod_back_65 : decode prog_8_method_31_code 65 = .ok (.getfield 61, 3) := by decide +kernel
theorem d_Mod_back_68 : decode prog_8_method_31_code 68 = .ok (.aload_n 0, 1) := by decide +kernel
theorem d_Mod_back_69 : decode prog_8_method_31_code 69 = .ok (.getfield 91, 3) := by decide +kernel
theorem d_Mod_back_72 : decode prog_8_method_31_code 72 = .ok (.baload, 1) := by decide +kernel
theorem d_Mod_back_73 : decode prog_8_method_31_code 73 = .ok (.bastore, 1) := by decide +kernel
theorem d_Mod_back_74 : decode prog_8_method_31_code 74 = .ok (.aload_n 0, 1) := by decide +kernel
theorem d_Mod_back_75 : decode prog_8_method_31_code 75 = .ok (.getfield 44, 3) := by decide +kernel
theorem d_Mod_back_78 : decode prog_8_method_31_code 78 = .ok (.iconst (-1), 1) := by decide +kernel
theorem d_Mod_back_79 : decode prog_8_method_31_code 79 = .ok (.iload_n 1, 1) := by decide +kernel
theorem d_Mod_back_80 : decode prog_8_method_31_code 80 = .ok (.isub, 1) := by decide +kernel
theorem d_Mod_back_81 : decode prog_8_method_31_code 81 = .ok (.aload_n 0, 1) := by decide +kernel
theorem d_Mod_back_82 : decode prog_8_method_31_code 82 = .ok (.getfield 64, 3) := by decide +kernel
theorem d_Mod_back_85 : decode prog_8_method_31_code 85 = .ok (.aload_n 0, 1) := by decide +kernel
theorem d_Mod_back_86 : decode prog_8_method_31_code 86 = .ok (.getfield 91, 3) := by decide +kernel
theorem d_Mod_back_89 : decode prog_8_method_31_code 89 = .ok (.iaload, 1) := by decide +kernel
theorem d_Mod_back_90 : decode prog_8_method_31_code 90 = .ok (.iastore, 1) := by decide +kernel
theorem d_Mod_back_91 : decode prog_8_method_31_code 91 = .ok (.aload_n 0, 1) := by decide +kernel
theorem d_Mod_back_92 : decode prog_8_method_31_code 92 = .ok (.getfield 47, 3) := by decide +kernel
theorem d_Mod_back_95 : decode prog_8_method_31_code 95 = .ok (.iconst (-1), 1) := by decide +kernel
theorem d_Mod_back_96 : decode prog_8_method_31_code 96 = .ok (.iload_n 1, 1) := by decide +kernel
theorem d_Mod_back_97 : decode prog_8_method_31_code 97 = .ok (.isub, 1) := by decide +kernel
theorem d_Mod_back_98 : decode prog_8_method_31_code 98 = .ok (.aload_n 0, 1) := by decide +kernel
theorem d_Mod_back_99 : decode prog_8_method_31_code 99 = .ok (.getfield 67, 3) := by decide +kernel
theorem d_Mod_back_102 : decode prog_8_method_31_code 102 = .ok (.aload_n 0, 1) := by decide +kernel
theorem d_Mod_back_103 : decode prog_8_method_31_code 103 = .ok (.getfield 91, 3) := by decide +kernel
theorem d_Mod_back_106 : decode prog_8_method_31_code 106 = .ok (.baload, 1) := by decide +kernel
theorem d_Mod_back_107 : decode prog_8_method_31_code 107 = .ok (.bastore, 1) := by decide +kernel
theorem d_Mod_back_108 : decode prog_8_method_31_code 108 = .ok (.return_, 1) := by decide +kernel
theorem d_Mod_noted_0 : decode prog_8_method_33_code 0 = .ok (.iload_n 1, 1) := by decide +kernel
theorem d_Mod_noted_1 : decode prog_8_method_33_code 1 = .ok (.ifCond .lt (29), 3) := by decide +kernel
theorem d_Mod_noted_4 : decode prog_8_method_33_code 4 = .ok (.iload_n 1, 1) := by decide +kernel
theorem d_Mod_noted_5 : decode prog_8_method_33_code 5 = .ok (.aload_n 0, 1) := by decide +kernel
theorem d_Mod_noted_6 : decode prog_8_method_33_code 6 = .ok (.getfield 88, 3) := by decide +kernel
theorem d_Mod_noted_9 : decode prog_8_method_33_code 9 = .ok (.if_icmp .gt (21), 3) := by decide +kernel
theorem d_Mod_noted_12 : decode prog_8_method_33_code 12 = .ok (.iload_n 2, 1) := by decide +kernel
theorem d_Mod_noted_13 : decode prog_8_method_33_code 13 = .ok (.ifCond .lt (17), 3) := by decide +kernel
theorem d_Mod_noted_16 : decode prog_8_method_33_code 16 = .ok (.iload_n 2, 1) := by decide +kernel
theorem d_Mod_noted_17 : decode prog_8_method_33_code 17 = .ok (.iconst (5), 1) := by decide +kernel
theorem d_Mod_noted_18 : decode prog_8_method_33_code 18 = .ok (.if_icmp .gt (12), 3) := by decide +kernel
theorem d_Mod_noted_21 : decode prog_8_method_33_code 21 = .ok (.iload_n 2, 1) := by decide +kernel
theorem d_Mod_noted_22 : decode prog_8_method_33_code 22 = .ok (.iconst (5), 1) := by decide +kernel
theorem d_Mod_noted_23 : decode prog_8_method_33_code 23 = .ok (.if_icmp .ne (9), 3) := by decide +kernel
theorem d_Mod_noted_26 : decode prog_8_method_33_code 26 = .ok (.iload_n 1, 1) := by decide +kernel
theorem d_Mod_noted_27 : decode prog_8_method_33_code 27 = .ok (.ifCond .le (5), 3) := by decide +kernel
theorem d_Mod_noted_30 : decode prog_8_method_33_code 30 = .ok (.iconst (-1), 1) := by decide +kernel
theorem d_Mod_noted_31 : decode prog_8_method_33_code 31 = .ok (.ireturn, 1) := by decide +kernel
theorem d_Mod_noted_32 : decode prog_8_method_33_code 32 = .ok (.iload_n 2, 1) := by decide +kernel
theorem d_Mod_noted_33 : decode prog_8_method_33_code 33 = .ok (.iconst (5), 1) := by decide +kernel
theorem d_Mod_noted_34 : decode prog_8_method_33_code 34 = .ok (.if_icmp .ne (8), 3) := by decide +kernel
theorem d_Mod_noted_37 : decode prog_8_method_33_code 37 = .ok (.aload_n 0, 1) := by decide +kernel
theorem d_Mod_noted_38 : decode prog_8_method_33_code 38 = .ok (.getfield 91, 3) := by decide +kernel
theorem d_Mod_noted_41 : decode prog_8_method_33_code 41 = .ok (.ireturn, 1) := by decide +kernel
theorem d_Mod_noted_42 : decode prog_8_method_33_code 42 = .ok (.iload_n 1, 1) := by decide +kernel
theorem d_Mod_noted_43 : decode prog_8_method_33_code 43 = .ok (.ifCond .ne (11), 3) := by decide +kernel
theorem d_Mod_noted_46 : decode prog_8_method_33_code 46 = .ok (.aload_n 0, 1) := by decide +kernel
theorem d_Mod_noted_47 : decode prog_8_method_33_code 47 = .ok (.iload_n 2, 1) := by decide +kernel
theorem d_Mod_noted_48 : decode prog_8_method_33_code 48 = .ok (.invokevirtual 128, 3) := by decide +kernel
theorem d_Mod_noted_51 : decode prog_8_method_33_code 51 = .ok (.goto (13), 3) := by decide +kernel
theorem d_Mod_noted_54 : decode prog_8_method_33_code 54 = .ok (.aload_n 0, 1) := by decide +kernel
theorem d_Mod_noted_55 : decode prog_8_method_33_code 55 = .ok (.getfield 51, 3) := by decide +kernel
theorem d_Mod_noted_58 : decode prog_8_method_33_code 58 = .ok (.iconst (5), 1) := by decide +kernel
theorem d_Mod_noted_59 : decode prog_8_method_33_code 59 = .ok (.iload_n 1, 1) := by decide +kernel
theorem d_Mod_noted_60 : decode prog_8_method_33_code 60 = .ok (.imul, 1) := by decide +kernel
theorem d_Mod_noted_61 : decode prog_8_method_33_code 61 = .ok (.iload_n 2, 1) := by decide +kernel
theorem d_Mod_noted_62 : decode prog_8_method_33_code 62 = .ok (.iadd, 1) := by decide +kernel
theorem d_Mod_noted_63 : decode prog_8_method_33_code 63 = .ok (.iaload, 1) := by decide +kernel
theorem d_Mod_noted_64 : decode prog_8_method_33_code 64 = .ok (.ireturn, 1) := by decide +kernel
end
section
theorem tw_240 : (.fieldLink "PageStoreModel" 70 "PageStoreModel" "rows" "I" : Cond) ∈ ps_tbl := ps_t2 164 rfl rfl
theorem tw_241 : (.fieldLink "PageStoreModel" 104 "PageStoreModel" "dictionaries" "I" : Cond) ∈ ps_tbl := ps_t2 170 rfl rfl
theorem tw_242 : (.fieldLink "PageStoreModel" 7 "PageStoreModel" "sorts" "[B" : Cond) ∈ ps_tbl := ps_t2 161 rfl rfl
theorem tw_243 : (.fieldLink "PageStoreModel" 13 "PageStoreModel" "firsts" "[I" : Cond) ∈ ps_tbl := ps_t2 162 rfl rfl
theorem tw_244 : (.fieldLink "PageStoreModel" 17 "PageStoreModel" "lengths" "[I" : Cond) ∈ ps_tbl := ps_t2 163 rfl rfl
theorem tw_245 : (.constant "PageStoreModel" 20 32768 : Cond) ∈ ps_tbl := ps_t2 158 rfl rfl
theorem tw_246 : (.fieldLink "PageStoreModel" 74 "PageStoreModel" "places" "I" : Cond) ∈ ps_tbl := ps_t2 167 rfl rfl
theorem tw_247 : (.methodLink "PageStoreModel" 77 ⟨"PageStoreModel", "row", "(III)I"⟩ : Cond) ∈ ps_tbl := ps_t3 10 rfl rfl
theorem tw_248 : (.fieldLink "PageStoreModel" 21 "PageStoreModel" "kinds" "[B" : Cond) ∈ ps_tbl := ps_t2 165 rfl rfl
theorem tw_249 : (.fieldLink "PageStoreModel" 24 "PageStoreModel" "numbers" "[I" : Cond) ∈ ps_tbl := ps_t2 166 rfl rfl
theorem tw_250 : (.constant "PageStoreModel" 27 65536 : Cond) ∈ ps_tbl := ps_t2 159 rfl rfl
theorem tw_251 : (.fieldLink "PageStoreModel" 81 "PageStoreModel" "used" "I" : Cond) ∈ ps_tbl := ps_t2 169 rfl rfl
theorem tw_252 : (.fieldLink "PageStoreModel" 28 "PageStoreModel" "bytes" "[B" : Cond) ∈ ps_tbl := ps_t2 168 rfl rfl
theorem tw_253 : (.methodLink "PageStoreModel" 84 ⟨"PageStoreModel", "isRow", "(I)Z"⟩ : Cond) ∈ ps_tbl := ps_t3 22 rfl rfl
theorem tw_254 : (.instanceMethod ⟨"PageStoreModel", "row", "(III)I"⟩ : Cond) ∈ ps_tbl := ps_t3 12 rfl rfl
theorem tw_255 : (.selects "PageStoreModel" ⟨"PageStoreModel", "row", "(III)I"⟩ ⟨"PageStoreModel", "row", "(III)I"⟩ : Cond) ∈ ps_tbl := ps_ts (y := ⟨"PageStoreModel", "row", "(III)I"⟩) (n := 27) 15 rfl rfl
theorem tw_256 : (.initialized "PageStoreModel" : Cond) ∈ ps_tbl := ps_t1 7 rfl rfl
theorem tw_257 : (.code ⟨"PageStoreModel", "row", "(III)I"⟩ prog_8_method_2_code 4 (some .int) : Cond) ∈ ps_tbl := ps_t3 13 rfl rfl
theorem tw_258 : (.instanceMethod ⟨"PageStoreModel", "isRow", "(I)Z"⟩ : Cond) ∈ ps_tbl := ps_t3 24 rfl rfl
theorem tw_259 : (.selects "PageStoreModel" ⟨"PageStoreModel", "isRow", "(I)Z"⟩ ⟨"PageStoreModel", "isRow", "(I)Z"⟩ : Cond) ∈ ps_tbl := ps_ts (y := ⟨"PageStoreModel", "isRow", "(I)Z"⟩) (n := 27) 16 rfl rfl
theorem tw_260 : (.code ⟨"PageStoreModel", "isRow", "(I)Z"⟩ prog_8_method_5_code 2 (some .boolean) : Cond) ∈ ps_tbl := ps_t3 25 rfl rfl
theorem k_Mod_row : ps_cdV ps_tbl y_Mod_row prog_8_method_2_code 4 (some .int) := ⟨tw_254, tw_255, tw_256, tw_257⟩
theorem k_Mod_isRow : ps_cdV ps_tbl y_Mod_isRow prog_8_method_5_code 2 (some .boolean) := ⟨tw_258, tw_259, tw_256, tw_260⟩
/-- the cells of a PageStoreModel: what it shares with the class is in F (the columns 2 .. 9), its own is in X -/
def mw (cI cB cS cZ : ClassId) (b K : Nat → Nat) (S : Nat) (ck cu : Int32) (F X : Nat → Nat → Int32) : va_W := [
  (b 0, .inr (cMod, [.ref (b 1), .ref (b 2), .ref (b 3), .int (nI (K 0)), .ref (b 4), .ref (b 5), .int (nI (K 1)), .ref (b 6), .int (nI (K 2)), .int (nI (K 3)), .ref (b 7), .ref (b 8), .ref (b 9), .ref (b 10), .ref (b 11), .ref (b 12), .int (nI (K 4)), .ref (b 13), .ref (b 14), .int (nI S), .ref (b 15), .ref (b 16), .ref (b 17), .ref (b 18), .int (nI (K 5)), .int ck, .int cu])),
  (b 1, .inl (cB, 16385, .inl (F 4))),
  (b 2, .inl (cI, 16385, .inl (F 5))),
  (b 3, .inl (cI, 16385, .inl (F 6))),
  (b 4, .inl (cB, 32768, .inl (F 2))),
  (b 5, .inl (cI, 32768, .inl (F 3))),
  (b 6, .inl (cB, 65536, .inl (X 0))),
  (b 7, .inl (cS, 16384, .inl (F 7))),
  (b 8, .inl (cB, 16384, .inl (F 8))),
  (b 9, .inl (cI, 16384, .inl (F 9))),
  (b 10, .inl (cB, 16384, .inl (X 1))),
  (b 11, .inl (cI, 16384, .inl (X 2))),
  (b 12, .inl (cZ, 16384, .inl (X 3))),
  (b 13, .inl (cI, 80, .inl (X 4))),
  (b 14, .inl (cI, 17, .inl (X 5))),
  (b 15, .inl (cI, 40000, .inl (X 6))),
  (b 16, .inl (cB, 40000, .inl (X 7))),
  (b 17, .inl (cI, 40000, .inl (X 8))),
  (b 18, .inl (cZ, 40000, .inl (X 9)))]
theorem mo_b8 {k : Nat} (h : k < 128) : (nI k).toInt8.toInt32 = nI k := lg_i2b_small (by rw [nI_toInt (by omega)]; omega) (by rw [nI_toInt (by omega)]; omega)
theorem mo_s16 {k : Nat} (h : k < 32768) : (nI k).toInt16.toInt32 = nI k := lg_i2s_small (by rw [nI_toInt (by omega)]; omega) (by rw [nI_toInt (by omega)]; omega)
theorem mo_nb {k : Nat} (h : k < 128) : vp_nar .byte (nI k) = nI k := by rw [vp_nar_byte, mo_b8 h]
theorem mo_ns {k : Nat} (h : k < 32768) : vp_nar .short (nI k) = nI k := by rw [vp_nar_short, mo_s16 h]
theorem mo_k15 {x : Int32} (h : nI 0 ≤ x ∧ x ≤ nI 15) : ∃ k : Nat, k ≤ 15 ∧ x = nI k := by
  obtain ⟨j, hj, rfl⟩ := nI_of (x := x) (fun q => by
    have h1 := h.1
    rw [Int32.le_iff_toInt_le] at h1
    rw [Int32.lt_iff_toInt_lt] at q
    have e1 : (nI 0).toInt = 0 := by decide
    have e0 : (0 : Int32).toInt = 0 := by decide
    omega)
  exact ⟨j, (nI_leI hj (by decide)).mp h.2, rfl⟩
theorem mo_neg {i : Nat} (h : i < 2 ^ 31) : (-1 : Int32) - nI i < 0 := by
  rw [Int32.lt_iff_toInt_lt, Int32.toInt_sub, nI_toInt h]
  have e1 : (-1 : Int32).toInt = -1 := by decide
  have e0 : (0 : Int32).toInt = 0 := by decide
  rw [e1, e0]
  unfold Int.bmod
  simp only []
  split <;> omega
theorem mo_inv {i : Nat} : (-1 : Int32) - ((-1 : Int32) - nI i) = nI i := by
  rw [Int32.sub_eq_add_neg, Int32.neg_sub, Int32.sub_eq_add_neg, Int32.add_comm (nI i), ← Int32.add_assoc]
  have : (-1 : Int32) + -(-1 : Int32) = 0 := by decide
  rw [this, Int32.zero_add]
/-- there is such a row, and such a place -/
def ps_at (K : Nat → Nat) (F : Nat → Nat → Int32) (row place : Int32) : Prop := (nI 1 ≤ row ∧ row ≤ nI (K 0)) ∧ ¬ place < 0 ∧ place < F 6 row.toNatClampNeg
theorem ps_at_ix {K : Nat → Nat} {F : Nat → Nat → Int32} {row place : Int32} (hb : ∀ j, K j ≤ 65536) (hr : ps_rows K F) (h : ps_at K F row place) : F 5 row.toNatClampNeg + place = nI (ps_ix F row place) ∧ ((F 4 row.toNatClampNeg = nI 1 ∧ ps_ix F row place < K 1) ∨ (F 4 row.toNatClampNeg = nI 2 ∧ ps_ix F row place < K 2)) := by
  obtain ⟨h1, h3, h4⟩ := h
  obtain ⟨j, hj1, hj2, e⟩ := ps_rng (by have := hb 0; omega) h1
  have b0 := hb 0
  have ej : row.toNatClampNeg = j := by rw [e]; exact nI_clamp (by omega)
  obtain ⟨s, l, e5, e6, hs⟩ := hr j hj1 hj2
  rcases hs with ⟨q1, q2⟩ | ⟨q1, q2⟩
  · have ho : ps_ok K F (nI 1) row place := ⟨h1, by rw [ej]; exact q1, h3, h4⟩
    have h9 := ps_ok_ix hb hr (Or.inl rfl) ho
    exact ⟨h9.1, Or.inl ⟨ho.2.1, h9.2⟩⟩
  · have ho : ps_ok K F (nI 2) row place := ⟨h1, by rw [ej]; exact q1, h3, h4⟩
    have h9 := ps_ok_ix hb hr (Or.inr rfl) ho
    exact ⟨h9.1, Or.inr ⟨ho.2.1, h9.2⟩⟩

set_option maxHeartbeats 4000000 in
set_option maxRecDepth 100000 in
/-- PageStoreModel.isRow -/
theorem m_isRow (l : Launch) (dC : Nat → ClassId) (dI : Nat → Nat → Nat) (cI : ClassId) (tys : List (ClassId × FieldType)) (ht : tys[0]? = some (cI, FieldType.int)) (cB cS cZ : ClassId) (htB : tys[1]? = some (cB, FieldType.byte)) (htS : tys[2]? = some (cS, FieldType.short)) (htZ : tys[3]? = some (cZ, FieldType.boolean)) (b K : Nat → Nat) (S : Nat) (ck cu : Int32) (F X : Nat → Nat → Int32) (hKb : ∀ j, K j ≤ 65536) (hSb : S ≤ 15) (x : Int32) : ps_mI classes l y_Mod_isRow w_Mod_isRow ({ frames := 0, cells := 0, slots := 0, locals := 0 }) (dC, dI) tys [.ref (b 0), .int x] (mw cI cB cS cZ b K S ck cu F X) (fun r u => u = mw cI cB cS cZ b K S ck cu F X ∧ r = (if nI 1 ≤ x ∧ x ≤ nI (K 0) then 1 else 0)) := by
  refine ps_mI_of (by decide) rfl (Nat.le_of_ble_eq_true rfl) ?_
  intro p e s m below meth c A ls C0 hA hK hP hD hS hl
  obtain ⟨hx, hb, hr, hml, hts, hown, hlocks, hin⟩ := C0
  have hl : lv_has ls 2 [(0, .ref (b 0)), (1, .int x)] := hl
  have hP : va_P (dC, dI) classes (mw cI cB cS cZ b K S ck cu F X) s.heap := hP
  have hD : va_D A (mw cI cB cS cZ b K S ck cu F X) := hD
  refine lv_iload_n hx hb d_Mod_isRow_0 rfl (lv_at hl 1 rfl) ?_
  refine lv_iconst (v := nI 1) hx hb d_Mod_isRow_1 (by decide) ?_
  refine lv_icmp_lt (tgt := 17) hx hb d_Mod_isRow_2 (by decide) (fun c_1 => ?_) (fun c_1 => ?_)
  · refine lv_iconst (v := 0) hx hb d_Mod_isRow_17 (by decide) ?_
    exact ps_zret hx hb hr hlocks hK hP hD hS rfl (Nat.le_of_ble_eq_true rfl) (Nat.le_of_ble_eq_true rfl) d_Mod_isRow_18 (⟨rfl, (if_neg (fun q => k2_nle c_1 q.1)).symm⟩)
  · refine lv_iload_n hx hb d_Mod_isRow_5 rfl (lv_at hl 1 rfl) ?_
    refine lv_aload_n hx hb d_Mod_isRow_6 rfl (lv_at hl 0 rfl) ?_
    refine va_get (D := (dC, dI)) (ci := cMod) (v := .int (nI (K 0))) (C := R_Mod) (T := F_Mod) (N := 27) hx hb hts i_Mod hown hK hP 0 rfl rfl 3 (by decide) (hts _ tw_240) (fun _ h9 => h9) rfl d_Mod_isRow_7 ?_
    refine lv_icmp_gt (tgt := 17) hx hb d_Mod_isRow_10 (by decide) (fun c_2 => ?_) (fun c_2 => ?_)
    · refine lv_iconst (v := 0) hx hb d_Mod_isRow_17 (by decide) ?_
      exact ps_zret hx hb hr hlocks hK hP hD hS rfl (Nat.le_of_ble_eq_true rfl) (Nat.le_of_ble_eq_true rfl) d_Mod_isRow_18 (⟨rfl, (if_neg (fun q => k2_nle c_2 q.2)).symm⟩)
    · refine lv_iconst (v := 1) hx hb d_Mod_isRow_13 (by decide) ?_
      refine lv_goto (tgt := 18) hx hb d_Mod_isRow_14 (by decide) ?_
      exact ps_zret hx hb hr hlocks hK hP hD hS rfl (Nat.le_of_ble_eq_true rfl) (Nat.le_of_ble_eq_true rfl) d_Mod_isRow_18 (⟨rfl, (if_pos ⟨k2_le c_1, k2_le c_2⟩).symm⟩)

set_option maxHeartbeats 4000000 in
set_option maxRecDepth 100000 in
/-- PageStoreModel.isDictionary -/
theorem m_isDic (l : Launch) (dC : Nat → ClassId) (dI : Nat → Nat → Nat) (cI : ClassId) (tys : List (ClassId × FieldType)) (ht : tys[0]? = some (cI, FieldType.int)) (cB cS cZ : ClassId) (htB : tys[1]? = some (cB, FieldType.byte)) (htS : tys[2]? = some (cS, FieldType.short)) (htZ : tys[3]? = some (cZ, FieldType.boolean)) (b K : Nat → Nat) (S : Nat) (ck cu : Int32) (F X : Nat → Nat → Int32) (hKb : ∀ j, K j ≤ 65536) (hSb : S ≤ 15) (x : Int32) : ps_mI classes l y_Mod_isDictionary w_Mod_isDictionary ({ frames := 0, cells := 0, slots := 0, locals := 0 }) (dC, dI) tys [.ref (b 0), .int x] (mw cI cB cS cZ b K S ck cu F X) (fun r u => u = mw cI cB cS cZ b K S ck cu F X ∧ r = (if nI 1 ≤ x ∧ x ≤ nI (K 3) then 1 else 0)) := by
  refine ps_mI_of (by decide) rfl (Nat.le_of_ble_eq_true rfl) ?_
  intro p e s m below meth c A ls C0 hA hK hP hD hS hl
  obtain ⟨hx, hb, hr, hml, hts, hown, hlocks, hin⟩ := C0
  have hl : lv_has ls 2 [(0, .ref (b 0)), (1, .int x)] := hl
  have hP : va_P (dC, dI) classes (mw cI cB cS cZ b K S ck cu F X) s.heap := hP
  have hD : va_D A (mw cI cB cS cZ b K S ck cu F X) := hD
  refine lv_iload_n hx hb d_Mod_isDictionary_0 rfl (lv_at hl 1 rfl) ?_
  refine lv_iconst (v := nI 1) hx hb d_Mod_isDictionary_1 (by decide) ?_
  refine lv_icmp_lt (tgt := 17) hx hb d_Mod_isDictionary_2 (by decide) (fun c_1 => ?_) (fun c_1 => ?_)
  · refine lv_iconst (v := 0) hx hb d_Mod_isDictionary_17 (by decide) ?_
    exact ps_zret hx hb hr hlocks hK hP hD hS rfl (Nat.le_of_ble_eq_true rfl) (Nat.le_of_ble_eq_true rfl) d_Mod_isDictionary_18 (⟨rfl, (if_neg (fun q => k2_nle c_1 q.1)).symm⟩)
  · refine lv_iload_n hx hb d_Mod_isDictionary_5 rfl (lv_at hl 1 rfl) ?_
    refine lv_aload_n hx hb d_Mod_isDictionary_6 rfl (lv_at hl 0 rfl) ?_
    refine va_get (D := (dC, dI)) (ci := cMod) (v := .int (nI (K 3))) (C := R_Mod) (T := F_Mod) (N := 27) hx hb hts i_Mod hown hK hP 0 rfl rfl 9 (by decide) (hts _ tw_241) (fun _ h9 => h9) rfl d_Mod_isDictionary_7 ?_
    refine lv_icmp_gt (tgt := 17) hx hb d_Mod_isDictionary_10 (by decide) (fun c_2 => ?_) (fun c_2 => ?_)
    · refine lv_iconst (v := 0) hx hb d_Mod_isDictionary_17 (by decide) ?_
      exact ps_zret hx hb hr hlocks hK hP hD hS rfl (Nat.le_of_ble_eq_true rfl) (Nat.le_of_ble_eq_true rfl) d_Mod_isDictionary_18 (⟨rfl, (if_neg (fun q => k2_nle c_2 q.2)).symm⟩)
    · refine lv_iconst (v := 1) hx hb d_Mod_isDictionary_13 (by decide) ?_
      refine lv_goto (tgt := 18) hx hb d_Mod_isDictionary_14 (by decide) ?_
      exact ps_zret hx hb hr hlocks hK hP hD hS rfl (Nat.le_of_ble_eq_true rfl) (Nat.le_of_ble_eq_true rfl) d_Mod_isDictionary_18 (⟨rfl, (if_pos ⟨k2_le c_1, k2_le c_2⟩).symm⟩)

set_option maxHeartbeats 4000000 in
set_option maxRecDepth 100000 in
/-- PageStoreModel.isKey -/
theorem m_isKey (l : Launch) (dC : Nat → ClassId) (dI : Nat → Nat → Nat) (cI : ClassId) (tys : List (ClassId × FieldType)) (ht : tys[0]? = some (cI, FieldType.int)) (x : Int32) : ps_mI classes l y_Mod_isKey w_Mod_isKey ({ frames := 0, cells := 0, slots := 0, locals := 0 }) (dC, dI) tys [.int x] ([]) (fun r u => u = [] ∧ r = (if nI 1 ≤ x ∧ x ≤ nI 15 then 1 else 0)) := by
  refine ps_mI_of (by decide) rfl (Nat.le_of_ble_eq_true rfl) ?_
  intro p e s m below meth c A ls C0 hA hK hP hD hS hl
  obtain ⟨hx, hb, hr, hml, hts, hown, hlocks, hin⟩ := C0
  have hl : lv_has ls 1 [(0, .int x)] := hl
  have hP : va_P (dC, dI) classes [] s.heap := hP
  have hD : va_D A [] := hD
  refine lv_iload_n hx hb d_Mod_isKey_0 rfl (lv_at hl 0 rfl) ?_
  refine lv_iconst (v := nI 1) hx hb d_Mod_isKey_1 (by decide) ?_
  refine lv_icmp_lt (tgt := 15) hx hb d_Mod_isKey_2 (by decide) (fun c_1 => ?_) (fun c_1 => ?_)
  · refine lv_iconst (v := 0) hx hb d_Mod_isKey_15 (by decide) ?_
    exact ps_zret hx hb hr hlocks hK hP hD hS rfl (Nat.le_of_ble_eq_true rfl) (Nat.le_of_ble_eq_true rfl) d_Mod_isKey_16 (⟨rfl, (if_neg (fun q => k2_nle c_1 q.1)).symm⟩)
  · refine lv_iload_n hx hb d_Mod_isKey_5 rfl (lv_at hl 0 rfl) ?_
    refine lv_bipush (v := nI 15) hx hb d_Mod_isKey_6 (by decide) ?_
    refine lv_icmp_gt (tgt := 15) hx hb d_Mod_isKey_8 (by decide) (fun c_2 => ?_) (fun c_2 => ?_)
    · refine lv_iconst (v := 0) hx hb d_Mod_isKey_15 (by decide) ?_
      exact ps_zret hx hb hr hlocks hK hP hD hS rfl (Nat.le_of_ble_eq_true rfl) (Nat.le_of_ble_eq_true rfl) d_Mod_isKey_16 (⟨rfl, (if_neg (fun q => k2_nle c_2 q.2)).symm⟩)
    · refine lv_iconst (v := 1) hx hb d_Mod_isKey_11 (by decide) ?_
      refine lv_goto (tgt := 16) hx hb d_Mod_isKey_12 (by decide) ?_
      exact ps_zret hx hb hr hlocks hK hP hD hS rfl (Nat.le_of_ble_eq_true rfl) (Nat.le_of_ble_eq_true rfl) d_Mod_isKey_16 (⟨rfl, (if_pos ⟨k2_le c_1, k2_le c_2⟩).symm⟩)

set_option maxHeartbeats 4000000 in
set_option maxRecDepth 100000 in
/-- PageStoreModel.row -/
theorem m_row (l : Launch) (dC : Nat → ClassId) (dI : Nat → Nat → Nat) (cI : ClassId) (tys : List (ClassId × FieldType)) (ht : tys[0]? = some (cI, FieldType.int)) (cB cS cZ : ClassId) (htB : tys[1]? = some (cB, FieldType.byte)) (htS : tys[2]? = some (cS, FieldType.short)) (htZ : tys[3]? = some (cZ, FieldType.boolean)) (b K : Nat → Nat) (S : Nat) (ck cu : Int32) (F X : Nat → Nat → Int32) (hKb : ∀ j, K j ≤ 65536) (hSb : S ≤ 15) (x s0 n : Int32) (hr : K 0 < 16384) (hx8 : x.toInt8.toInt32 = x) : ps_mI classes l y_Mod_row w_Mod_row ({ frames := 0, cells := 0, slots := 0, locals := 0 }) (dC, dI) tys [.ref (b 0), .int x, .int s0, .int n] (mw cI cB cS cZ b K S ck cu F X) (fun r u => r = nI (K 0 + 1) ∧ u = mw cI cB cS cZ b (va_up K 0 (K 0 + 1)) S ck cu (ps_Fr F (K 0 + 1) x s0 n) X) := by
  have hr0 := hr
  refine ps_mI_of (by decide) rfl (Nat.le_of_ble_eq_true rfl) ?_
  intro p e s m below meth c A ls C0 hA hK hP hD hS hl
  obtain ⟨hx, hb, hr, hml, hts, hown, hlocks, hin⟩ := C0
  have hl : lv_has ls 4 [(0, .ref (b 0)), (1, .int x), (2, .int s0), (3, .int n)] := hl
  have hP : va_P (dC, dI) classes (mw cI cB cS cZ b K S ck cu F X) s.heap := hP
  have hD : va_D A (mw cI cB cS cZ b K S ck cu F X) := hD
  refine lv_aload_n hx hb d_Mod_row_0 rfl (lv_at hl 0 rfl) ?_
  refine lv_dup hx hb d_Mod_row_1 rfl ?_
  refine va_get (D := (dC, dI)) (ci := cMod) (v := .int (nI (K 0))) (C := R_Mod) (T := F_Mod) (N := 27) hx hb hts i_Mod hown hK hP 0 rfl rfl 3 (by decide) (hts _ tw_240) (fun _ h9 => h9) rfl d_Mod_row_2 ?_
  refine lv_iconst (v := nI 1) hx hb d_Mod_row_5 (by decide) ?_
  refine lv_iadd hx hb d_Mod_row_6 ?_
  refine ps_top (z := nI (K 0 + 1)) (nI_add _ _) ?_
  refine va_put (D := (dC, dI)) (ci := cMod) (v := .int (nI (K 0 + 1))) (ty := .int) (C := R_Mod) (T := F_Mod) (N := 27) hx hb hts i_Mod t_Mod t_Mod_ok n_Mod hown hK hP hD hS 0 rfl rfl 3 (by decide) (hts _ tw_240) (fun _ h9 => h9) rfl (by decide +kernel) rfl rfl (Nat.le_of_ble_eq_true rfl) d_Mod_row_7 (fun H locs hP hD hS => ?_)
  have hP : va_P (dC, dI) classes (mw cI cB cS cZ b (va_up K 0 (K 0 + 1)) S ck cu F X) H := hP
  have hD : va_D A (mw cI cB cS cZ b (va_up K 0 (K 0 + 1)) S ck cu F X) := hD
  refine lv_aload_n hx hb d_Mod_row_10 rfl (lv_at hl 0 rfl) ?_
  refine va_get (D := (dC, dI)) (ci := cMod) (v := .ref (b 1)) (C := R_Mod) (T := F_Mod) (N := 27) hx hb hts i_Mod hown hK hP 0 rfl rfl 0 (by decide) (hts _ tw_242) (fun _ h9 => h9) rfl d_Mod_row_11 ?_
  refine lv_aload_n hx hb d_Mod_row_14 rfl (lv_at hl 0 rfl) ?_
  refine va_get (D := (dC, dI)) (ci := cMod) (v := .int (nI (K 0 + 1))) (C := R_Mod) (T := F_Mod) (N := 27) hx hb hts i_Mod hown hK hP 0 rfl rfl 3 (by decide) (hts _ tw_240) (fun _ h9 => h9) rfl d_Mod_row_15 ?_
  refine lv_iload_n hx hb d_Mod_row_18 rfl (lv_at hl 1 rfl) ?_
  refine lv_i2b (v := x) hx hb d_Mod_row_19 hx8 ?_
  refine va_bast (f := F 4) hx hb hK hP hD hS 1 1 rfl htB (vp_in_nI (show K 0 + 1 < 16385 from by omega) (by decide)) d_Mod_row_20 (fun H locs hP hD hS => ?_)
  rw [nI_clamp (show K 0 + 1 < 2 ^ 31 from by omega), (show vp_nar .byte x = x by rw [vp_nar_byte, hx8])] at hP hD
  have hP : va_P (dC, dI) classes (mw cI cB cS cZ b (va_up K 0 (K 0 + 1)) S ck cu (va_up F 4 (upd (F 4) (K 0 + 1) x)) X) H := hP
  have hD : va_D A (mw cI cB cS cZ b (va_up K 0 (K 0 + 1)) S ck cu (va_up F 4 (upd (F 4) (K 0 + 1) x)) X) := hD
  refine lv_aload_n hx hb d_Mod_row_21 rfl (lv_at hl 0 rfl) ?_
  refine va_get (D := (dC, dI)) (ci := cMod) (v := .ref (b 2)) (C := R_Mod) (T := F_Mod) (N := 27) hx hb hts i_Mod hown hK hP 0 rfl rfl 1 (by decide) (hts _ tw_243) (fun _ h9 => h9) rfl d_Mod_row_22 ?_
  refine lv_aload_n hx hb d_Mod_row_25 rfl (lv_at hl 0 rfl) ?_
  refine va_get (D := (dC, dI)) (ci := cMod) (v := .int (nI (K 0 + 1))) (C := R_Mod) (T := F_Mod) (N := 27) hx hb hts i_Mod hown hK hP 0 rfl rfl 3 (by decide) (hts _ tw_240) (fun _ h9 => h9) rfl d_Mod_row_26 ?_
  refine lv_iload_n hx hb d_Mod_row_29 rfl (lv_at hl 2 rfl) ?_
  refine va_iast (f := F 5) hx hb hK hP hD hS 2 0 rfl ht (vp_in_nI (show K 0 + 1 < 16385 from by omega) (by decide)) d_Mod_row_30 (fun H locs hP hD hS => ?_)
  rw [nI_clamp (show K 0 + 1 < 2 ^ 31 from by omega)] at hP hD
  have hP : va_P (dC, dI) classes (mw cI cB cS cZ b (va_up K 0 (K 0 + 1)) S ck cu (va_up (va_up F 4 (upd (F 4) (K 0 + 1) x)) 5 (upd (F 5) (K 0 + 1) s0)) X) H := hP
  have hD : va_D A (mw cI cB cS cZ b (va_up K 0 (K 0 + 1)) S ck cu (va_up (va_up F 4 (upd (F 4) (K 0 + 1) x)) 5 (upd (F 5) (K 0 + 1) s0)) X) := hD
  refine lv_aload_n hx hb d_Mod_row_31 rfl (lv_at hl 0 rfl) ?_
  refine va_get (D := (dC, dI)) (ci := cMod) (v := .ref (b 3)) (C := R_Mod) (T := F_Mod) (N := 27) hx hb hts i_Mod hown hK hP 0 rfl rfl 2 (by decide) (hts _ tw_244) (fun _ h9 => h9) rfl d_Mod_row_32 ?_
  refine lv_aload_n hx hb d_Mod_row_35 rfl (lv_at hl 0 rfl) ?_
  refine va_get (D := (dC, dI)) (ci := cMod) (v := .int (nI (K 0 + 1))) (C := R_Mod) (T := F_Mod) (N := 27) hx hb hts i_Mod hown hK hP 0 rfl rfl 3 (by decide) (hts _ tw_240) (fun _ h9 => h9) rfl d_Mod_row_36 ?_
  refine lv_iload_n hx hb d_Mod_row_39 rfl (lv_at hl 3 rfl) ?_
  refine va_iast (f := F 6) hx hb hK hP hD hS 3 0 rfl ht (vp_in_nI (show K 0 + 1 < 16385 from by omega) (by decide)) d_Mod_row_40 (fun H locs hP hD hS => ?_)
  rw [nI_clamp (show K 0 + 1 < 2 ^ 31 from by omega)] at hP hD
  have hP : va_P (dC, dI) classes (mw cI cB cS cZ b (va_up K 0 (K 0 + 1)) S ck cu (va_up (va_up (va_up F 4 (upd (F 4) (K 0 + 1) x)) 5 (upd (F 5) (K 0 + 1) s0)) 6 (upd (F 6) (K 0 + 1) n)) X) H := hP
  have hD : va_D A (mw cI cB cS cZ b (va_up K 0 (K 0 + 1)) S ck cu (va_up (va_up (va_up F 4 (upd (F 4) (K 0 + 1) x)) 5 (upd (F 5) (K 0 + 1) s0)) 6 (upd (F 6) (K 0 + 1) n)) X) := hD
  refine lv_aload_n hx hb d_Mod_row_41 rfl (lv_at hl 0 rfl) ?_
  refine va_get (D := (dC, dI)) (ci := cMod) (v := .int (nI (K 0 + 1))) (C := R_Mod) (T := F_Mod) (N := 27) hx hb hts i_Mod hown hK hP 0 rfl rfl 3 (by decide) (hts _ tw_240) (fun _ h9 => h9) rfl d_Mod_row_42 ?_
  exact ps_iret hx hb hr hlocks hK hP hD hS (Nat.le_of_ble_eq_true rfl) (Nat.le_of_ble_eq_true rfl) d_Mod_row_45 (⟨rfl, rfl⟩)

set_option maxHeartbeats 4000000 in
set_option maxRecDepth 100000 in
/-- PageStoreModel.values -/
theorem m_values (l : Launch) (dC : Nat → ClassId) (dI : Nat → Nat → Nat) (cI : ClassId) (tys : List (ClassId × FieldType)) (ht : tys[0]? = some (cI, FieldType.int)) (cB cS cZ : ClassId) (htB : tys[1]? = some (cB, FieldType.byte)) (htS : tys[2]? = some (cS, FieldType.short)) (htZ : tys[3]? = some (cZ, FieldType.boolean)) (b K : Nat → Nat) (S : Nat) (ck cu : Int32) (F X : Nat → Nat → Int32) (hKb : ∀ j, K j ≤ 65536) (hSb : S ≤ 15) (n : Int32) (hk0 : K 0 ≤ 16384) (hk1 : K 1 ≤ 32768) : ps_mI classes l y_Mod_values w_Mod_values ({ frames := 1, cells := 0, slots := 0, locals := 23 }) (dC, dI) tys [.ref (b 0), .int n] (mw cI cB cS cZ b K S ck cu F X) (fun r u => ps_c (n < 0 ∨ nI 32768 < n) (r = -1 ∧ u = mw cI cB cS cZ b K S ck cu F X) (ps_c (16384 ≤ K 0 ∨ 32768 < K 1 + n.toNatClampNeg) (r = -3 ∧ u = mw cI cB cS cZ b K S ck cu F X) (r = nI (K 0 + 1) ∧ u = mw cI cB cS cZ b (va_up (va_up K 1 (K 1 + n.toNatClampNeg)) 0 (K 0 + 1)) S ck cu (ps_Fr (ps_w (ps_w F 2 (K 1) (K 1 + n.toNatClampNeg)) 3 (K 1) (K 1 + n.toNatClampNeg)) (K 0 + 1) (nI 1) (nI (K 1)) n) X))) := by
  refine ps_mI_of (by decide) rfl (Nat.le_of_ble_eq_true rfl) ?_
  intro p e s m below meth c A ls C0 hA hK hP hD hS hl
  obtain ⟨hx, hb, hr, hml, hts, hown, hlocks, hin⟩ := C0
  have hl : lv_has ls 3 [(0, .ref (b 0)), (1, .int n)] := hl
  have hP : va_P (dC, dI) classes (mw cI cB cS cZ b K S ck cu F X) s.heap := hP
  have hD : va_D A (mw cI cB cS cZ b K S ck cu F X) := hD
  refine lv_iload_n hx hb d_Mod_values_0 rfl (lv_at hl 1 rfl) ?_
  refine lv_if_lt (tgt := 10) hx hb d_Mod_values_1 (by decide) (fun c_1 => ?_) (fun c_1 => ?_)
  · refine lv_iconst (v := (-1)) hx hb d_Mod_values_10 (by decide) ?_
    exact ps_iret hx hb hr hlocks hK hP hD hS (Nat.le_of_ble_eq_true rfl) (Nat.le_of_ble_eq_true rfl) d_Mod_values_11 (ps_cy (Or.inl c_1) ⟨rfl, rfl⟩)
  · refine lv_iload_n hx hb d_Mod_values_4 rfl (lv_at hl 1 rfl) ?_
    refine lv_ldc (v := 32768) hx hb hown (hts _ tw_245) d_Mod_values_5 ?_
    refine ps_top (z := nI 32768) (by decide) ?_
    refine lv_icmp_le (tgt := 12) hx hb d_Mod_values_7 (by decide) (fun c_2 => ?_) (fun c_2 => ?_)
    · obtain ⟨n0, hn0, rfl⟩ := nI_of c_1
      have c_2 : n0 ≤ 32768 := (nI_leI hn0 (by decide)).mp c_2
      rw [nI_clamp hn0]
      have hna : ¬ (nI n0 < 0 ∨ nI 32768 < nI n0) := fun q => q.elim (nI_pos hn0) (nI_nlt (by omega) (by decide))
      refine lv_aload_n hx hb d_Mod_values_12 rfl (lv_at hl 0 rfl) ?_
      refine va_get (D := (dC, dI)) (ci := cMod) (v := .int (nI (K 0))) (C := R_Mod) (T := F_Mod) (N := 27) hx hb hts i_Mod hown hK hP 0 rfl rfl 3 (by decide) (hts _ tw_240) (fun _ h9 => h9) rfl d_Mod_values_13 ?_
      refine lv_sipush (v := nI 16384) hx hb d_Mod_values_16 (by decide) ?_
      refine lv_icmp_eq (tgt := 33) hx hb d_Mod_values_19 (by decide) (fun c_3 => ?_) (fun c_3 => ?_)
      · have c_3 : K 0 = 16384 := (nI_eq (by have h0 := hKb 0; have h1 := hKb 1; have h2 := hKb 2; have h3 := hKb 3; have h4 := hKb 4; have h5 := hKb 5; omega) (by have h0 := hKb 0; have h1 := hKb 1; have h2 := hKb 2; have h3 := hKb 3; have h4 := hKb 4; have h5 := hKb 5; omega)).mp c_3
        refine lv_bipush (v := (-3)) hx hb d_Mod_values_33 (by decide) ?_
        exact ps_iret hx hb hr hlocks hK hP hD hS (Nat.le_of_ble_eq_true rfl) (Nat.le_of_ble_eq_true rfl) d_Mod_values_35 (ps_cn hna (ps_cy (by omega) ⟨rfl, rfl⟩))
      · have c_3 : ¬ K 0 = 16384 := fun q => c_3 ((nI_eq (by have h0 := hKb 0; have h1 := hKb 1; have h2 := hKb 2; have h3 := hKb 3; have h4 := hKb 4; have h5 := hKb 5; omega) (by have h0 := hKb 0; have h1 := hKb 1; have h2 := hKb 2; have h3 := hKb 3; have h4 := hKb 4; have h5 := hKb 5; omega)).mpr q)
        refine lv_aload_n hx hb d_Mod_values_22 rfl (lv_at hl 0 rfl) ?_
        refine va_get (D := (dC, dI)) (ci := cMod) (v := .int (nI (K 1))) (C := R_Mod) (T := F_Mod) (N := 27) hx hb hts i_Mod hown hK hP 0 rfl rfl 6 (by decide) (hts _ tw_246) (fun _ h9 => h9) rfl d_Mod_values_23 ?_
        refine lv_iload_n hx hb d_Mod_values_26 rfl (lv_at hl 1 rfl) ?_
        refine lv_iadd hx hb d_Mod_values_27 ?_
        refine ps_top (z := nI (K 1 + n0)) (nI_add _ _) ?_
        refine lv_ldc (v := 32768) hx hb hown (hts _ tw_245) d_Mod_values_28 ?_
        refine ps_top (z := nI 32768) (by decide) ?_
        refine lv_icmp_le (tgt := 36) hx hb d_Mod_values_30 (by decide) (fun c_4 => ?_) (fun c_4 => ?_)
        · have c_4 : K 1 + n0 ≤ 32768 := (nI_leI (by have h0 := hKb 0; have h1 := hKb 1; have h2 := hKb 2; have h3 := hKb 3; have h4 := hKb 4; have h5 := hKb 5; omega) (by have h0 := hKb 0; have h1 := hKb 1; have h2 := hKb 2; have h3 := hKb 3; have h4 := hKb 4; have h5 := hKb 5; omega)).mp c_4
          refine lv_iconst (v := nI 0) hx hb d_Mod_values_36 (by decide) ?_
          refine lv_istore_n (lv' := [(2, .int (nI 0)), (0, .ref (b 0)), (1, .int (nI n0))]) hx hb d_Mod_values_37 rfl hl (by decide) rfl (fun ls hl => ?_)
          refine ps_loop (α := Nat) (fun i => 0) (fun i => 0) (fun i => n0 - i) (fun i H locs ls => lv_has ls 3 [(2, .int (nI i)), (0, .ref (b 0)), (1, .int (nI n0))] ∧ va_P (dC, dI) classes (mw cI cB cS cZ b K S ck cu (va_up (va_up F 2 (ps_fil (F 2) (K 1) (K 1 + i) 0)) 3 (ps_fil (F 3) (K 1) (K 1 + i) 0)) X) H ∧ va_D A (mw cI cB cS cZ b K S ck cu (va_up (va_up F 2 (ps_fil (F 2) (K 1) (K 1 + i) 0)) 3 (ps_fil (F 3) (K 1) (K 1 + i) 0)) X) ∧ va_S A s.heap H locs ∧ i ≤ n0) ?_ 0 _ _ ls ⟨lv_sub hl [0, 1, 2] rfl, (by have e0 : va_up F 2 (ps_fil (F 2) (K 1) (K 1 + 0) 0) = F := (funext fun j => by by_cases h : j = 2 <;> simp [va_up, h, ps_fil_0]); have e1 : va_up F 3 (ps_fil (F 3) (K 1) (K 1 + 0) 0) = F := (funext fun j => by by_cases h : j = 3 <;> simp [va_up, h, ps_fil_0]); rw [e0, e1]; exact hP), (by have e0 : va_up F 2 (ps_fil (F 2) (K 1) (K 1 + 0) 0) = F := (funext fun j => by by_cases h : j = 2 <;> simp [va_up, h, ps_fil_0]); have e1 : va_up F 3 (ps_fil (F 3) (K 1) (K 1 + 0) 0) = F := (funext fun j => by by_cases h : j = 3 <;> simp [va_up, h, ps_fil_0]); rw [e0, e1]; exact hD), hS, Nat.zero_le _⟩
          intro i H locs ls hI ih
          obtain ⟨hl, hP, hD, hS, hin⟩ := hI
          refine lv_iload_n hx hb d_Mod_values_38 rfl (lv_at hl 0 rfl) ?_
          refine lv_iload_n hx hb d_Mod_values_39 rfl (lv_at hl 2 rfl) ?_
          refine lv_icmp_ge (tgt := 73) hx hb d_Mod_values_40 (by decide) (fun c_5 => ?_) (fun c_5 => ?_)
          · have c_5 : n0 ≤ i := (nI_leI (by have h0 := hKb 0; have h1 := hKb 1; have h2 := hKb 2; have h3 := hKb 3; have h4 := hKb 4; have h5 := hKb 5; omega) (by have h0 := hKb 0; have h1 := hKb 1; have h2 := hKb 2; have h3 := hKb 3; have h4 := hKb 4; have h5 := hKb 5; omega)).mp c_5
            have hi9 : i = n0 := by omega
            subst hi9
            refine lv_aload_n hx hb d_Mod_values_73 rfl (lv_at hl 1 rfl) ?_
            refine lv_dup hx hb d_Mod_values_74 rfl ?_
            refine va_get (D := (dC, dI)) (ci := cMod) (v := .int (nI (K 1))) (C := R_Mod) (T := F_Mod) (N := 27) hx hb hts i_Mod hown hK hP 0 rfl rfl 6 (by decide) (hts _ tw_246) (fun _ h9 => h9) rfl d_Mod_values_75 ?_
            refine lv_iload_n hx hb d_Mod_values_78 rfl (lv_at hl 2 rfl) ?_
            refine lv_iadd hx hb d_Mod_values_79 ?_
            refine ps_top (z := nI (K 1 + i)) (nI_add _ _) ?_
            refine va_put (D := (dC, dI)) (ci := cMod) (v := .int (nI (K 1 + i))) (ty := .int) (C := R_Mod) (T := F_Mod) (N := 27) hx hb hts i_Mod t_Mod t_Mod_ok n_Mod hown hK hP hD hS 0 rfl rfl 6 (by decide) (hts _ tw_246) (fun _ h9 => h9) rfl (by decide +kernel) rfl rfl (Nat.le_of_ble_eq_true rfl) d_Mod_values_80 (fun H locs hP hD hS => ?_)
            have hP : va_P (dC, dI) classes (mw cI cB cS cZ b (va_up K 1 (K 1 + i)) S ck cu (va_up (va_up F 2 (ps_fil (F 2) (K 1) (K 1 + i) 0)) 3 (ps_fil (F 3) (K 1) (K 1 + i) 0)) X) H := hP
            have hD : va_D A (mw cI cB cS cZ b (va_up K 1 (K 1 + i)) S ck cu (va_up (va_up F 2 (ps_fil (F 2) (K 1) (K 1 + i) 0)) 3 (ps_fil (F 3) (K 1) (K 1 + i) 0)) X) := hD
            refine lv_aload_n hx hb d_Mod_values_83 rfl (lv_at hl 1 rfl) ?_
            refine lv_iconst (v := nI 1) hx hb d_Mod_values_84 (by decide) ?_
            refine lv_aload_n hx hb d_Mod_values_85 rfl (lv_at hl 1 rfl) ?_
            refine va_get (D := (dC, dI)) (ci := cMod) (v := .int (nI (K 1 + i))) (C := R_Mod) (T := F_Mod) (N := 27) hx hb hts i_Mod hown hK hP 0 rfl rfl 6 (by decide) (hts _ tw_246) (fun _ h9 => h9) rfl d_Mod_values_86 ?_
            refine lv_iload_n hx hb d_Mod_values_89 rfl (lv_at hl 2 rfl) ?_
            refine lv_isub hx hb d_Mod_values_90 ?_
            refine ps_top (z := nI (K 1)) (by rw [pk_sub (by omega)]; congr 1; omega) ?_
            refine lv_iload_n hx hb d_Mod_values_91 rfl (lv_at hl 2 rfl) ?_
            refine ps_afterI (wc := (mw cI cB cS cZ b (va_up K 1 (K 1 + i)) S ck cu (va_up (va_up F 2 (ps_fil (F 2) (K 1) (K 1 + i) 0)) 3 (ps_fil (F 3) (K 1) (K 1 + i) 0)) X)) (wr := []) hP hD hS hA [0, 1, 2, 3, 4, 5, 6, 7, 8, 9, 10, 11, 12, 13, 14, 15, 16, 17, 18] [] rfl rfl (by decide) (by decide) (ps_runVI ⟨hx, hb, hml, hown, hts⟩ (m_row l dC dI cI tys ht cB cS cZ htB htS htZ b (va_up K 1 (K 1 + i)) S ck cu (va_up (va_up F 2 (ps_fil (F 2) (K 1) (K 1 + i) 0)) 3 (ps_fil (F 3) (K 1) (K 1 + i) 0)) X (ps_kb (x := K 1 + i) hKb (by omega)) hSb (nI 1) (nI (K 1)) (nI i) (show K 0 < 16384 by omega) (mo_b8 (by decide))) (ps_cwV ps_gd 3 hts tw_247 k_Mod_row e_Mod_row ⟨Nat.le_of_ble_eq_true rfl, Nat.le_of_ble_eq_true rfl⟩) hK hP hD [0, 1, 2, 3, 4, 5, 6, 7, 8, 9, 10, 11, 12, 13, 14, 15, 16, 17, 18] (by decide) rfl 0 cMod rfl rfl rfl hl.1 rfl (Nat.le_of_ble_eq_true rfl) d_Mod_values_92 ⟨Nat.zero_le _, Nat.zero_le _⟩) (fun r_7 u_6 H locs hu_6 hP hD hS => ?_)
            obtain ⟨hr_7, hu_6⟩ := hu_6
            subst hr_7
            subst hu_6
            have hP : va_P (dC, dI) classes (mw cI cB cS cZ b (va_up (va_up K 1 (K 1 + i)) 0 (K 0 + 1)) S ck cu (va_up (va_up (va_up (va_up (va_up F 2 (ps_fil (F 2) (K 1) (K 1 + i) 0)) 3 (ps_fil (F 3) (K 1) (K 1 + i) 0)) 4 (upd (F 4) (K 0 + 1) (nI 1))) 5 (upd (F 5) (K 0 + 1) (nI (K 1)))) 6 (upd (F 6) (K 0 + 1) (nI i))) X) H := hP
            have hD : va_D A (mw cI cB cS cZ b (va_up (va_up K 1 (K 1 + i)) 0 (K 0 + 1)) S ck cu (va_up (va_up (va_up (va_up (va_up F 2 (ps_fil (F 2) (K 1) (K 1 + i) 0)) 3 (ps_fil (F 3) (K 1) (K 1 + i) 0)) 4 (upd (F 4) (K 0 + 1) (nI 1))) 5 (upd (F 5) (K 0 + 1) (nI (K 1)))) 6 (upd (F 6) (K 0 + 1) (nI i))) X) := hD
            exact ps_iret hx hb hr hlocks hK hP hD hS (Nat.le_of_ble_eq_true rfl) (Nat.le_of_ble_eq_true rfl) d_Mod_values_95 (ps_cn hna (ps_cn (by omega) ⟨rfl, rfl⟩))
          · have c_5 : ¬ n0 ≤ i := fun q => c_5 ((nI_leI (by have h0 := hKb 0; have h1 := hKb 1; have h2 := hKb 2; have h3 := hKb 3; have h4 := hKb 4; have h5 := hKb 5; omega) (by have h0 := hKb 0; have h1 := hKb 1; have h2 := hKb 2; have h3 := hKb 3; have h4 := hKb 4; have h5 := hKb 5; omega)).mpr q)
            refine lv_aload_n hx hb d_Mod_values_43 rfl (lv_at hl 1 rfl) ?_
            refine va_get (D := (dC, dI)) (ci := cMod) (v := .ref (b 4)) (C := R_Mod) (T := F_Mod) (N := 27) hx hb hts i_Mod hown hK hP 0 rfl rfl 4 (by decide) (hts _ tw_248) (fun _ h9 => h9) rfl d_Mod_values_44 ?_
            refine lv_aload_n hx hb d_Mod_values_47 rfl (lv_at hl 1 rfl) ?_
            refine va_get (D := (dC, dI)) (ci := cMod) (v := .int (nI (K 1))) (C := R_Mod) (T := F_Mod) (N := 27) hx hb hts i_Mod hown hK hP 0 rfl rfl 6 (by decide) (hts _ tw_246) (fun _ h9 => h9) rfl d_Mod_values_48 ?_
            refine lv_iload_n hx hb d_Mod_values_51 rfl (lv_at hl 0 rfl) ?_
            refine lv_iadd hx hb d_Mod_values_52 ?_
            refine ps_top (z := nI (K 1 + i)) (nI_add _ _) ?_
            refine lv_iconst (v := 0) hx hb d_Mod_values_53 (by decide) ?_
            refine va_bast (f := ps_fil (F 2) (K 1) (K 1 + i) 0) hx hb hK hP hD hS 4 1 rfl htB (vp_in_nI (show K 1 + i < 32768 from by omega) (by decide)) d_Mod_values_54 (fun H locs hP hD hS => ?_)
            rw [nI_clamp (show K 1 + i < 2 ^ 31 from by omega), (show vp_nar .byte 0 = 0 by decide)] at hP hD
            rw [ps_fil_s (by omega)] at hP hD
            have hP : va_P (dC, dI) classes (mw cI cB cS cZ b K S ck cu (va_up (va_up F 2 (ps_fil (F 2) (K 1) (K 1 + (i + 1)) 0)) 3 (ps_fil (F 3) (K 1) (K 1 + i) 0)) X) H := hP
            have hD : va_D A (mw cI cB cS cZ b K S ck cu (va_up (va_up F 2 (ps_fil (F 2) (K 1) (K 1 + (i + 1)) 0)) 3 (ps_fil (F 3) (K 1) (K 1 + i) 0)) X) := hD
            refine lv_aload_n hx hb d_Mod_values_55 rfl (lv_at hl 1 rfl) ?_
            refine va_get (D := (dC, dI)) (ci := cMod) (v := .ref (b 5)) (C := R_Mod) (T := F_Mod) (N := 27) hx hb hts i_Mod hown hK hP 0 rfl rfl 5 (by decide) (hts _ tw_249) (fun _ h9 => h9) rfl d_Mod_values_56 ?_
            refine lv_aload_n hx hb d_Mod_values_59 rfl (lv_at hl 1 rfl) ?_
            refine va_get (D := (dC, dI)) (ci := cMod) (v := .int (nI (K 1))) (C := R_Mod) (T := F_Mod) (N := 27) hx hb hts i_Mod hown hK hP 0 rfl rfl 6 (by decide) (hts _ tw_246) (fun _ h9 => h9) rfl d_Mod_values_60 ?_
            refine lv_iload_n hx hb d_Mod_values_63 rfl (lv_at hl 0 rfl) ?_
            refine lv_iadd hx hb d_Mod_values_64 ?_
            refine ps_top (z := nI (K 1 + i)) (nI_add _ _) ?_
            refine lv_iconst (v := 0) hx hb d_Mod_values_65 (by decide) ?_
            refine va_iast (f := ps_fil (F 3) (K 1) (K 1 + i) 0) hx hb hK hP hD hS 5 0 rfl ht (vp_in_nI (show K 1 + i < 32768 from by omega) (by decide)) d_Mod_values_66 (fun H locs hP hD hS => ?_)
            rw [nI_clamp (show K 1 + i < 2 ^ 31 from by omega)] at hP hD
            rw [ps_fil_s (by omega)] at hP hD
            have hP : va_P (dC, dI) classes (mw cI cB cS cZ b K S ck cu (va_up (va_up F 2 (ps_fil (F 2) (K 1) (K 1 + (i + 1)) 0)) 3 (ps_fil (F 3) (K 1) (K 1 + (i + 1)) 0)) X) H := hP
            have hD : va_D A (mw cI cB cS cZ b K S ck cu (va_up (va_up F 2 (ps_fil (F 2) (K 1) (K 1 + (i + 1)) 0)) 3 (ps_fil (F 3) (K 1) (K 1 + (i + 1)) 0)) X) := hD
            refine lv_iinc (v := nI (i + 1)) (lv' := [(2, .int (nI (i + 1))), (0, .ref (b 0)), (1, .int (nI n0))]) hx hb d_Mod_values_67 hl (k := 0) rfl (nI_1 _) (by decide) rfl (fun ls hl => ?_)
            refine lv_goto (tgt := 38) hx hb d_Mod_values_70 (by decide) ?_
            exact ih (i + 1) _ _ ls (by omega) ⟨lv_sub hl [0, 1, 2] rfl, hP, hD, hS, by omega⟩
        · have c_4 : ¬ K 1 + n0 ≤ 32768 := fun q => c_4 ((nI_leI (by have h0 := hKb 0; have h1 := hKb 1; have h2 := hKb 2; have h3 := hKb 3; have h4 := hKb 4; have h5 := hKb 5; omega) (by have h0 := hKb 0; have h1 := hKb 1; have h2 := hKb 2; have h3 := hKb 3; have h4 := hKb 4; have h5 := hKb 5; omega)).mpr q)
          refine lv_bipush (v := (-3)) hx hb d_Mod_values_33 (by decide) ?_
          exact ps_iret hx hb hr hlocks hK hP hD hS (Nat.le_of_ble_eq_true rfl) (Nat.le_of_ble_eq_true rfl) d_Mod_values_35 (ps_cn hna (ps_cy (by omega) ⟨rfl, rfl⟩))
    · refine lv_iconst (v := (-1)) hx hb d_Mod_values_10 (by decide) ?_
      exact ps_iret hx hb hr hlocks hK hP hD hS (Nat.le_of_ble_eq_true rfl) (Nat.le_of_ble_eq_true rfl) d_Mod_values_11 (ps_cy (Or.inr (k2_lt c_2)) ⟨rfl, rfl⟩)

set_option maxHeartbeats 4000000 in
set_option maxRecDepth 100000 in
/-- PageStoreModel.bytes -/
theorem m_bytes (l : Launch) (dC : Nat → ClassId) (dI : Nat → Nat → Nat) (cI : ClassId) (tys : List (ClassId × FieldType)) (ht : tys[0]? = some (cI, FieldType.int)) (cB cS cZ : ClassId) (htB : tys[1]? = some (cB, FieldType.byte)) (htS : tys[2]? = some (cS, FieldType.short)) (htZ : tys[3]? = some (cZ, FieldType.boolean)) (b K : Nat → Nat) (S : Nat) (ck cu : Int32) (F X : Nat → Nat → Int32) (hKb : ∀ j, K j ≤ 65536) (hSb : S ≤ 15) (n : Int32) (hk0 : K 0 ≤ 16384) (hk1 : K 2 ≤ 65536) : ps_mI classes l y_Mod_bytes w_Mod_bytes ({ frames := 1, cells := 0, slots := 0, locals := 23 }) (dC, dI) tys [.ref (b 0), .int n] (mw cI cB cS cZ b K S ck cu F X) (fun r u => ps_c (n < 0 ∨ nI 65536 < n) (r = -1 ∧ u = mw cI cB cS cZ b K S ck cu F X) (ps_c (16384 ≤ K 0 ∨ 65536 < K 2 + n.toNatClampNeg) (r = -3 ∧ u = mw cI cB cS cZ b K S ck cu F X) (r = nI (K 0 + 1) ∧ u = mw cI cB cS cZ b (va_up (va_up K 2 (K 2 + n.toNatClampNeg)) 0 (K 0 + 1)) S ck cu (ps_Fr (ps_w F 1 (K 2) (K 2 + n.toNatClampNeg)) (K 0 + 1) (nI 2) (nI (K 2)) n) (ps_w X 0 (K 2) (K 2 + n.toNatClampNeg))))) := by
  refine ps_mI_of (by decide) rfl (Nat.le_of_ble_eq_true rfl) ?_
  intro p e s m below meth c A ls C0 hA hK hP hD hS hl
  obtain ⟨hx, hb, hr, hml, hts, hown, hlocks, hin⟩ := C0
  have hl : lv_has ls 3 [(0, .ref (b 0)), (1, .int n)] := hl
  have hP : va_P (dC, dI) classes (mw cI cB cS cZ b K S ck cu F X) s.heap := hP
  have hD : va_D A (mw cI cB cS cZ b K S ck cu F X) := hD
  refine lv_iload_n hx hb d_Mod_bytes_0 rfl (lv_at hl 1 rfl) ?_
  refine lv_if_lt (tgt := 10) hx hb d_Mod_bytes_1 (by decide) (fun c_1 => ?_) (fun c_1 => ?_)
  · refine lv_iconst (v := (-1)) hx hb d_Mod_bytes_10 (by decide) ?_
    exact ps_iret hx hb hr hlocks hK hP hD hS (Nat.le_of_ble_eq_true rfl) (Nat.le_of_ble_eq_true rfl) d_Mod_bytes_11 (ps_cy (Or.inl c_1) ⟨rfl, rfl⟩)
  · refine lv_iload_n hx hb d_Mod_bytes_4 rfl (lv_at hl 1 rfl) ?_
    refine lv_ldc (v := 65536) hx hb hown (hts _ tw_250) d_Mod_bytes_5 ?_
    refine ps_top (z := nI 65536) (by decide) ?_
    refine lv_icmp_le (tgt := 12) hx hb d_Mod_bytes_7 (by decide) (fun c_2 => ?_) (fun c_2 => ?_)
    · obtain ⟨n0, hn0, rfl⟩ := nI_of c_1
      have c_2 : n0 ≤ 65536 := (nI_leI hn0 (by decide)).mp c_2
      rw [nI_clamp hn0]
      have hna : ¬ (nI n0 < 0 ∨ nI 65536 < nI n0) := fun q => q.elim (nI_pos hn0) (nI_nlt (by omega) (by decide))
      refine lv_aload_n hx hb d_Mod_bytes_12 rfl (lv_at hl 0 rfl) ?_
      refine va_get (D := (dC, dI)) (ci := cMod) (v := .int (nI (K 0))) (C := R_Mod) (T := F_Mod) (N := 27) hx hb hts i_Mod hown hK hP 0 rfl rfl 3 (by decide) (hts _ tw_240) (fun _ h9 => h9) rfl d_Mod_bytes_13 ?_
      refine lv_sipush (v := nI 16384) hx hb d_Mod_bytes_16 (by decide) ?_
      refine lv_icmp_eq (tgt := 33) hx hb d_Mod_bytes_19 (by decide) (fun c_3 => ?_) (fun c_3 => ?_)
      · have c_3 : K 0 = 16384 := (nI_eq (by have h0 := hKb 0; have h1 := hKb 1; have h2 := hKb 2; have h3 := hKb 3; have h4 := hKb 4; have h5 := hKb 5; omega) (by have h0 := hKb 0; have h1 := hKb 1; have h2 := hKb 2; have h3 := hKb 3; have h4 := hKb 4; have h5 := hKb 5; omega)).mp c_3
        refine lv_bipush (v := (-3)) hx hb d_Mod_bytes_33 (by decide) ?_
        exact ps_iret hx hb hr hlocks hK hP hD hS (Nat.le_of_ble_eq_true rfl) (Nat.le_of_ble_eq_true rfl) d_Mod_bytes_35 (ps_cn hna (ps_cy (by omega) ⟨rfl, rfl⟩))
      · have c_3 : ¬ K 0 = 16384 := fun q => c_3 ((nI_eq (by have h0 := hKb 0; have h1 := hKb 1; have h2 := hKb 2; have h3 := hKb 3; have h4 := hKb 4; have h5 := hKb 5; omega) (by have h0 := hKb 0; have h1 := hKb 1; have h2 := hKb 2; have h3 := hKb 3; have h4 := hKb 4; have h5 := hKb 5; omega)).mpr q)
        refine lv_aload_n hx hb d_Mod_bytes_22 rfl (lv_at hl 0 rfl) ?_
        refine va_get (D := (dC, dI)) (ci := cMod) (v := .int (nI (K 2))) (C := R_Mod) (T := F_Mod) (N := 27) hx hb hts i_Mod hown hK hP 0 rfl rfl 8 (by decide) (hts _ tw_251) (fun _ h9 => h9) rfl d_Mod_bytes_23 ?_
        refine lv_iload_n hx hb d_Mod_bytes_26 rfl (lv_at hl 1 rfl) ?_
        refine lv_iadd hx hb d_Mod_bytes_27 ?_
        refine ps_top (z := nI (K 2 + n0)) (nI_add _ _) ?_
        refine lv_ldc (v := 65536) hx hb hown (hts _ tw_250) d_Mod_bytes_28 ?_
        refine ps_top (z := nI 65536) (by decide) ?_
        refine lv_icmp_le (tgt := 36) hx hb d_Mod_bytes_30 (by decide) (fun c_4 => ?_) (fun c_4 => ?_)
        · have c_4 : K 2 + n0 ≤ 65536 := (nI_leI (by have h0 := hKb 0; have h1 := hKb 1; have h2 := hKb 2; have h3 := hKb 3; have h4 := hKb 4; have h5 := hKb 5; omega) (by have h0 := hKb 0; have h1 := hKb 1; have h2 := hKb 2; have h3 := hKb 3; have h4 := hKb 4; have h5 := hKb 5; omega)).mp c_4
          refine lv_iconst (v := nI 0) hx hb d_Mod_bytes_36 (by decide) ?_
          refine lv_istore_n (lv' := [(2, .int (nI 0)), (0, .ref (b 0)), (1, .int (nI n0))]) hx hb d_Mod_bytes_37 rfl hl (by decide) rfl (fun ls hl => ?_)
          refine ps_loop (α := Nat) (fun i => 0) (fun i => 0) (fun i => n0 - i) (fun i H locs ls => lv_has ls 3 [(2, .int (nI i)), (0, .ref (b 0)), (1, .int (nI n0))] ∧ va_P (dC, dI) classes (mw cI cB cS cZ b K S ck cu F (va_up X 0 (ps_fil (X 0) (K 2) (K 2 + i) 0))) H ∧ va_D A (mw cI cB cS cZ b K S ck cu F (va_up X 0 (ps_fil (X 0) (K 2) (K 2 + i) 0))) ∧ va_S A s.heap H locs ∧ i ≤ n0) ?_ 0 _ _ ls ⟨lv_sub hl [0, 1, 2] rfl, (by have e0 : va_up X 0 (ps_fil (X 0) (K 2) (K 2 + 0) 0) = X := (funext fun j => by by_cases h : j = 0 <;> simp [va_up, h, ps_fil_0]); rw [e0]; exact hP), (by have e0 : va_up X 0 (ps_fil (X 0) (K 2) (K 2 + 0) 0) = X := (funext fun j => by by_cases h : j = 0 <;> simp [va_up, h, ps_fil_0]); rw [e0]; exact hD), hS, Nat.zero_le _⟩
          intro i H locs ls hI ih
          obtain ⟨hl, hP, hD, hS, hin⟩ := hI
          refine lv_iload_n hx hb d_Mod_bytes_38 rfl (lv_at hl 0 rfl) ?_
          refine lv_iload_n hx hb d_Mod_bytes_39 rfl (lv_at hl 2 rfl) ?_
          refine lv_icmp_ge (tgt := 61) hx hb d_Mod_bytes_40 (by decide) (fun c_5 => ?_) (fun c_5 => ?_)
          · have c_5 : n0 ≤ i := (nI_leI (by have h0 := hKb 0; have h1 := hKb 1; have h2 := hKb 2; have h3 := hKb 3; have h4 := hKb 4; have h5 := hKb 5; omega) (by have h0 := hKb 0; have h1 := hKb 1; have h2 := hKb 2; have h3 := hKb 3; have h4 := hKb 4; have h5 := hKb 5; omega)).mp c_5
            have hi9 : i = n0 := by omega
            subst hi9
            refine lv_aload_n hx hb d_Mod_bytes_61 rfl (lv_at hl 1 rfl) ?_
            refine lv_dup hx hb d_Mod_bytes_62 rfl ?_
            refine va_get (D := (dC, dI)) (ci := cMod) (v := .int (nI (K 2))) (C := R_Mod) (T := F_Mod) (N := 27) hx hb hts i_Mod hown hK hP 0 rfl rfl 8 (by decide) (hts _ tw_251) (fun _ h9 => h9) rfl d_Mod_bytes_63 ?_
            refine lv_iload_n hx hb d_Mod_bytes_66 rfl (lv_at hl 2 rfl) ?_
            refine lv_iadd hx hb d_Mod_bytes_67 ?_
            refine ps_top (z := nI (K 2 + i)) (nI_add _ _) ?_
            refine va_put (D := (dC, dI)) (ci := cMod) (v := .int (nI (K 2 + i))) (ty := .int) (C := R_Mod) (T := F_Mod) (N := 27) hx hb hts i_Mod t_Mod t_Mod_ok n_Mod hown hK hP hD hS 0 rfl rfl 8 (by decide) (hts _ tw_251) (fun _ h9 => h9) rfl (by decide +kernel) rfl rfl (Nat.le_of_ble_eq_true rfl) d_Mod_bytes_68 (fun H locs hP hD hS => ?_)
            have hP : va_P (dC, dI) classes (mw cI cB cS cZ b (va_up K 2 (K 2 + i)) S ck cu F (va_up X 0 (ps_fil (X 0) (K 2) (K 2 + i) 0))) H := hP
            have hD : va_D A (mw cI cB cS cZ b (va_up K 2 (K 2 + i)) S ck cu F (va_up X 0 (ps_fil (X 0) (K 2) (K 2 + i) 0))) := hD
            refine lv_aload_n hx hb d_Mod_bytes_71 rfl (lv_at hl 1 rfl) ?_
            refine lv_iconst (v := nI 2) hx hb d_Mod_bytes_72 (by decide) ?_
            refine lv_aload_n hx hb d_Mod_bytes_73 rfl (lv_at hl 1 rfl) ?_
            refine va_get (D := (dC, dI)) (ci := cMod) (v := .int (nI (K 2 + i))) (C := R_Mod) (T := F_Mod) (N := 27) hx hb hts i_Mod hown hK hP 0 rfl rfl 8 (by decide) (hts _ tw_251) (fun _ h9 => h9) rfl d_Mod_bytes_74 ?_
            refine lv_iload_n hx hb d_Mod_bytes_77 rfl (lv_at hl 2 rfl) ?_
            refine lv_isub hx hb d_Mod_bytes_78 ?_
            refine ps_top (z := nI (K 2)) (by rw [pk_sub (by omega)]; congr 1; omega) ?_
            refine lv_iload_n hx hb d_Mod_bytes_79 rfl (lv_at hl 2 rfl) ?_
            refine ps_afterI (wc := (mw cI cB cS cZ b (va_up K 2 (K 2 + i)) S ck cu F (va_up X 0 (ps_fil (X 0) (K 2) (K 2 + i) 0)))) (wr := []) hP hD hS hA [0, 1, 2, 3, 4, 5, 6, 7, 8, 9, 10, 11, 12, 13, 14, 15, 16, 17, 18] [] rfl rfl (by decide) (by decide) (ps_runVI ⟨hx, hb, hml, hown, hts⟩ (m_row l dC dI cI tys ht cB cS cZ htB htS htZ b (va_up K 2 (K 2 + i)) S ck cu F (va_up X 0 (ps_fil (X 0) (K 2) (K 2 + i) 0)) (ps_kb (x := K 2 + i) hKb (by omega)) hSb (nI 2) (nI (K 2)) (nI i) (show K 0 < 16384 by omega) (mo_b8 (by decide))) (ps_cwV ps_gd 3 hts tw_247 k_Mod_row e_Mod_row ⟨Nat.le_of_ble_eq_true rfl, Nat.le_of_ble_eq_true rfl⟩) hK hP hD [0, 1, 2, 3, 4, 5, 6, 7, 8, 9, 10, 11, 12, 13, 14, 15, 16, 17, 18] (by decide) rfl 0 cMod rfl rfl rfl hl.1 rfl (Nat.le_of_ble_eq_true rfl) d_Mod_bytes_80 ⟨Nat.zero_le _, Nat.zero_le _⟩) (fun r_7 u_6 H locs hu_6 hP hD hS => ?_)
            obtain ⟨hr_7, hu_6⟩ := hu_6
            subst hr_7
            subst hu_6
            have hP : va_P (dC, dI) classes (mw cI cB cS cZ b (va_up (va_up K 2 (K 2 + i)) 0 (K 0 + 1)) S ck cu (va_up (va_up (va_up F 4 (upd (F 4) (K 0 + 1) (nI 2))) 5 (upd (F 5) (K 0 + 1) (nI (K 2)))) 6 (upd (F 6) (K 0 + 1) (nI i))) (va_up X 0 (ps_fil (X 0) (K 2) (K 2 + i) 0))) H := hP
            have hD : va_D A (mw cI cB cS cZ b (va_up (va_up K 2 (K 2 + i)) 0 (K 0 + 1)) S ck cu (va_up (va_up (va_up F 4 (upd (F 4) (K 0 + 1) (nI 2))) 5 (upd (F 5) (K 0 + 1) (nI (K 2)))) 6 (upd (F 6) (K 0 + 1) (nI i))) (va_up X 0 (ps_fil (X 0) (K 2) (K 2 + i) 0))) := hD
            exact ps_iret hx hb hr hlocks hK hP hD hS (Nat.le_of_ble_eq_true rfl) (Nat.le_of_ble_eq_true rfl) d_Mod_bytes_83 (ps_cn hna (ps_cn (by omega) ⟨rfl, rfl⟩))
          · have c_5 : ¬ n0 ≤ i := fun q => c_5 ((nI_leI (by have h0 := hKb 0; have h1 := hKb 1; have h2 := hKb 2; have h3 := hKb 3; have h4 := hKb 4; have h5 := hKb 5; omega) (by have h0 := hKb 0; have h1 := hKb 1; have h2 := hKb 2; have h3 := hKb 3; have h4 := hKb 4; have h5 := hKb 5; omega)).mpr q)
            refine lv_aload_n hx hb d_Mod_bytes_43 rfl (lv_at hl 1 rfl) ?_
            refine va_get (D := (dC, dI)) (ci := cMod) (v := .ref (b 6)) (C := R_Mod) (T := F_Mod) (N := 27) hx hb hts i_Mod hown hK hP 0 rfl rfl 7 (by decide) (hts _ tw_252) (fun _ h9 => h9) rfl d_Mod_bytes_44 ?_
            refine lv_aload_n hx hb d_Mod_bytes_47 rfl (lv_at hl 1 rfl) ?_
            refine va_get (D := (dC, dI)) (ci := cMod) (v := .int (nI (K 2))) (C := R_Mod) (T := F_Mod) (N := 27) hx hb hts i_Mod hown hK hP 0 rfl rfl 8 (by decide) (hts _ tw_251) (fun _ h9 => h9) rfl d_Mod_bytes_48 ?_
            refine lv_iload_n hx hb d_Mod_bytes_51 rfl (lv_at hl 0 rfl) ?_
            refine lv_iadd hx hb d_Mod_bytes_52 ?_
            refine ps_top (z := nI (K 2 + i)) (nI_add _ _) ?_
            refine lv_iconst (v := 0) hx hb d_Mod_bytes_53 (by decide) ?_
            refine va_bast (f := ps_fil (X 0) (K 2) (K 2 + i) 0) hx hb hK hP hD hS 6 1 rfl htB (vp_in_nI (show K 2 + i < 65536 from by omega) (by decide)) d_Mod_bytes_54 (fun H locs hP hD hS => ?_)
            rw [nI_clamp (show K 2 + i < 2 ^ 31 from by omega), (show vp_nar .byte 0 = 0 by decide)] at hP hD
            rw [ps_fil_s (by omega)] at hP hD
            have hP : va_P (dC, dI) classes (mw cI cB cS cZ b K S ck cu F (va_up X 0 (ps_fil (X 0) (K 2) (K 2 + (i + 1)) 0))) H := hP
            have hD : va_D A (mw cI cB cS cZ b K S ck cu F (va_up X 0 (ps_fil (X 0) (K 2) (K 2 + (i + 1)) 0))) := hD
            refine lv_iinc (v := nI (i + 1)) (lv' := [(2, .int (nI (i + 1))), (0, .ref (b 0)), (1, .int (nI n0))]) hx hb d_Mod_bytes_55 hl (k := 0) rfl (nI_1 _) (by decide) rfl (fun ls hl => ?_)
            refine lv_goto (tgt := 38) hx hb d_Mod_bytes_58 (by decide) ?_
            exact ih (i + 1) _ _ ls (by omega) ⟨lv_sub hl [0, 1, 2] rfl, hP, hD, hS, by omega⟩
        · have c_4 : ¬ K 2 + n0 ≤ 65536 := fun q => c_4 ((nI_leI (by have h0 := hKb 0; have h1 := hKb 1; have h2 := hKb 2; have h3 := hKb 3; have h4 := hKb 4; have h5 := hKb 5; omega) (by have h0 := hKb 0; have h1 := hKb 1; have h2 := hKb 2; have h3 := hKb 3; have h4 := hKb 4; have h5 := hKb 5; omega)).mpr q)
          refine lv_bipush (v := (-3)) hx hb d_Mod_bytes_33 (by decide) ?_
          exact ps_iret hx hb hr hlocks hK hP hD hS (Nat.le_of_ble_eq_true rfl) (Nat.le_of_ble_eq_true rfl) d_Mod_bytes_35 (ps_cn hna (ps_cy (by omega) ⟨rfl, rfl⟩))
    · refine lv_iconst (v := (-1)) hx hb d_Mod_bytes_10 (by decide) ?_
      exact ps_iret hx hb hr hlocks hK hP hD hS (Nat.le_of_ble_eq_true rfl) (Nat.le_of_ble_eq_true rfl) d_Mod_bytes_11 (ps_cy (Or.inr (k2_lt c_2)) ⟨rfl, rfl⟩)

set_option maxHeartbeats 4000000 in
set_option maxRecDepth 100000 in
/-- PageStoreModel.sort -/
theorem m_sort (l : Launch) (dC : Nat → ClassId) (dI : Nat → Nat → Nat) (cI : ClassId) (tys : List (ClassId × FieldType)) (ht : tys[0]? = some (cI, FieldType.int)) (cB cS cZ : ClassId) (htB : tys[1]? = some (cB, FieldType.byte)) (htS : tys[2]? = some (cS, FieldType.short)) (htZ : tys[3]? = some (cZ, FieldType.boolean)) (b K : Nat → Nat) (S : Nat) (ck cu : Int32) (F X : Nat → Nat → Int32) (hKb : ∀ j, K j ≤ 65536) (hSb : S ≤ 15) (row : Int32) (hk0 : K 0 ≤ 16384) : ps_mI classes l y_Mod_sort w_Mod_sort ({ frames := 1, cells := 0, slots := 0, locals := 21 }) (dC, dI) tys [.ref (b 0), .int row] (mw cI cB cS cZ b K S ck cu F X) (fun r u => u = mw cI cB cS cZ b K S ck cu F X ∧ ps_c (nI 1 ≤ row ∧ row ≤ nI (K 0)) (r = F 4 row.toNatClampNeg) (r = -1)) := by
  refine ps_mI_of (by decide) rfl (Nat.le_of_ble_eq_true rfl) ?_
  intro p e s m below meth c A ls C0 hA hK hP hD hS hl
  obtain ⟨hx, hb, hr, hml, hts, hown, hlocks, hin⟩ := C0
  have hl : lv_has ls 2 [(0, .ref (b 0)), (1, .int row)] := hl
  have hP : va_P (dC, dI) classes (mw cI cB cS cZ b K S ck cu F X) s.heap := hP
  have hD : va_D A (mw cI cB cS cZ b K S ck cu F X) := hD
  refine lv_aload_n hx hb d_Mod_sort_0 rfl (lv_at hl 0 rfl) ?_
  refine lv_iload_n hx hb d_Mod_sort_1 rfl (lv_at hl 1 rfl) ?_
  refine ps_readI (wc := (mw cI cB cS cZ b K S ck cu F X)) hP hD hS hA [0, 1, 2, 3, 4, 5, 6, 7, 8, 9, 10, 11, 12, 13, 14, 15, 16, 17, 18] rfl (fun _ _ h => h.1) (ps_runVI ⟨hx, hb, hml, hown, hts⟩ (m_isRow l dC dI cI tys ht cB cS cZ htB htS htZ b K S ck cu F X hKb hSb row) (ps_cwV ps_gd 1 hts tw_253 k_Mod_isRow e_Mod_isRow ⟨Nat.le_of_ble_eq_true rfl, Nat.le_of_ble_eq_true rfl⟩) hK hP hD [0, 1, 2, 3, 4, 5, 6, 7, 8, 9, 10, 11, 12, 13, 14, 15, 16, 17, 18] (by decide) rfl 0 cMod rfl rfl rfl hl.1 rfl (Nat.le_of_ble_eq_true rfl) d_Mod_sort_2 ⟨Nat.zero_le _, Nat.zero_le _⟩) (fun r_1 H locs hr_1 hP hS => ?_)
  obtain ⟨-, hr_1⟩ := hr_1
  subst hr_1
  refine lv_if_eq (tgt := 17) hx hb d_Mod_sort_5 (by decide) (fun c_2 => ?_) (fun c_2 => ?_)
  · have c_2 := ps_ite0 c_2
    refine lv_iconst (v := (-1)) hx hb d_Mod_sort_17 (by decide) ?_
    exact ps_iret hx hb hr hlocks hK hP hD hS (Nat.le_of_ble_eq_true rfl) (Nat.le_of_ble_eq_true rfl) d_Mod_sort_18 (⟨rfl, ps_cn c_2 rfl⟩)
  · have c_2 := ps_ite1 c_2
    have hc := c_2
    obtain ⟨j, hj1, hj2, rfl⟩ := ps_rng (by have h0 := hKb 0; have h1 := hKb 1; have h2 := hKb 2; have h3 := hKb 3; have h4 := hKb 4; have h5 := hKb 5; omega) c_2
    have hj3 : j < 2 ^ 31 := by have h0 := hKb 0; have h1 := hKb 1; have h2 := hKb 2; have h3 := hKb 3; have h4 := hKb 4; have h5 := hKb 5; omega
    rw [nI_clamp hj3]
    refine lv_aload_n hx hb d_Mod_sort_8 rfl (lv_at hl 0 rfl) ?_
    refine va_get (D := (dC, dI)) (ci := cMod) (v := .ref (b 1)) (C := R_Mod) (T := F_Mod) (N := 27) hx hb hts i_Mod hown hK hP 0 rfl rfl 0 (by decide) (hts _ tw_242) (fun _ h9 => h9) rfl d_Mod_sort_9 ?_
    refine lv_iload_n hx hb d_Mod_sort_12 rfl (lv_at hl 1 rfl) ?_
    refine va_bald (f := F 4) hx hb hK hP 1 1 rfl htB (vp_in_nI (show j < 16385 from by omega) (by decide)) d_Mod_sort_13 ?_
    refine ps_top (z := (F 4) j) (by rw [nI_clamp (show j < 2 ^ 31 from by omega)]) ?_
    refine lv_goto (tgt := 18) hx hb d_Mod_sort_14 (by decide) ?_
    exact ps_iret hx hb hr hlocks hK hP hD hS (Nat.le_of_ble_eq_true rfl) (Nat.le_of_ble_eq_true rfl) d_Mod_sort_18 (⟨rfl, ps_cy hc rfl⟩)

set_option maxHeartbeats 4000000 in
set_option maxRecDepth 100000 in
/-- PageStoreModel.length -/
theorem m_length (l : Launch) (dC : Nat → ClassId) (dI : Nat → Nat → Nat) (cI : ClassId) (tys : List (ClassId × FieldType)) (ht : tys[0]? = some (cI, FieldType.int)) (cB cS cZ : ClassId) (htB : tys[1]? = some (cB, FieldType.byte)) (htS : tys[2]? = some (cS, FieldType.short)) (htZ : tys[3]? = some (cZ, FieldType.boolean)) (b K : Nat → Nat) (S : Nat) (ck cu : Int32) (F X : Nat → Nat → Int32) (hKb : ∀ j, K j ≤ 65536) (hSb : S ≤ 15) (row : Int32) (hk0 : K 0 ≤ 16384) : ps_mI classes l y_Mod_length w_Mod_length ({ frames := 1, cells := 0, slots := 0, locals := 21 }) (dC, dI) tys [.ref (b 0), .int row] (mw cI cB cS cZ b K S ck cu F X) (fun r u => u = mw cI cB cS cZ b K S ck cu F X ∧ ps_c (nI 1 ≤ row ∧ row ≤ nI (K 0)) (r = F 6 row.toNatClampNeg) (r = -1)) := by
  refine ps_mI_of (by decide) rfl (Nat.le_of_ble_eq_true rfl) ?_
  intro p e s m below meth c A ls C0 hA hK hP hD hS hl
  obtain ⟨hx, hb, hr, hml, hts, hown, hlocks, hin⟩ := C0
  have hl : lv_has ls 2 [(0, .ref (b 0)), (1, .int row)] := hl
  have hP : va_P (dC, dI) classes (mw cI cB cS cZ b K S ck cu F X) s.heap := hP
  have hD : va_D A (mw cI cB cS cZ b K S ck cu F X) := hD
  refine lv_aload_n hx hb d_Mod_length_0 rfl (lv_at hl 0 rfl) ?_
  refine lv_iload_n hx hb d_Mod_length_1 rfl (lv_at hl 1 rfl) ?_
  refine ps_readI (wc := (mw cI cB cS cZ b K S ck cu F X)) hP hD hS hA [0, 1, 2, 3, 4, 5, 6, 7, 8, 9, 10, 11, 12, 13, 14, 15, 16, 17, 18] rfl (fun _ _ h => h.1) (ps_runVI ⟨hx, hb, hml, hown, hts⟩ (m_isRow l dC dI cI tys ht cB cS cZ htB htS htZ b K S ck cu F X hKb hSb row) (ps_cwV ps_gd 1 hts tw_253 k_Mod_isRow e_Mod_isRow ⟨Nat.le_of_ble_eq_true rfl, Nat.le_of_ble_eq_true rfl⟩) hK hP hD [0, 1, 2, 3, 4, 5, 6, 7, 8, 9, 10, 11, 12, 13, 14, 15, 16, 17, 18] (by decide) rfl 0 cMod rfl rfl rfl hl.1 rfl (Nat.le_of_ble_eq_true rfl) d_Mod_length_2 ⟨Nat.zero_le _, Nat.zero_le _⟩) (fun r_1 H locs hr_1 hP hS => ?_)
  obtain ⟨-, hr_1⟩ := hr_1
  subst hr_1
  refine lv_if_eq (tgt := 17) hx hb d_Mod_length_5 (by decide) (fun c_2 => ?_) (fun c_2 => ?_)
  · have c_2 := ps_ite0 c_2
    refine lv_iconst (v := (-1)) hx hb d_Mod_length_17 (by decide) ?_
    exact ps_iret hx hb hr hlocks hK hP hD hS (Nat.le_of_ble_eq_true rfl) (Nat.le_of_ble_eq_true rfl) d_Mod_length_18 (⟨rfl, ps_cn c_2 rfl⟩)
  · have c_2 := ps_ite1 c_2
    have hc := c_2
    obtain ⟨j, hj1, hj2, rfl⟩ := ps_rng (by have h0 := hKb 0; have h1 := hKb 1; have h2 := hKb 2; have h3 := hKb 3; have h4 := hKb 4; have h5 := hKb 5; omega) c_2
    have hj3 : j < 2 ^ 31 := by have h0 := hKb 0; have h1 := hKb 1; have h2 := hKb 2; have h3 := hKb 3; have h4 := hKb 4; have h5 := hKb 5; omega
    rw [nI_clamp hj3]
    refine lv_aload_n hx hb d_Mod_length_8 rfl (lv_at hl 0 rfl) ?_
    refine va_get (D := (dC, dI)) (ci := cMod) (v := .ref (b 3)) (C := R_Mod) (T := F_Mod) (N := 27) hx hb hts i_Mod hown hK hP 0 rfl rfl 2 (by decide) (hts _ tw_244) (fun _ h9 => h9) rfl d_Mod_length_9 ?_
    refine lv_iload_n hx hb d_Mod_length_12 rfl (lv_at hl 1 rfl) ?_
    refine va_iald (f := F 6) hx hb hK hP 3 0 rfl ht (vp_in_nI (show j < 16385 from by omega) (by decide)) d_Mod_length_13 ?_
    refine ps_top (z := (F 6) j) (by rw [nI_clamp (show j < 2 ^ 31 from by omega)]) ?_
    refine lv_goto (tgt := 18) hx hb d_Mod_length_14 (by decide) ?_
    exact ps_iret hx hb hr hlocks hK hP hD hS (Nat.le_of_ble_eq_true rfl) (Nat.le_of_ble_eq_true rfl) d_Mod_length_18 (⟨rfl, ps_cy hc rfl⟩)

set_option maxHeartbeats 4000000 in
set_option maxRecDepth 100000 in
/-- PageStoreModel.part -/
theorem m_part (l : Launch) (dC : Nat → ClassId) (dI : Nat → Nat → Nat) (cI : ClassId) (tys : List (ClassId × FieldType)) (ht : tys[0]? = some (cI, FieldType.int)) (cB cS cZ : ClassId) (htB : tys[1]? = some (cB, FieldType.byte)) (htS : tys[2]? = some (cS, FieldType.short)) (htZ : tys[3]? = some (cZ, FieldType.boolean)) (b K : Nat → Nat) (S : Nat) (ck cu : Int32) (F X : Nat → Nat → Int32) (hKb : ∀ j, K j ≤ 65536) (hSb : S ≤ 15) (row fr n : Int32) (hk0 : K 0 ≤ 16384) (hrw : ps_rows K F) : ps_mI classes l y_Mod_part w_Mod_part ({ frames := 1, cells := 0, slots := 0, locals := 23 }) (dC, dI) tys [.ref (b 0), .int row, .int fr, .int n] (mw cI cB cS cZ b K S ck cu F X) (fun r u => ps_c (¬ ((nI 1 ≤ row ∧ row ≤ nI (K 0)) ∧ ¬ fr < 0 ∧ ¬ n < 0 ∧ fr.toNatClampNeg + n.toNatClampNeg ≤ (F 6 row.toNatClampNeg).toNatClampNeg)) (r = -1 ∧ u = mw cI cB cS cZ b K S ck cu F X) (ps_c (16384 ≤ K 0) (r = -3 ∧ u = mw cI cB cS cZ b K S ck cu F X) (r = nI (K 0 + 1) ∧ u = mw cI cB cS cZ b (va_up K 0 (K 0 + 1)) S ck cu (ps_Fr F (K 0 + 1) (F 4 row.toNatClampNeg) (F 5 row.toNatClampNeg + fr) n) X))) := by
  refine ps_mI_of (by decide) rfl (Nat.le_of_ble_eq_true rfl) ?_
  intro p e s m below meth c A ls C0 hA hK hP hD hS hl
  obtain ⟨hx, hb, hr, hml, hts, hown, hlocks, hin⟩ := C0
  have hl : lv_has ls 4 [(0, .ref (b 0)), (1, .int row), (2, .int fr), (3, .int n)] := hl
  have hP : va_P (dC, dI) classes (mw cI cB cS cZ b K S ck cu F X) s.heap := hP
  have hD : va_D A (mw cI cB cS cZ b K S ck cu F X) := hD
  refine lv_aload_n hx hb d_Mod_part_0 rfl (lv_at hl 0 rfl) ?_
  refine lv_iload_n hx hb d_Mod_part_1 rfl (lv_at hl 1 rfl) ?_
  refine ps_readI (wc := (mw cI cB cS cZ b K S ck cu F X)) hP hD hS hA [0, 1, 2, 3, 4, 5, 6, 7, 8, 9, 10, 11, 12, 13, 14, 15, 16, 17, 18] rfl (fun _ _ h => h.1) (ps_runVI ⟨hx, hb, hml, hown, hts⟩ (m_isRow l dC dI cI tys ht cB cS cZ htB htS htZ b K S ck cu F X hKb hSb row) (ps_cwV ps_gd 1 hts tw_253 k_Mod_isRow e_Mod_isRow ⟨Nat.le_of_ble_eq_true rfl, Nat.le_of_ble_eq_true rfl⟩) hK hP hD [0, 1, 2, 3, 4, 5, 6, 7, 8, 9, 10, 11, 12, 13, 14, 15, 16, 17, 18] (by decide) rfl 0 cMod rfl rfl rfl hl.1 rfl (Nat.le_of_ble_eq_true rfl) d_Mod_part_2 ⟨Nat.zero_le _, Nat.zero_le _⟩) (fun r_1 H locs hr_1 hP hS => ?_)
  obtain ⟨-, hr_1⟩ := hr_1
  subst hr_1
  refine lv_if_eq (tgt := 38) hx hb d_Mod_part_5 (by decide) (fun c_2 => ?_) (fun c_2 => ?_)
  · have c_2 := ps_ite0 c_2
    refine lv_iconst (v := (-1)) hx hb d_Mod_part_38 (by decide) ?_
    exact ps_iret hx hb hr hlocks hK hP hD hS (Nat.le_of_ble_eq_true rfl) (Nat.le_of_ble_eq_true rfl) d_Mod_part_39 (ps_cy (fun q => c_2 q.1) ⟨rfl, rfl⟩)
  · have c_2 := ps_ite1 c_2
    have hc := c_2
    obtain ⟨j, hj1, hj2, rfl⟩ := ps_rng (by have h0 := hKb 0; have h1 := hKb 1; have h2 := hKb 2; have h3 := hKb 3; have h4 := hKb 4; have h5 := hKb 5; omega) c_2
    have hj3 : j < 2 ^ 31 := by have h0 := hKb 0; have h1 := hKb 1; have h2 := hKb 2; have h3 := hKb 3; have h4 := hKb 4; have h5 := hKb 5; omega
    rw [nI_clamp hj3]
    obtain ⟨s0, l0, e5, e6, hs⟩ := hrw j hj1 hj2
    have hl0 : l0 ≤ 65536 := by have b1 := hKb 1; have b2 := hKb 2; rcases hs with q | q <;> omega
    have h48 : (F 4 j).toInt8.toInt32 = F 4 j := by rcases hs with ⟨q, -⟩ | ⟨q, -⟩ <;> rw [q] <;> exact mo_b8 (by decide)
    refine lv_iload_n hx hb d_Mod_part_8 rfl (lv_at hl 2 rfl) ?_
    refine lv_if_lt (tgt := 38) hx hb d_Mod_part_9 (by decide) (fun c_3 => ?_) (fun c_3 => ?_)
    · refine lv_iconst (v := (-1)) hx hb d_Mod_part_38 (by decide) ?_
      exact ps_iret hx hb hr hlocks hK hP hD hS (Nat.le_of_ble_eq_true rfl) (Nat.le_of_ble_eq_true rfl) d_Mod_part_39 (ps_cy (fun q => q.2.1 c_3) ⟨rfl, rfl⟩)
    · refine lv_iload_n hx hb d_Mod_part_12 rfl (lv_at hl 3 rfl) ?_
      refine lv_if_lt (tgt := 38) hx hb d_Mod_part_13 (by decide) (fun c_4 => ?_) (fun c_4 => ?_)
      · refine lv_iconst (v := (-1)) hx hb d_Mod_part_38 (by decide) ?_
        exact ps_iret hx hb hr hlocks hK hP hD hS (Nat.le_of_ble_eq_true rfl) (Nat.le_of_ble_eq_true rfl) d_Mod_part_39 (ps_cy (fun q => q.2.2.1 c_4) ⟨rfl, rfl⟩)
      · obtain ⟨f0, hf0, rfl⟩ := nI_of c_3
        obtain ⟨n0, hn0, rfl⟩ := nI_of c_4
        rw [e6, nI_clamp hf0, nI_clamp hn0, nI_clamp (show l0 < 2 ^ 31 by omega)]
        refine lv_iload_n hx hb d_Mod_part_16 rfl (lv_at hl 2 rfl) ?_
        refine lv_aload_n hx hb d_Mod_part_17 rfl (lv_at hl 0 rfl) ?_
        refine va_get (D := (dC, dI)) (ci := cMod) (v := .ref (b 3)) (C := R_Mod) (T := F_Mod) (N := 27) hx hb hts i_Mod hown hK hP 0 rfl rfl 2 (by decide) (hts _ tw_244) (fun _ h9 => h9) rfl d_Mod_part_18 ?_
        refine lv_iload_n hx hb d_Mod_part_21 rfl (lv_at hl 1 rfl) ?_
        refine va_iald (f := F 6) hx hb hK hP 3 0 rfl ht (vp_in_nI (show j < 16385 from by omega) (by decide)) d_Mod_part_22 ?_
        refine ps_top (z := (F 6) j) (by rw [nI_clamp (show j < 2 ^ 31 from by omega)]) ?_
        refine ps_top (z := nI l0) e6 ?_
        refine lv_icmp_gt (tgt := 38) hx hb d_Mod_part_23 (by decide) (fun c_5 => ?_) (fun c_5 => ?_)
        · have c_5 : l0 < f0 := (nI_ltI (by have h0 := hKb 0; have h1 := hKb 1; have h2 := hKb 2; have h3 := hKb 3; have h4 := hKb 4; have h5 := hKb 5; omega) (by have h0 := hKb 0; have h1 := hKb 1; have h2 := hKb 2; have h3 := hKb 3; have h4 := hKb 4; have h5 := hKb 5; omega)).mp c_5
          refine lv_iconst (v := (-1)) hx hb d_Mod_part_38 (by decide) ?_
          exact ps_iret hx hb hr hlocks hK hP hD hS (Nat.le_of_ble_eq_true rfl) (Nat.le_of_ble_eq_true rfl) d_Mod_part_39 (ps_cy (fun q => absurd q.2.2.2 (by omega)) ⟨rfl, rfl⟩)
        · have c_5 : ¬ l0 < f0 := fun q => c_5 ((nI_ltI (by have h0 := hKb 0; have h1 := hKb 1; have h2 := hKb 2; have h3 := hKb 3; have h4 := hKb 4; have h5 := hKb 5; omega) (by have h0 := hKb 0; have h1 := hKb 1; have h2 := hKb 2; have h3 := hKb 3; have h4 := hKb 4; have h5 := hKb 5; omega)).mpr q)
          refine lv_iload_n hx hb d_Mod_part_26 rfl (lv_at hl 3 rfl) ?_
          refine lv_aload_n hx hb d_Mod_part_27 rfl (lv_at hl 0 rfl) ?_
          refine va_get (D := (dC, dI)) (ci := cMod) (v := .ref (b 3)) (C := R_Mod) (T := F_Mod) (N := 27) hx hb hts i_Mod hown hK hP 0 rfl rfl 2 (by decide) (hts _ tw_244) (fun _ h9 => h9) rfl d_Mod_part_28 ?_
          refine lv_iload_n hx hb d_Mod_part_31 rfl (lv_at hl 1 rfl) ?_
          refine va_iald (f := F 6) hx hb hK hP 3 0 rfl ht (vp_in_nI (show j < 16385 from by omega) (by decide)) d_Mod_part_32 ?_
          refine ps_top (z := (F 6) j) (by rw [nI_clamp (show j < 2 ^ 31 from by omega)]) ?_
          refine ps_top (z := nI l0) e6 ?_
          refine lv_iload_n hx hb d_Mod_part_33 rfl (lv_at hl 2 rfl) ?_
          refine lv_isub hx hb d_Mod_part_34 ?_
          refine ps_top (z := nI (l0 - f0)) (pk_sub (by have h0 := hKb 0; have h1 := hKb 1; have h2 := hKb 2; have h3 := hKb 3; have h4 := hKb 4; have h5 := hKb 5; omega)) ?_
          refine lv_icmp_le (tgt := 40) hx hb d_Mod_part_35 (by decide) (fun c_6 => ?_) (fun c_6 => ?_)
          · have c_6 : n0 ≤ l0 - f0 := (nI_leI (by have h0 := hKb 0; have h1 := hKb 1; have h2 := hKb 2; have h3 := hKb 3; have h4 := hKb 4; have h5 := hKb 5; omega) (by have h0 := hKb 0; have h1 := hKb 1; have h2 := hKb 2; have h3 := hKb 3; have h4 := hKb 4; have h5 := hKb 5; omega)).mp c_6
            have hok : ¬ ¬ ((nI 1 ≤ nI j ∧ nI j ≤ nI (K 0)) ∧ ¬ nI f0 < 0 ∧ ¬ nI n0 < 0 ∧ f0 + n0 ≤ l0) := fun q => q ⟨hc, nI_pos hf0, nI_pos hn0, by omega⟩
            refine lv_aload_n hx hb d_Mod_part_40 rfl (lv_at hl 0 rfl) ?_
            refine va_get (D := (dC, dI)) (ci := cMod) (v := .int (nI (K 0))) (C := R_Mod) (T := F_Mod) (N := 27) hx hb hts i_Mod hown hK hP 0 rfl rfl 3 (by decide) (hts _ tw_240) (fun _ h9 => h9) rfl d_Mod_part_41 ?_
            refine lv_sipush (v := nI 16384) hx hb d_Mod_part_44 (by decide) ?_
            refine lv_icmp_ne (tgt := 55) hx hb d_Mod_part_47 (by decide) (fun c_7 => ?_) (fun c_7 => ?_)
            · have c_7 : ¬ K 0 = 16384 := fun q => c_7 ((nI_eq (by have h0 := hKb 0; have h1 := hKb 1; have h2 := hKb 2; have h3 := hKb 3; have h4 := hKb 4; have h5 := hKb 5; omega) (by have h0 := hKb 0; have h1 := hKb 1; have h2 := hKb 2; have h3 := hKb 3; have h4 := hKb 4; have h5 := hKb 5; omega)).mpr q)
              refine lv_aload_n hx hb d_Mod_part_55 rfl (lv_at hl 0 rfl) ?_
              refine lv_aload_n hx hb d_Mod_part_56 rfl (lv_at hl 0 rfl) ?_
              refine va_get (D := (dC, dI)) (ci := cMod) (v := .ref (b 1)) (C := R_Mod) (T := F_Mod) (N := 27) hx hb hts i_Mod hown hK hP 0 rfl rfl 0 (by decide) (hts _ tw_242) (fun _ h9 => h9) rfl d_Mod_part_57 ?_
              refine lv_iload_n hx hb d_Mod_part_60 rfl (lv_at hl 1 rfl) ?_
              refine va_bald (f := F 4) hx hb hK hP 1 1 rfl htB (vp_in_nI (show j < 16385 from by omega) (by decide)) d_Mod_part_61 ?_
              refine ps_top (z := (F 4) j) (by rw [nI_clamp (show j < 2 ^ 31 from by omega)]) ?_
              refine lv_aload_n hx hb d_Mod_part_62 rfl (lv_at hl 0 rfl) ?_
              refine va_get (D := (dC, dI)) (ci := cMod) (v := .ref (b 2)) (C := R_Mod) (T := F_Mod) (N := 27) hx hb hts i_Mod hown hK hP 0 rfl rfl 1 (by decide) (hts _ tw_243) (fun _ h9 => h9) rfl d_Mod_part_63 ?_
              refine lv_iload_n hx hb d_Mod_part_66 rfl (lv_at hl 1 rfl) ?_
              refine va_iald (f := F 5) hx hb hK hP 2 0 rfl ht (vp_in_nI (show j < 16385 from by omega) (by decide)) d_Mod_part_67 ?_
              refine ps_top (z := (F 5) j) (by rw [nI_clamp (show j < 2 ^ 31 from by omega)]) ?_
              refine lv_iload_n hx hb d_Mod_part_68 rfl (lv_at hl 2 rfl) ?_
              refine lv_iadd hx hb d_Mod_part_69 ?_
              refine lv_iload_n hx hb d_Mod_part_70 rfl (lv_at hl 3 rfl) ?_
              refine ps_afterI (wc := (mw cI cB cS cZ b K S ck cu F X)) (wr := []) hP hD hS hA [0, 1, 2, 3, 4, 5, 6, 7, 8, 9, 10, 11, 12, 13, 14, 15, 16, 17, 18] [] rfl rfl (by decide) (by decide) (ps_runVI ⟨hx, hb, hml, hown, hts⟩ (m_row l dC dI cI tys ht cB cS cZ htB htS htZ b K S ck cu F X hKb hSb ((F 4) j) (((F 5) j) + (nI f0)) (nI n0) (show K 0 < 16384 by omega) h48) (ps_cwV ps_gd 3 hts tw_247 k_Mod_row e_Mod_row ⟨Nat.le_of_ble_eq_true rfl, Nat.le_of_ble_eq_true rfl⟩) hK hP hD [0, 1, 2, 3, 4, 5, 6, 7, 8, 9, 10, 11, 12, 13, 14, 15, 16, 17, 18] (by decide) rfl 0 cMod rfl rfl rfl hl.1 rfl (Nat.le_of_ble_eq_true rfl) d_Mod_part_71 ⟨Nat.zero_le _, Nat.zero_le _⟩) (fun r_9 u_8 H locs hu_8 hP hD hS => ?_)
              obtain ⟨hr_9, hu_8⟩ := hu_8
              subst hr_9
              subst hu_8
              have hP : va_P (dC, dI) classes (mw cI cB cS cZ b (va_up K 0 (K 0 + 1)) S ck cu (va_up (va_up (va_up F 4 (upd (F 4) (K 0 + 1) ((F 4) j))) 5 (upd (F 5) (K 0 + 1) (((F 5) j) + (nI f0)))) 6 (upd (F 6) (K 0 + 1) (nI n0))) X) H := hP
              have hD : va_D A (mw cI cB cS cZ b (va_up K 0 (K 0 + 1)) S ck cu (va_up (va_up (va_up F 4 (upd (F 4) (K 0 + 1) ((F 4) j))) 5 (upd (F 5) (K 0 + 1) (((F 5) j) + (nI f0)))) 6 (upd (F 6) (K 0 + 1) (nI n0))) X) := hD
              exact ps_iret hx hb hr hlocks hK hP hD hS (Nat.le_of_ble_eq_true rfl) (Nat.le_of_ble_eq_true rfl) d_Mod_part_74 (ps_cn hok (ps_cn (by omega) ⟨rfl, rfl⟩))
            · have c_7 : K 0 = 16384 := (nI_eq (by have h0 := hKb 0; have h1 := hKb 1; have h2 := hKb 2; have h3 := hKb 3; have h4 := hKb 4; have h5 := hKb 5; omega) (by have h0 := hKb 0; have h1 := hKb 1; have h2 := hKb 2; have h3 := hKb 3; have h4 := hKb 4; have h5 := hKb 5; omega)).mp c_7
              refine lv_bipush (v := (-3)) hx hb d_Mod_part_50 (by decide) ?_
              refine lv_goto (tgt := 74) hx hb d_Mod_part_52 (by decide) ?_
              exact ps_iret hx hb hr hlocks hK hP hD hS (Nat.le_of_ble_eq_true rfl) (Nat.le_of_ble_eq_true rfl) d_Mod_part_74 (ps_cn hok (ps_cy (by omega) ⟨rfl, rfl⟩))
          · have c_6 : ¬ n0 ≤ l0 - f0 := fun q => c_6 ((nI_leI (by have h0 := hKb 0; have h1 := hKb 1; have h2 := hKb 2; have h3 := hKb 3; have h4 := hKb 4; have h5 := hKb 5; omega) (by have h0 := hKb 0; have h1 := hKb 1; have h2 := hKb 2; have h3 := hKb 3; have h4 := hKb 4; have h5 := hKb 5; omega)).mpr q)
            refine lv_iconst (v := (-1)) hx hb d_Mod_part_38 (by decide) ?_
            exact ps_iret hx hb hr hlocks hK hP hD hS (Nat.le_of_ble_eq_true rfl) (Nat.le_of_ble_eq_true rfl) d_Mod_part_39 (ps_cy (fun q => absurd q.2.2.2 (by omega)) ⟨rfl, rfl⟩)
end
