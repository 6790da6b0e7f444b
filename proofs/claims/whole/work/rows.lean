section
-- ===== PART A: goes FIRST, ahead of the names: the tables' words, and 'selects' of the private methods out of them =====
/-- a private method of a class that the tables say can be made, by its rows of tables_1 -/
def lw_okq (q : MethodName × Nat) : Prop := (q.1.cls ≠ "java/lang/invoke/MethodHandle" ∧ q.1.cls ≠ "java/lang/invoke/VarHandle") ∧ Cond.instantiable q.1.cls q.2 ∈ tables_1 ∧ Cond.privateMethod q.1 ∈ tables_1 ∧ Cond.instanceMethod q.1 ∈ tables_1
theorem lw_p0 : lw_okq (⟨"KeyCabinet", "doorsAtRisk", "()I"⟩, 5) := ⟨⟨by decide +kernel, by decide +kernel⟩, List.mem_of_getElem? (i := 14) (by decide +kernel), List.mem_of_getElem? (i := 175) (by decide +kernel), List.mem_of_getElem? (i := 176) (by decide +kernel)⟩
theorem lw_p1 : lw_okq (⟨"KeyCabinet", "doorsReached", "(I)I"⟩, 5) := ⟨⟨by decide +kernel, by decide +kernel⟩, List.mem_of_getElem? (i := 14) (by decide +kernel), List.mem_of_getElem? (i := 195) (by decide +kernel), List.mem_of_getElem? (i := 196) (by decide +kernel)⟩
theorem lw_p2 : lw_okq (⟨"KeyCabinet", "mixDoor", "(JI)J"⟩, 5) := ⟨⟨by decide +kernel, by decide +kernel⟩, List.mem_of_getElem? (i := 14) (by decide +kernel), List.mem_of_getElem? (i := 217) (by decide +kernel), List.mem_of_getElem? (i := 218) (by decide +kernel)⟩
theorem lw_p3 : lw_okq (⟨"KeyCabinet", "mixCopy", "(JI)J"⟩, 5) := ⟨⟨by decide +kernel, by decide +kernel⟩, List.mem_of_getElem? (i := 14) (by decide +kernel), List.mem_of_getElem? (i := 225) (by decide +kernel), List.mem_of_getElem? (i := 226) (by decide +kernel)⟩
theorem lw_p4 : lw_okq (⟨"java/lang/Throwable", "fillInStackTrace", "(I)Ljava/lang/Throwable;"⟩, 6) := ⟨⟨by decide +kernel, by decide +kernel⟩, List.mem_of_getElem? (i := 278) (by decide +kernel), List.mem_of_getElem? (i := 276) (by decide +kernel), List.mem_of_getElem? (i := 277) (by decide +kernel)⟩
theorem lw_p5 : lw_okq (⟨"KeyCabinet", "needRights", "(I)V"⟩, 5) := ⟨⟨by decide +kernel, by decide +kernel⟩, List.mem_of_getElem? (i := 14) (by decide +kernel), List.mem_of_getElem? (i := 343) (by decide +kernel), List.mem_of_getElem? (i := 344) (by decide +kernel)⟩
theorem lw_p6 : lw_okq (⟨"KeyCabinet", "needDoor", "(I)V"⟩, 5) := ⟨⟨by decide +kernel, by decide +kernel⟩, List.mem_of_getElem? (i := 14) (by decide +kernel), List.mem_of_getElem? (i := 376) (by decide +kernel), List.mem_of_getElem? (i := 377) (by decide +kernel)⟩
theorem lw_p7 : lw_okq (⟨"KeyCabinet", "needKey", "(I)V"⟩, 5) := ⟨⟨by decide +kernel, by decide +kernel⟩, List.mem_of_getElem? (i := 14) (by decide +kernel), List.mem_of_getElem? (i := 404) (by decide +kernel), List.mem_of_getElem? (i := 405) (by decide +kernel)⟩
theorem lw_p8 : lw_okq (⟨"KeyCabinet", "needCopy", "(I)V"⟩, 5) := ⟨⟨by decide +kernel, by decide +kernel⟩, List.mem_of_getElem? (i := 14) (by decide +kernel), List.mem_of_getElem? (i := 520) (by decide +kernel), List.mem_of_getElem? (i := 521) (by decide +kernel)⟩
theorem lw_p9 : lw_okq (⟨"KeyCabinet", "needPerson", "(I)V"⟩, 5) := ⟨⟨by decide +kernel, by decide +kernel⟩, List.mem_of_getElem? (i := 14) (by decide +kernel), List.mem_of_getElem? (i := 525) (by decide +kernel), List.mem_of_getElem? (i := 526) (by decide +kernel)⟩
theorem lw_p10 : lw_okq (⟨"KeyCabinet", "needDays", "(I)V"⟩, 5) := ⟨⟨by decide +kernel, by decide +kernel⟩, List.mem_of_getElem? (i := 14) (by decide +kernel), List.mem_of_getElem? (i := 530) (by decide +kernel), List.mem_of_getElem? (i := 531) (by decide +kernel)⟩
theorem lw_p11 : lw_okq (⟨"KeyCabinet", "bestCopies", "(II)I"⟩, 5) := ⟨⟨by decide +kernel, by decide +kernel⟩, List.mem_of_getElem? (i := 14) (by decide +kernel), List.mem_of_getElem? (i := 620) (by decide +kernel), List.mem_of_getElem? (i := 621) (by decide +kernel)⟩
theorem lw_p12 : lw_okq (⟨"KeyCabinet", "doorsOpenedBy", "(I)I"⟩, 5) := ⟨⟨by decide +kernel, by decide +kernel⟩, List.mem_of_getElem? (i := 14) (by decide +kernel), List.mem_of_getElem? (i := 624) (by decide +kernel), List.mem_of_getElem? (i := 625) (by decide +kernel)⟩
theorem lw_p13 : lw_okq (⟨"KeyCabinet", "copiesOf", "(I)I"⟩, 5) := ⟨⟨by decide +kernel, by decide +kernel⟩, List.mem_of_getElem? (i := 14) (by decide +kernel), List.mem_of_getElem? (i := 628) (by decide +kernel), List.mem_of_getElem? (i := 629) (by decide +kernel)⟩
theorem lw_p14 : lw_okq (⟨"KeyCabinetModel", "fail", "(I)I"⟩, 15) := ⟨⟨by decide +kernel, by decide +kernel⟩, List.mem_of_getElem? (i := 632) (by decide +kernel), List.mem_of_getElem? (i := 692) (by decide +kernel), List.mem_of_getElem? (i := 693) (by decide +kernel)⟩
theorem lw_p15 : lw_okq (⟨"KeyCabinetModel", "areKeys", "(I)Z"⟩, 15) := ⟨⟨by decide +kernel, by decide +kernel⟩, List.mem_of_getElem? (i := 632) (by decide +kernel), List.mem_of_getElem? (i := 700) (by decide +kernel), List.mem_of_getElem? (i := 701) (by decide +kernel)⟩
def lw_privs_1 : List (MethodName × Nat) := [(⟨"KeyCabinet", "doorsAtRisk", "()I"⟩, 5), (⟨"KeyCabinet", "doorsReached", "(I)I"⟩, 5), (⟨"KeyCabinet", "mixDoor", "(JI)J"⟩, 5), (⟨"KeyCabinet", "mixCopy", "(JI)J"⟩, 5), (⟨"java/lang/Throwable", "fillInStackTrace", "(I)Ljava/lang/Throwable;"⟩, 6), (⟨"KeyCabinet", "needRights", "(I)V"⟩, 5), (⟨"KeyCabinet", "needDoor", "(I)V"⟩, 5), (⟨"KeyCabinet", "needKey", "(I)V"⟩, 5), (⟨"KeyCabinet", "needCopy", "(I)V"⟩, 5), (⟨"KeyCabinet", "needPerson", "(I)V"⟩, 5), (⟨"KeyCabinet", "needDays", "(I)V"⟩, 5), (⟨"KeyCabinet", "bestCopies", "(II)I"⟩, 5), (⟨"KeyCabinet", "doorsOpenedBy", "(I)I"⟩, 5), (⟨"KeyCabinet", "copiesOf", "(I)I"⟩, 5), (⟨"KeyCabinetModel", "fail", "(I)I"⟩, 15), (⟨"KeyCabinetModel", "areKeys", "(I)Z"⟩, 15)]
theorem lw_r1 : ∀ q ∈ lw_privs_1, lw_okq q := List.forall_mem_cons.mpr ⟨lw_p0, List.forall_mem_cons.mpr ⟨lw_p1, List.forall_mem_cons.mpr ⟨lw_p2, List.forall_mem_cons.mpr ⟨lw_p3, List.forall_mem_cons.mpr ⟨lw_p4, List.forall_mem_cons.mpr ⟨lw_p5, List.forall_mem_cons.mpr ⟨lw_p6, List.forall_mem_cons.mpr ⟨lw_p7, List.forall_mem_cons.mpr ⟨lw_p8, List.forall_mem_cons.mpr ⟨lw_p9, List.forall_mem_cons.mpr ⟨lw_p10, List.forall_mem_cons.mpr ⟨lw_p11, List.forall_mem_cons.mpr ⟨lw_p12, List.forall_mem_cons.mpr ⟨lw_p13, List.forall_mem_cons.mpr ⟨lw_p14, List.forall_mem_cons.mpr ⟨lw_p15, fun _ h => absurd h List.not_mem_nil⟩⟩⟩⟩⟩⟩⟩⟩⟩⟩⟩⟩⟩⟩⟩⟩
theorem lw_p16 : lw_okq (⟨"KeyCabinetModel", "allPins", "(I)I"⟩, 15) := ⟨⟨by decide +kernel, by decide +kernel⟩, List.mem_of_getElem? (i := 632) (by decide +kernel), List.mem_of_getElem? (i := 704) (by decide +kernel), List.mem_of_getElem? (i := 705) (by decide +kernel)⟩
theorem lw_p17 : lw_okq (⟨"KeyCabinetModel", "pinsOf", "(II)I"⟩, 15) := ⟨⟨by decide +kernel, by decide +kernel⟩, List.mem_of_getElem? (i := 632) (by decide +kernel), List.mem_of_getElem? (i := 708) (by decide +kernel), List.mem_of_getElem? (i := 709) (by decide +kernel)⟩
theorem lw_p18 : lw_okq (⟨"KeyCabinetModel", "isDoor", "(I)Z"⟩, 15) := ⟨⟨by decide +kernel, by decide +kernel⟩, List.mem_of_getElem? (i := 632) (by decide +kernel), List.mem_of_getElem? (i := 723) (by decide +kernel), List.mem_of_getElem? (i := 724) (by decide +kernel)⟩
theorem lw_p19 : lw_okq (⟨"KeyCabinetModel", "isKey", "(I)Z"⟩, 15) := ⟨⟨by decide +kernel, by decide +kernel⟩, List.mem_of_getElem? (i := 632) (by decide +kernel), List.mem_of_getElem? (i := 739) (by decide +kernel), List.mem_of_getElem? (i := 740) (by decide +kernel)⟩
theorem lw_p20 : lw_okq (⟨"KeyCabinetModel", "opensWith", "(II)Z"⟩, 15) := ⟨⟨by decide +kernel, by decide +kernel⟩, List.mem_of_getElem? (i := 632) (by decide +kernel), List.mem_of_getElem? (i := 751) (by decide +kernel), List.mem_of_getElem? (i := 752) (by decide +kernel)⟩
theorem lw_p21 : lw_okq (⟨"KeyCabinetModel", "doorsOf", "(I)I"⟩, 15) := ⟨⟨by decide +kernel, by decide +kernel⟩, List.mem_of_getElem? (i := 632) (by decide +kernel), List.mem_of_getElem? (i := 763) (by decide +kernel), List.mem_of_getElem? (i := 764) (by decide +kernel)⟩
theorem lw_p22 : lw_okq (⟨"KeyCabinetModel", "strayCount", "()I"⟩, 15) := ⟨⟨by decide +kernel, by decide +kernel⟩, List.mem_of_getElem? (i := 632) (by decide +kernel), List.mem_of_getElem? (i := 771) (by decide +kernel), List.mem_of_getElem? (i := 772) (by decide +kernel)⟩
theorem lw_p23 : lw_okq (⟨"KeyCabinetModel", "stop", "(I)V"⟩, 15) := ⟨⟨by decide +kernel, by decide +kernel⟩, List.mem_of_getElem? (i := 632) (by decide +kernel), List.mem_of_getElem? (i := 791) (by decide +kernel), List.mem_of_getElem? (i := 792) (by decide +kernel)⟩
theorem lw_p24 : lw_okq (⟨"KeyCabinetModel", "isCopy", "(I)Z"⟩, 15) := ⟨⟨by decide +kernel, by decide +kernel⟩, List.mem_of_getElem? (i := 632) (by decide +kernel), List.mem_of_getElem? (i := 803) (by decide +kernel), List.mem_of_getElem? (i := 804) (by decide +kernel)⟩
theorem lw_p25 : lw_okq (⟨"KeyCabinetModel", "riskyDoors", "()I"⟩, 15) := ⟨⟨by decide +kernel, by decide +kernel⟩, List.mem_of_getElem? (i := 632) (by decide +kernel), List.mem_of_getElem? (i := 823) (by decide +kernel), List.mem_of_getElem? (i := 824) (by decide +kernel)⟩
theorem lw_p26 : lw_okq (⟨"KeyCabinetModel", "told", "(II)I"⟩, 15) := ⟨⟨by decide +kernel, by decide +kernel⟩, List.mem_of_getElem? (i := 632) (by decide +kernel), List.mem_of_getElem? (i := 843) (by decide +kernel), List.mem_of_getElem? (i := 844) (by decide +kernel)⟩
theorem lw_p27 : lw_okq (⟨"KeyCabinetModel", "reachOf", "(I)I"⟩, 15) := ⟨⟨by decide +kernel, by decide +kernel⟩, List.mem_of_getElem? (i := 632) (by decide +kernel), List.mem_of_getElem? (i := 859) (by decide +kernel), List.mem_of_getElem? (i := 860) (by decide +kernel)⟩
def lw_privs_2 : List (MethodName × Nat) := [(⟨"KeyCabinetModel", "allPins", "(I)I"⟩, 15), (⟨"KeyCabinetModel", "pinsOf", "(II)I"⟩, 15), (⟨"KeyCabinetModel", "isDoor", "(I)Z"⟩, 15), (⟨"KeyCabinetModel", "isKey", "(I)Z"⟩, 15), (⟨"KeyCabinetModel", "opensWith", "(II)Z"⟩, 15), (⟨"KeyCabinetModel", "doorsOf", "(I)I"⟩, 15), (⟨"KeyCabinetModel", "strayCount", "()I"⟩, 15), (⟨"KeyCabinetModel", "stop", "(I)V"⟩, 15), (⟨"KeyCabinetModel", "isCopy", "(I)Z"⟩, 15), (⟨"KeyCabinetModel", "riskyDoors", "()I"⟩, 15), (⟨"KeyCabinetModel", "told", "(II)I"⟩, 15), (⟨"KeyCabinetModel", "reachOf", "(I)I"⟩, 15)]
theorem lw_r2 : ∀ q ∈ lw_privs_2, lw_okq q := List.forall_mem_cons.mpr ⟨lw_p16, List.forall_mem_cons.mpr ⟨lw_p17, List.forall_mem_cons.mpr ⟨lw_p18, List.forall_mem_cons.mpr ⟨lw_p19, List.forall_mem_cons.mpr ⟨lw_p20, List.forall_mem_cons.mpr ⟨lw_p21, List.forall_mem_cons.mpr ⟨lw_p22, List.forall_mem_cons.mpr ⟨lw_p23, List.forall_mem_cons.mpr ⟨lw_p24, List.forall_mem_cons.mpr ⟨lw_p25, List.forall_mem_cons.mpr ⟨lw_p26, List.forall_mem_cons.mpr ⟨lw_p27, fun _ h => absurd h List.not_mem_nil⟩⟩⟩⟩⟩⟩⟩⟩⟩⟩⟩⟩
def lw_privs : List (MethodName × Nat) := lw_privs_1 ++ (lw_privs_2)
def lw_tbl : List Cond := k2_sels lw_privs ++ tables_1
theorem lw_privs_ok : ∀ q ∈ lw_privs, lw_okq q := by
  show ∀ q ∈ lw_privs_1 ++ (lw_privs_2), lw_okq q
  exact List.forall_mem_append.mpr ⟨lw_r1, lw_r2⟩
/-- the streams that the claim lets the run draw from -/
abbrev lw_cs : List Choice := [Jvm.Choice.named "NaN.bits"]
theorem lw_bits : nanBits ∈ lw_cs := by first | decide | exact List.mem_cons_self | simp [lw_cs, nanBits]
end
section
/-! ===== BEGIN words of one list among another's, by their places ===== -/
theorem goodIn_r {big : List Cond} (ws : List Cond) (ps : List Nat) (hp : ws = ps.filterMap (fun i => big[i]?)) (h : ws.all goodWord = true) : GoodIn big ws := by
  intro w hw
  have h1 := List.all_eq_true.mp h w hw
  rw [hp] at hw
  obtain ⟨i, -, hi⟩ := List.mem_filterMap.mp hw
  have hm : w ∈ big := by first | exact List.mem_of_getElem? hi | exact List.getElem?_mem hi
  exact ⟨hm, good_of_word h1⟩
theorem goodIn_app {big a b : List Cond} (ha : GoodIn big a) (hb : GoodIn big b) : GoodIn big (a ++ b) := fun w h => (List.mem_append.mp h).elim (ha w) (hb w)
theorem goodIn_ca {big a b : List Cond} {c : Cond} (ha : GoodIn big (c :: a)) (hb : GoodIn big b) : GoodIn big (c :: (a ++ b)) := fun w h => (List.mem_cons.mp h).elim (fun e => ha w (List.mem_cons.mpr (Or.inl e))) (fun h => (List.mem_append.mp h).elim (fun h => ha w (List.mem_cons.mpr (Or.inr h))) (hb w))
theorem goodIn_sub {big ws : List Cond} (hm : ∀ w ∈ ws, w ∈ big) (h : ws.all goodWord = true) : GoodIn big ws := fun w hw => ⟨hm w hw, good_of_word (List.all_eq_true.mp h w hw)⟩
/-! ===== END ===== -/

/-! ===== BEGIN exceptions that leave a method, and their catching by the caller (launches without stack traces) ===== -/
section VXA
/-! The laws vx_back, vx_callV, vx_callS, vx_callSW, vx_throw0, vx_throwS follow proofs of the library, with one case more: JvmDerived/Free/Laws.lean (Back.of_free), Shelf42/LK1.lean (callV, callS), Shelf/KitTraced.lean (throwNew0V, throwNewS). -/
/-- where a method has thrown q: the class by its name, the cell, what was written, the world -/
def vx_T (XC : String → State → State → Prop) (st : State) (q : Addr) (t : State) (mc ms : Nat) (free : Addr → Prop) : Prop :=
  ∃ (E : String) (ce : Cell) (L : List Loc), XC E st t ∧ t.heap[q]? = some ce ∧ ce.vm = .none ∧ st.vm.findClass E = some ce.cls ∧ st.WarmedH t.vm ∧ st.sameButNew ({ t with vm := st.vm } : State) L mc ms ∧ ∀ z ∈ L, free z.base
def vx_Q (Qc : Array Value → State → Outcome → State → Prop) (XC : String → State → State → Prop) (mc ms : Nat) (free : Addr → Prop) : Array Value → State → Outcome → State → Prop := fun a st o t =>
  (Qc a st o t ∧ ∃ L, FrameEnd st o t L mc ms ∧ ∀ q ∈ L, free q.base) ∨ ∃ q, o = .threw q ∧ vx_T XC st q t mc ms free
/-- a callee that returns or throws -/
def vx_Met (l : Launch) (y : MethodName) (ws : List Cond) (rm : Room) (Pc : Array Value → State → Prop) (Qc : Array Value → State → Outcome → State → Prop) (XC : String → State → State → Prop) (mc ms : Nat) (free : Addr → Prop) : Prop :=
  MetFree l y (headSpec ws rm) Pc (fun _ _ _ _ _ => True) (vx_Q Qc XC mc ms free)
def vx_Post (XC : String → State → State → Prop) (mc ms : Nat) (free : Addr → Prop) : Pt → Array Value → Addr → Pt → Prop := fun A a q B =>
  ∃ (g : JFrame) (mk : MethodId) (t : State) (L : List Loc) (E : String) (ce : Cell), B.U.heap = t.heap ∧ B.U.vm = t.vm ∧ XC E (A.U.calling g mk a) t ∧ t.heap[q]? = some ce ∧ ce.vm = .none ∧ A.U.vm.findClass E = some ce.cls ∧ B.locs = A.locs ++ L ∧ (∀ z ∈ L, free z.base) ∧ B.cells = A.cells + mc ∧ B.slots = A.slots + ms
def vx_Back (l : Launch) (R : Room) (p : Program) (e : Env) (below : List Frame) (s : State) (sargs : Array Value) (y : MethodName) (len W9 : Nat)
    (Pre : Pt → Array Value → Prop) (Post : Pt → Array Value → Option Value → Pt → Prop) (PostX : Pt → Array Value → Addr → Pt → Prop) : Prop :=
  ∀ (m : MethodId) (meth : Method) (c : Code) (A : Pt) (g : JFrame) (ig : Instr) (mk : MethodId) (a : Array Value),
    Stand p l e R s m sargs below meth c A.U A.locs A.cells A.slots → g.method = m → g.locals.size = c.maxLocals → decode c.code g.pc = .ok (ig, len) →
    2 * g.monitorRoom + (g.stack.map fun v => v.category).sum ≤ W9 → A.U.methodNamed? y = some mk → Pre A a →
    (∃ (v : Option Value) (B : Pt), Stand p l e R s m sargs below meth c B.U B.locs B.cells B.slots ∧ Post A a v B ∧
      Steps p.tables e below (doInvoke e (A.U.setTop g) [] mk a).1 (B.U.setTop { g with pc := g.pc + len, stack := v.toList ++ g.stack })) ∨
    (∃ (q : Addr) (B : Pt), Stand p l e R s m sargs below meth c B.U B.locs B.cells B.slots ∧ PostX A a q B ∧
      Steps p.tables e below (doInvoke e (A.U.setTop g) [] mk a).1 ((B.U.setTop g).pushFrame (.throwing q)))
section Payer
variable {l : Launch} {R : Room} {p : Program} {e : Env} {below : List Frame} {s : State} {sargs : Array Value} {y : MethodName} {len W9 : Nat}
theorem vx_back {ws : List Cond} {rm : Room} {Pc : Array Value → State → Prop} {Qc : Array Value → State → Outcome → State → Prop} {XC : String → State → State → Prop} {mc ms : Nat} {free : Addr → Prop} {bytes : ByteArray} {maxL : Nat} {ret : Option FieldType}
    (hM : vx_Met l y ws rm Pc Qc XC mc ms free) (hblind : FrameBlind Pc) (hrc : rm.cells = mc) (hrs : rm.slots = ms)
    (hframes : rm.frames + 1 ≤ R.frames) (hlocals : W9 + (maxL + 11) + rm.locals ≤ R.locals)
    (hws : ∀ w ∈ ws, ∀ a' U, s.WarmedH U.vm → w.before a' U = true) (hcode : Cond.code y bytes maxL ret ∈ ws) (hinit : ∀ a' U, s.WarmedH U.vm → (Cond.initialized y.cls).before a' U = true) :
    vx_Back l R p e below s sargs y len W9 (PreOf R mc ms Pc) (PostOf Qc mc ms free) (vx_Post XC mc ms free) := by
  intro m meth c A g ig mk a X hg hsize hdg hW hn hp
  have h1 : (headSpec ws rm).pre.before a A.U = true := atoms_intro fun w hw => hws w hw _ _ X.warmed
  have h2 : (Cond.code y bytes maxL ret).before a A.U = true := hws _ hcode _ _ X.warmed
  have h3 : (Cond.initialized y.cls).before a A.U = true := hinit _ _ X.warmed
  have h4 : A.cells + (headSpec ws rm).room.cells ≤ R.cells := by rw [show (headSpec ws rm).room.cells = mc from hrc]; exact hp.1
  have h5 : A.slots + (headSpec ws rm).room.slots ≤ R.slots := by rw [show (headSpec ws rm).room.slots = ms from hrs]; exact hp.2.1
  have hPc : Pc a (A.U.calling g mk a) := hblind _ _ _ _ hp.2.2
  obtain ⟨U, Ls, c0, s0⟩ := A
  dsimp only [Pt.U, Pt.locs, Pt.cells, Pt.slots] at h1 h2 h3 h4 h5 X hn hPc ⊢
  obtain ⟨methY, cY, hmY, hcY, -, hlY, -, -, -, -⟩ := Cond.code_spec hn h2
  obtain ⟨kY, hkY, -⟩ := className_of_methodNamed hn
  have hinitY : kY.init = .initialized := Cond.initialized_spec (findClass_of_methodNamed hn) hkY h3
  have h : At U g.method c below := by rw [hg]; exact X.here
  have hlocals9 : W9 + (maxL + 11) + (headSpec ws rm).room.locals ≤ R.locals := hlocals
  have happ : (headSpec ws rm).appliesLoose y e.platform (U.calling g mk a) = true :=
    Spec.appliesLoose_calling (g := g) h hdg hn hkY hinitY
      (X.room_calling (g := g) (R' := (headSpec ws rm).room) hsize hmY hcY hframes (by rw [hlY]; omega) h4 h5) h1
  obtain ⟨mid, hmid⟩ := h.above
  have hfr : (U.setTop g).frames = (.java g :: mid) ++ below := by rw [State.frames_setTop' g h.top, hmid]; rfl
  obtain ⟨o, s₂, hsteps, -, hend, hq⟩ := Steps.callFree hM p X.admits X.cas X.clock (acts := []) hfr happ hPc trivial
  have hq' : vx_Q Qc XC mc ms free a (U.calling g mk a) o s₂ := hq
  rw [State.frames_setTop' g h.top] at hend
  obtain ⟨g₀, hg0⟩ := Option.isSome_iff_exists.mp h.top
  obtain ⟨r, hr⟩ := State.topJava?_eq_some.mp hg0
  have hr' : (({ U with heap := s₂.heap, slotsUsed := s₂.slotsUsed } : State).setVm s₂.vm).frames = .java g₀ :: r := hr
  rcases hq' with ⟨hqc, L, hfe, hL⟩ | ⟨q, rfl, E, ce, L, hx, hce, hcv, hcl, hW₂, hsm, hL⟩
  · obtain ⟨⟨v, rfl⟩, hW₂, e2, q2, q3, q4, q5, q6⟩ := id hfe
    have e3 : s₂ = ({ (U.calling g mk a).setFrames s₂.frames with heap := s₂.heap, slotsUsed := s₂.slotsUsed } : State).setVm s₂.vm := by
      have : s₂ = ({ s₂ with vm := (U.calling g mk a).vm } : State).setVm s₂.vm := rfl
      rw [e2] at this
      exact this
    obtain ⟨c₂, i₂, len₂, hc₂, hd₂, hf₂⟩ := hend
    have hW' : U.WarmedH s₂.vm := hW₂
    have hcc : c₂ = c := by
      have h1 : s₂.code? g.method = U.code? g.method := by
        rw [State.code?_eq, State.code?_eq, hW'.alike.method?]
      exact Option.some.inj (hc₂.symm.trans (h1.trans h.code))
    subst hcc
    have hlen : len₂ = len := by rw [hdg] at hd₂; cases hd₂; rfl
    subst hlen
    have hs₂ : s₂ = (({ U with heap := s₂.heap, slotsUsed := s₂.slotsUsed } : State).setVm s₂.vm).setTop { g with pc := g.pc + len₂, stack := v.toList ++ g.stack } := by
      refine e3.trans ?_
      rw [hf₂, State.calling_eq h.top, State.setFrames_setFrames, State.setTop_of_frames _ hr', hr]
      rfl
    have hsame : U.sameButNew ({ U with heap := s₂.heap, slotsUsed := s₂.slotsUsed } : State) L mc ms := by
      refine ⟨?_, q2, q3, q4, q5, q6⟩
      obtain ⟨t, ht, -⟩ := State.frames_cons hr
      show ({ U with heap := s₂.heap, slotsUsed := s₂.slotsUsed } : State) = { U.setFrames U.frames with heap := s₂.heap, slotsUsed := s₂.slotsUsed }
      rw [State.setFrames_self ht]
    subst hg
    refine Or.inl ⟨v, ⟨(({ U with heap := s₂.heap, slotsUsed := s₂.slotsUsed } : State).setVm s₂.vm), Ls ++ L, c0 + mc, s0 + ms⟩,
      ⟨X.admits, X.cas, X.clock, X.frames, X.room, X.hears, X.method, X.code, (X.here.setHeapUsed s₂.heap s₂.slotsUsed).setVm hW'.alike, X.tail, State.WarmedH.trans X.warmed hW', X.limits, X.bytes, X.same.trans (hsame.setVm s.vm)⟩,
      ⟨g, mk, s₂, L, rfl, rfl, hqc, rfl, hL, rfl, rfl⟩, ?_⟩
    show Steps p.tables e below _ ((({ U with heap := s₂.heap, slotsUsed := s₂.slotsUsed } : State).setVm s₂.vm).setTop { g with pc := g.pc + len₂, stack := v.toList ++ g.stack })
    rw [← hs₂]
    exact hsteps
  · obtain ⟨e2, q2, q3, q4, q5, q6⟩ := id hsm
    have e3 : s₂ = ({ (U.calling g mk a).setFrames s₂.frames with heap := s₂.heap, slotsUsed := s₂.slotsUsed } : State).setVm s₂.vm := by
      have : s₂ = ({ s₂ with vm := (U.calling g mk a).vm } : State).setVm s₂.vm := rfl
      rw [e2] at this
      exact this
    have hf₂ : s₂.frames = .throwing q :: .java g :: U.frames.tail := hend
    have hW' : U.WarmedH s₂.vm := hW₂
    have hs₂ : s₂ = ((({ U with heap := s₂.heap, slotsUsed := s₂.slotsUsed } : State).setVm s₂.vm).setTop g).pushFrame (.throwing q) := by
      refine e3.trans ?_
      rw [hf₂, State.calling_eq h.top, State.setFrames_setFrames, State.pushFrame, State.frames_setTop _ hr', State.setTop_of_frames _ hr', State.setFrames_setFrames, hr]
      rfl
    have hsame : U.sameButNew ({ U with heap := s₂.heap, slotsUsed := s₂.slotsUsed } : State) L mc ms := by
      refine ⟨?_, q2, q3, q4, q5, q6⟩
      obtain ⟨t, ht, -⟩ := State.frames_cons hr
      show ({ U with heap := s₂.heap, slotsUsed := s₂.slotsUsed } : State) = { U.setFrames U.frames with heap := s₂.heap, slotsUsed := s₂.slotsUsed }
      rw [State.setFrames_self ht]
    subst hg
    refine Or.inr ⟨q, ⟨(({ U with heap := s₂.heap, slotsUsed := s₂.slotsUsed } : State).setVm s₂.vm), Ls ++ L, c0 + mc, s0 + ms⟩,
      ⟨X.admits, X.cas, X.clock, X.frames, X.room, X.hears, X.method, X.code, (X.here.setHeapUsed s₂.heap s₂.slotsUsed).setVm hW'.alike, X.tail, State.WarmedH.trans X.warmed hW', X.limits, X.bytes, X.same.trans (hsame.setVm s.vm)⟩,
      ⟨g, mk, s₂, L, E, ce, rfl, rfl, hx, hce, hcv, hcl, rfl, hL, rfl, rfl⟩, ?_⟩
    show Steps p.tables e below _ (((({ U with heap := s₂.heap, slotsUsed := s₂.slotsUsed } : State).setVm s₂.vm).setTop g).pushFrame (.throwing q))
    rw [← hs₂]
    exact hsteps
end Payer
section Calls
variable {p : Program} {l : Launch} {e : Env} {R : Room} {s : State} {m : MethodId} {args : Array Value} {below : List Frame} {meth : Method} {c : Code} {T : State} {locs : List Loc} {cells slots : Nat}
theorem vx_callV (X : Stand p l e R s m args below meth c T locs cells slots) (hexec : p.tables.exec = Jvm.exec) {own C : String} {index : Nat} {y : MethodName} {bytes : ByteArray} {maxL : Nat} {ret : Option FieldType}
    (hown : s.vm.findClass own = some m.cls) (hlink : (Cond.methodLink own index y).before args s = true) (hinst : (Cond.instanceMethod y).before args s = true) (hsel : (Cond.selects C y y).before args s = true)
    (hcode : (Cond.code y bytes maxL ret).before args s = true) (hy : y.cls ≠ "java/lang/invoke/MethodHandle" ∧ y.cls ≠ "java/lang/invoke/VarHandle")
    {W9 : Nat} {Pre : Pt → Array Value → Prop} {Post : Pt → Array Value → Option Value → Pt → Prop} {PostX : Pt → Array Value → Addr → Pt → Prop} (hK : vx_Back l R p e below s args y 3 W9 Pre Post PostX)
    {b : Addr} {cellB : Cell} (hcell : T.heap[b]? = some cellB) (hobj : cellB.vm.isStatics = false) (hcls : s.vm.findClass C = some cellB.cls)
    {g : JFrame} (hg : g.method = m) (hsize : g.locals.size = c.maxLocals) {argsL rest : List Value} (hlen : ∀ sig, parseMethodDescriptor y.desc = some sig → argsL.length = sig.parameters.length)
    (hstack : g.stack = argsL.reverse ++ .ref b :: rest) (hW : 2 * g.monitorRoom + (rest.map fun v => v.category).sum ≤ W9) (hdg : decode c.code g.pc = .ok (.invokevirtual index, 3))
    (hpre : ∀ vm₁, s.WarmedH vm₁ → Pre ⟨T.setVm vm₁, locs, cells, slots⟩ (Value.ref b :: argsL).toArray) :
    (∃ (v : Option Value) (vm₁ : Vm) (B : Pt), s.WarmedH vm₁ ∧ Stand p l e R s m args below meth c B.U B.locs B.cells B.slots ∧ Post ⟨T.setVm vm₁, locs, cells, slots⟩ (Value.ref b :: argsL).toArray v B ∧
      ∀ target, Steps p.tables e below (B.U.setTop { g with pc := g.pc + 3, stack := v.toList ++ rest }) target → Steps p.tables e below (T.setTop g) target) ∨
    (∃ (q : Addr) (vm₁ : Vm) (B : Pt), s.WarmedH vm₁ ∧ Stand p l e R s m args below meth c B.U B.locs B.cells B.slots ∧ PostX ⟨T.setVm vm₁, locs, cells, slots⟩ (Value.ref b :: argsL).toArray q B ∧
      Steps p.tables e below (T.setTop g) ((B.U.setTop { g with stack := rest }).pushFrame (.throwing q))) := by
  obtain ⟨mk, methM, hnamed, hmethM, hstM, habM⟩ := Cond.instanceMethod_spec hinst
  obtain ⟨methM', cM, hmethM', -, -, -, -, -, -, hsigM⟩ := Cond.code_spec hnamed hcode
  cases hmethM.symm.trans hmethM'
  obtain ⟨c2, r2, m2, q1, q2, q3, q4, kP, hkP, hkPi⟩ := Cond.selects_spec hsel
  cases hcls.symm.trans q1
  cases (State.methodFound?_of_named hnamed hy).symm.trans q2
  cases hnamed.symm.trans q3
  have hselP : selectMethod e.platform s.vm cellB.cls mk = .method mk := by rw [Launch.admits_selectMethod X.admits]; exact q4
  obtain ⟨vm₁, X₁, hstep₁⟩ := X.invokevirtual hexec hown hlink hnamed hmethM hstM hkP hkPi hy (a := b) (cell := cellB) hcell
    (fun z h => by rw [h] at hobj; cases hobj) hselP hmethM habM hkP hkPi (g := g) hg (argsL := argsL) (rest := rest) (hlen _ hsigM) hstack hdg
  rcases hK m meth c ⟨T.setVm vm₁, locs, cells, slots⟩ { g with stack := rest } (.invokevirtual index) mk (Value.ref b :: argsL).toArray X₁ hg hsize hdg hW (X₁.named hnamed) (hpre vm₁ X₁.warmed) with ⟨v, B, X', hpost, hsteps⟩ | ⟨q, B, X', hpost, hsteps⟩
  · exact Or.inl ⟨v, vm₁, B, X₁.warmed, X', hpost, fun target h => hstep₁ _ fun acts => by rw [doInvoke_state]; exact hsteps.trans h⟩
  · exact Or.inr ⟨q, vm₁, B, X₁.warmed, X', hpost, hstep₁ _ fun acts => by rw [doInvoke_state]; exact hsteps⟩
theorem vx_callS (X : Stand p l e R s m args below meth c T locs cells slots) (hexec : p.tables.exec = Jvm.exec) {own : String} {index : Nat} {y : MethodName} {bytes : ByteArray} {maxL : Nat} {ret : Option FieldType}
    (hown : s.vm.findClass own = some m.cls) (hlink : (Cond.methodLink own index y).before args s = true) (hstat : (Cond.static y).before args s = true) (hinit : (Cond.initialized y.cls).before args s = true)
    (hcode : (Cond.code y bytes maxL ret).before args s = true) (hy : y.cls ≠ "java/lang/invoke/MethodHandle" ∧ y.cls ≠ "java/lang/invoke/VarHandle")
    {W9 : Nat} {Pre : Pt → Array Value → Prop} {Post : Pt → Array Value → Option Value → Pt → Prop} {PostX : Pt → Array Value → Addr → Pt → Prop} (hK : vx_Back l R p e below s args y 3 W9 Pre Post PostX)
    {g : JFrame} (hg : g.method = m) (hsize : g.locals.size = c.maxLocals) {argsL rest : List Value} (hlen : ∀ sig, parseMethodDescriptor y.desc = some sig → argsL.length = sig.parameters.length)
    (hstack : g.stack = argsL.reverse ++ rest) (hW : 2 * g.monitorRoom + (rest.map fun v => v.category).sum ≤ W9) (hdg : decode c.code g.pc = .ok (.invokestatic index, 3))
    (hpre : ∀ vm₁, s.WarmedH vm₁ → Pre ⟨T.setVm vm₁, locs, cells, slots⟩ argsL.toArray) :
    (∃ (v : Option Value) (vm₁ : Vm) (B : Pt), s.WarmedH vm₁ ∧ Stand p l e R s m args below meth c B.U B.locs B.cells B.slots ∧ Post ⟨T.setVm vm₁, locs, cells, slots⟩ argsL.toArray v B ∧
      ∀ target, Steps p.tables e below (B.U.setTop { g with pc := g.pc + 3, stack := v.toList ++ rest }) target → Steps p.tables e below (T.setTop g) target) ∨
    (∃ (q : Addr) (vm₁ : Vm) (B : Pt), s.WarmedH vm₁ ∧ Stand p l e R s m args below meth c B.U B.locs B.cells B.slots ∧ PostX ⟨T.setVm vm₁, locs, cells, slots⟩ argsL.toArray q B ∧
      Steps p.tables e below (T.setTop g) ((B.U.setTop { g with stack := rest }).pushFrame (.throwing q))) := by
  obtain ⟨mk, hnamed⟩ := Cond.code_named hcode
  obtain ⟨methM, cM, hmethM, -, -, -, -, -, -, hsigM⟩ := Cond.code_spec hnamed hcode
  have hstatic : methM.isStatic = true := Cond.static_spec hnamed hmethM hstat
  obtain ⟨kP, hkP, -⟩ := className_of_methodNamed hnamed
  have hinitP : kP.init = .initialized := Cond.initialized_spec (findClass_of_methodNamed hnamed) hkP hinit
  obtain ⟨vm₁, X₁, hstep₁⟩ := X.invokestatic hexec hown hlink hnamed hmethM hstatic hkP hinitP hy (g := g) hg (argsL := argsL) (rest := rest) (hlen _ hsigM) hstack hdg
  rcases hK m meth c ⟨T.setVm vm₁, locs, cells, slots⟩ { g with stack := rest } (.invokestatic index) mk argsL.toArray X₁ hg hsize hdg hW (X₁.named hnamed) (hpre vm₁ X₁.warmed) with ⟨v, B, X', hpost, hsteps⟩ | ⟨q, B, X', hpost, hsteps⟩
  · exact Or.inl ⟨v, vm₁, B, X₁.warmed, X', hpost, fun target h => hstep₁ _ fun acts => by rw [doInvoke_state]; exact hsteps.trans h⟩
  · exact Or.inr ⟨q, vm₁, B, X₁.warmed, X', hpost, hstep₁ _ fun acts => by rw [doInvoke_state]; exact hsteps⟩
end Calls
theorem vx_cls {s : State} {T : State} {vm₁ : Vm} {E : String} {k : ClassId} (hW : s.WarmedH vm₁) (h : (T.setVm vm₁).vm.findClass E = some k) : s.vm.findClass E = some k := by
  have h1 : vm₁.findClass E = some k := h
  rw [hW.alike.findClass] at h1
  exact h1
/-- the method's frame g, with q thrown over it -/
def vx_W (p : Program) (l : Launch) (e : Env) (R : Room) (s : State) (m : MethodId) (args : Array Value) (below : List Frame) (meth : Method) (c : Code) (H : Heap) (locs : List Loc) (cells slots : Nat) (Q : State → Prop) (g : JFrame) (q : Addr) : Prop :=
  ∀ T : State, T.heap = H → Stand p l e R s m args below meth c T locs cells slots → ∃ t, Steps p.tables e below ((T.setTop g).pushFrame (.throwing q)) t ∧ Q t
def vx_Run (p : Program) (l : Launch) (e : Env) (R : Room) (s : State) (m : MethodId) (args : Array Value) (below : List Frame) (meth : Method) (c : Code) (H : Heap) (locs : List Loc) (cells slots mc ms : Nat) (g : JFrame) (rest : List Value) (Qa : State → Outcome → State → Prop) (XC : String → State → State → Prop) (free : Addr → Prop) : Prop :=
  ∀ T : State, T.heap = H → Stand p l e R s m args below meth c T locs cells slots →
    (∃ (v : Option Value) (st₀ t T' : State) (L : List Loc), st₀.heap = H ∧ Stand p l e R s m args below meth c T' (locs ++ L) (cells + mc) (slots + ms) ∧ (∀ q ∈ L, free q.base) ∧ T'.heap = t.heap ∧ T'.vm = t.vm ∧ Qa st₀ (.returned v) t ∧
      Goes p e below T g T' { g with pc := g.pc + 3, stack := v.toList ++ rest }) ∨
    (∃ (q : Addr) (st₀ t T' : State) (L : List Loc) (E : String) (ce : Cell), st₀.heap = H ∧ Stand p l e R s m args below meth c T' (locs ++ L) (cells + mc) (slots + ms) ∧ (∀ z ∈ L, free z.base) ∧ T'.heap = t.heap ∧ T'.vm = t.vm ∧ XC E st₀ t ∧ t.heap[q]? = some ce ∧ ce.vm = .none ∧ s.vm.findClass E = some ce.cls ∧
      Steps p.tables e below (T.setTop g) ((T'.setTop { g with stack := rest }).pushFrame (.throwing q)))
def vx_X {S : Type} (px : S → Prop) (B : String → S → State → Prop) (A : Nat → Prop) : String → State → State → Prop := fun E st t => ∃ u : S, px u ∧ B E u t ∧ va_F A st t
section Runs
variable {p : Program} {l : Launch} {e : Env} {R : Room} {s : State} {m : MethodId} {args : Array Value} {below : List Frame} {meth : Method} {c : Code} {H : Heap} {locs : List Loc} {cells slots : Nat}
variable {y : MethodName} {bytes cc : ByteArray} {maxL nL mc ms n index : Nat} {ret : Option FieldType} {ws : List Cond} {rm : Room} {Pc : Array Value → State → Prop} {Qc : Array Value → State → Outcome → State → Prop} {XC : String → State → State → Prop} {free : Addr → Prop} {Ts : List Cond} {own C : String} {b : Addr} {As rest : List Value} {g : JFrame}
theorem vx_callBack (cb : CallB R s args own index y bytes maxL ret ws rm mc ms n) (hM : vx_Met l y ws rm Pc Qc XC mc ms free) (hbl : FrameBlind Pc) : vx_Back l R p e below s args y 3 8 (PreOf R mc ms Pc) (PostOf Qc mc ms free) (vx_Post XC mc ms free) := by
  obtain ⟨hrc, hrs, hfr, hlo, hws, hcw, -, hini, -⟩ := cb
  exact vx_back (bytes := bytes) (maxL := maxL) (ret := ret) hM hbl hrc hrs hfr hlo hws hcw (fun a' U hW => word_at hW (Or.inl (by first | rfl | simp [Cond.onTables, Cond.keeps, Cond.steady])) hini)
theorem vx_runV (S : CallFix p m c cc nL s args Ts own) (hM : vx_Met l y ws rm Pc Qc XC mc ms free) (cw : CallW R s args own C index y bytes maxL ret ws rm mc ms n) (hp : PreV s H C b Pc As)
    (hg : g.method = m) (hn : As.length = n) (hsize : g.locals.size = nL) (hstack : g.stack = As.reverse ++ .ref b :: rest) (hW : 2 * g.monitorRoom + (rest.map fun v => v.category).sum ≤ 8) (hdg : decode cc g.pc = .ok (.invokevirtual index, 3)) (hf : cells + mc ≤ R.cells ∧ slots + ms ≤ R.slots) :
    vx_Run p l e R s m args below meth c H locs cells slots mc ms g rest (Qc (Value.ref b :: As).toArray) XC free := by
  have hK : vx_Back l R p e below s args y 3 8 (PreOf R mc ms Pc) (PostOf Qc mc ms free) (vx_Post XC mc ms free) := vx_callBack cw.1 hM hp.1
  obtain ⟨⟨-, -, -, -, -, -, hcode, -, hy, hlen, hl⟩, hin, hse⟩ := cw
  obtain ⟨hx, hb, hml, ho, -⟩ := S
  obtain ⟨-, ⟨cellB, hcB, hoB, hclB⟩, hPc⟩ := hp
  intro T hT X
  rcases vx_callV X hx (C := C) (bytes := bytes) (maxL := maxL) (ret := ret) ho hl hin hse hcode hy hK (by rw [hT]; exact hcB) hoB hclB hg (hsize.trans hml.symm) (argsL := As) (rest := rest) (fun sig h => hn.trans (hlen sig h)) hstack hW (by rw [hb]; exact hdg)
    (fun vm₁ hW₁ => ⟨hf.1, hf.2, hPc (T.setVm vm₁) hT hW₁⟩) with ⟨v, vm₁, ⟨U', l2, c2, s2⟩, hW₁, X', ⟨g', mk, t, L, e1, e2, hq, h1, hL, h2, h3⟩, st⟩ | ⟨q, vm₁, ⟨U', l2, c2, s2⟩, hW₁, X', ⟨g', mk, t, L, E, ce, e1, e2, hq, hce, hcv, hcl, h1, hL, h2, h3⟩, st⟩
  · dsimp only [Pt.U, Pt.locs, Pt.cells, Pt.slots] at X' e1 e2 h1 h2 h3 st
    subst h1; subst h2; subst h3
    exact Or.inl ⟨v, (T.setVm vm₁).calling g' mk (Value.ref b :: As).toArray, t, U', L, hT, X', hL, e1, e2, hq, st⟩
  · dsimp only [Pt.U, Pt.locs, Pt.cells, Pt.slots] at X' e1 e2 h1 h2 h3 st hcl
    subst h1; subst h2; subst h3
    exact Or.inr ⟨q, (T.setVm vm₁).calling g' mk (Value.ref b :: As).toArray, t, U', L, E, ce, hT, X', hL, e1, e2, hq, hce, hcv, vx_cls hW₁ hcl, st⟩
theorem vx_runS (S : CallFix p m c cc nL s args Ts own) (hM : vx_Met l y ws rm Pc Qc XC mc ms free) (cw : CallB R s args own index y bytes maxL ret ws rm mc ms n ∧ (Cond.static y).before args s = true) (hp : PreS s H Pc As)
    (hg : g.method = m) (hn : As.length = n) (hsize : g.locals.size = nL) (hstack : g.stack = As.reverse ++ rest) (hW : 2 * g.monitorRoom + (rest.map fun v => v.category).sum ≤ 8) (hdg : decode cc g.pc = .ok (.invokestatic index, 3)) (hf : cells + mc ≤ R.cells ∧ slots + ms ≤ R.slots) :
    vx_Run p l e R s m args below meth c H locs cells slots mc ms g rest (Qc As.toArray) XC free := by
  have hK : vx_Back l R p e below s args y 3 8 (PreOf R mc ms Pc) (PostOf Qc mc ms free) (vx_Post XC mc ms free) := vx_callBack cw.1 hM hp.1
  obtain ⟨⟨-, -, -, -, -, -, hcode, hini, hy, hlen, hl⟩, hstt⟩ := cw
  obtain ⟨hx, hb, hml, ho, -⟩ := S
  intro T hT X
  rcases vx_callS X hx (bytes := bytes) (maxL := maxL) (ret := ret) ho hl hstt hini hcode hy hK hg (hsize.trans hml.symm) (argsL := As) (rest := rest) (fun sig h => hn.trans (hlen sig h)) hstack hW (by rw [hb]; exact hdg)
    (fun vm₁ hW₁ => ⟨hf.1, hf.2, hp.2 (T.setVm vm₁) hT hW₁⟩) with ⟨v, vm₁, ⟨U', l2, c2, s2⟩, hW₁, X', ⟨g', mk, t, L, e1, e2, hq, h1, hL, h2, h3⟩, st⟩ | ⟨q, vm₁, ⟨U', l2, c2, s2⟩, hW₁, X', ⟨g', mk, t, L, E, ce, e1, e2, hq, hce, hcv, hcl, h1, hL, h2, h3⟩, st⟩
  · dsimp only [Pt.U, Pt.locs, Pt.cells, Pt.slots] at X' e1 e2 h1 h2 h3 st
    subst h1; subst h2; subst h3
    exact Or.inl ⟨v, (T.setVm vm₁).calling g' mk As.toArray, t, U', L, hT, X', hL, e1, e2, hq, st⟩
  · dsimp only [Pt.U, Pt.locs, Pt.cells, Pt.slots] at X' e1 e2 h1 h2 h3 st hcl
    subst h1; subst h2; subst h3
    exact Or.inr ⟨q, (T.setVm vm₁).calling g' mk As.toArray, t, U', L, E, ce, hT, X', hL, e1, e2, hq, hce, hcv, vx_cls hW₁ hcl, st⟩
end Runs
section Rows
variable {p : Program} {l : Launch} {e : Env} {R : Room} {s : State} {m : MethodId} {args : Array Value} {below : List Frame} {meth : Method} {c : Code} {H : Heap} {locs : List Loc} {cells slots : Nat} {Q : State → Prop}
variable {mc ms : Nat} {free : Addr → Prop} {A0 A1 : Nat → Prop} {H0 : Heap} {a : Array Value} {pc : Nat} {ls : Array Slot} {st0 rest : List Value}
theorem vx_keep {st₀ t T' : State} {L : List Loc} (h0 : st₀.heap = H) (e1 : T'.heap = t.heap) (hS : va_S A0 H0 H locs) (hA : ∀ q, q < H.size → A1 q → A0 q) (hf : ∀ q, free q → A0 q) (hL : ∀ q ∈ L, free q.base) (hF : va_F A1 st₀ t) :
    H.size ≤ T'.heap.size ∧ (∀ q : Nat, q < H.size → ¬ A1 q → T'.heap[q]? = H[q]?) ∧ va_S A0 H0 T'.heap (locs ++ L) := by
  obtain ⟨hz, hk⟩ := hF
  rw [h0] at hz hk
  exact ⟨by rw [e1]; exact hz, fun q h1 h2 => by rw [e1]; exact hk q h1 h2,
    ⟨Nat.le_trans hS.1 (by rw [e1]; exact hz), fun q h1 h2 => by rw [e1, hk q (Nat.lt_of_lt_of_le h1 hS.1) (fun z => h2 (hA q (Nat.lt_of_lt_of_le h1 hS.1) z))]; exact hS.2.1 q h1 h2, fun q hq => by
      rcases List.mem_append.mp hq with h | h
      · exact hS.2.2 q h
      · exact hf _ (hL q h)⟩⟩
theorem vx_calli {S SX : Type} {post : Int32 → S → Prop} {px : SX → Prop} {B : S → State → Prop} {BX : String → SX → State → Prop} {AX : Nat → Prop} (hr : vx_Run p l e R s m args below meth c H locs cells slots mc ms (F0 m pc ls st0) rest (va_Qi post B A1 a) (vx_X px BX AX) free) (hS : va_S A0 H0 H locs) (hA : ∀ q, q < H.size → A1 q → A0 q) (hf : ∀ q, free q → A0 q) (hAX : ∀ q, q < H.size → AX q → A0 q)
    (kx : ∀ (E : String) (ce : Cell) (q9 : Addr) (u : SX) (t : State) (H1 : Heap) (locs1 : List Loc), t.heap = H1 → s.vm.Alike t.vm → px u → BX E u t → H.size ≤ H1.size → (∀ q : Nat, q < H.size → ¬ AX q → H1[q]? = H[q]?) → va_S A0 H0 H1 locs1 → H1[q9]? = some ce → ce.vm = .none → s.vm.findClass E = some ce.cls → vx_W p l e R s m args below meth c H1 locs1 (cells + mc) (slots + ms) Q (F0 m pc ls rest) q9)
    (kk : ∀ (r : Int32) (u : S) (t : State) (H1 : Heap) (locs1 : List Loc), t.heap = H1 → s.vm.Alike t.vm → post r u → B u t → H.size ≤ H1.size → (∀ q : Nat, q < H.size → ¬ A1 q → H1[q]? = H[q]?) → va_S A0 H0 H1 locs1 → W p l e R s m args below meth c H1 locs1 (cells + mc) (slots + ms) Q (F0 m (pc + 3) ls (.int r :: rest))) : W p l e R s m args below meth c H locs cells slots Q (F0 m pc ls st0) := by
  intro T hT X
  rcases hr T hT X with ⟨v, st₀, t, T', L, h0, X', hL, e1, e2, ⟨⟨r, u, hv, hp, hb⟩, hF⟩, st⟩ | ⟨q, st₀, t, T', L, E, ce, h0, X', hL, e1, e2, ⟨u, hp, hb, hF⟩, hce, hcv, hcl, st⟩
  · cases hv
    obtain ⟨k1, k2, k3⟩ := vx_keep h0 e1 hS hA hf hL hF
    obtain ⟨t2, a1, b1⟩ := kk r u t T'.heap (locs ++ L) e1.symm (by rw [← e2]; exact X'.warmed.alike) hp hb k1 k2 k3 T' rfl X'
    exact ⟨t2, st t2 a1, b1⟩
  · obtain ⟨k1, k2, k3⟩ := vx_keep h0 e1 hS hAX hf hL hF
    obtain ⟨t2, a1, b1⟩ := kx E ce q u t T'.heap (locs ++ L) e1.symm (by rw [← e2]; exact X'.warmed.alike) hp hb k1 k2 k3 (by rw [e1]; exact hce) hcv hcl T' rfl X'
    exact ⟨t2, st.trans a1, b1⟩
theorem vx_calll {S SX : Type} {post : Int64 → S → Prop} {px : SX → Prop} {B : S → State → Prop} {BX : String → SX → State → Prop} {AX : Nat → Prop} (hr : vx_Run p l e R s m args below meth c H locs cells slots mc ms (F0 m pc ls st0) rest (va_Ql post B A1 a) (vx_X px BX AX) free) (hS : va_S A0 H0 H locs) (hA : ∀ q, q < H.size → A1 q → A0 q) (hf : ∀ q, free q → A0 q) (hAX : ∀ q, q < H.size → AX q → A0 q)
    (kx : ∀ (E : String) (ce : Cell) (q9 : Addr) (u : SX) (t : State) (H1 : Heap) (locs1 : List Loc), t.heap = H1 → s.vm.Alike t.vm → px u → BX E u t → H.size ≤ H1.size → (∀ q : Nat, q < H.size → ¬ AX q → H1[q]? = H[q]?) → va_S A0 H0 H1 locs1 → H1[q9]? = some ce → ce.vm = .none → s.vm.findClass E = some ce.cls → vx_W p l e R s m args below meth c H1 locs1 (cells + mc) (slots + ms) Q (F0 m pc ls rest) q9)
    (kk : ∀ (r : Int64) (u : S) (t : State) (H1 : Heap) (locs1 : List Loc), t.heap = H1 → s.vm.Alike t.vm → post r u → B u t → H.size ≤ H1.size → (∀ q : Nat, q < H.size → ¬ A1 q → H1[q]? = H[q]?) → va_S A0 H0 H1 locs1 → W p l e R s m args below meth c H1 locs1 (cells + mc) (slots + ms) Q (F0 m (pc + 3) ls (.long r :: rest))) : W p l e R s m args below meth c H locs cells slots Q (F0 m pc ls st0) := by
  intro T hT X
  rcases hr T hT X with ⟨v, st₀, t, T', L, h0, X', hL, e1, e2, ⟨⟨r, u, hv, hp, hb⟩, hF⟩, st⟩ | ⟨q, st₀, t, T', L, E, ce, h0, X', hL, e1, e2, ⟨u, hp, hb, hF⟩, hce, hcv, hcl, st⟩
  · cases hv
    obtain ⟨k1, k2, k3⟩ := vx_keep h0 e1 hS hA hf hL hF
    obtain ⟨t2, a1, b1⟩ := kk r u t T'.heap (locs ++ L) e1.symm (by rw [← e2]; exact X'.warmed.alike) hp hb k1 k2 k3 T' rfl X'
    exact ⟨t2, st t2 a1, b1⟩
  · obtain ⟨k1, k2, k3⟩ := vx_keep h0 e1 hS hAX hf hL hF
    obtain ⟨t2, a1, b1⟩ := kx E ce q u t T'.heap (locs ++ L) e1.symm (by rw [← e2]; exact X'.warmed.alike) hp hb k1 k2 k3 (by rw [e1]; exact hce) hcv hcl T' rfl X'
    exact ⟨t2, st.trans a1, b1⟩
theorem vx_callf {S SX : Type} {post : UInt32 → S → Prop} {px : SX → Prop} {B : S → State → Prop} {BX : String → SX → State → Prop} {AX : Nat → Prop} (hr : vx_Run p l e R s m args below meth c H locs cells slots mc ms (F0 m pc ls st0) rest (va_Qf post B A1 a) (vx_X px BX AX) free) (hS : va_S A0 H0 H locs) (hA : ∀ q, q < H.size → A1 q → A0 q) (hf : ∀ q, free q → A0 q) (hAX : ∀ q, q < H.size → AX q → A0 q)
    (kx : ∀ (E : String) (ce : Cell) (q9 : Addr) (u : SX) (t : State) (H1 : Heap) (locs1 : List Loc), t.heap = H1 → s.vm.Alike t.vm → px u → BX E u t → H.size ≤ H1.size → (∀ q : Nat, q < H.size → ¬ AX q → H1[q]? = H[q]?) → va_S A0 H0 H1 locs1 → H1[q9]? = some ce → ce.vm = .none → s.vm.findClass E = some ce.cls → vx_W p l e R s m args below meth c H1 locs1 (cells + mc) (slots + ms) Q (F0 m pc ls rest) q9)
    (kk : ∀ (r : UInt32) (u : S) (t : State) (H1 : Heap) (locs1 : List Loc), t.heap = H1 → s.vm.Alike t.vm → post r u → B u t → H.size ≤ H1.size → (∀ q : Nat, q < H.size → ¬ A1 q → H1[q]? = H[q]?) → va_S A0 H0 H1 locs1 → W p l e R s m args below meth c H1 locs1 (cells + mc) (slots + ms) Q (F0 m (pc + 3) ls (.float r :: rest))) : W p l e R s m args below meth c H locs cells slots Q (F0 m pc ls st0) := by
  intro T hT X
  rcases hr T hT X with ⟨v, st₀, t, T', L, h0, X', hL, e1, e2, ⟨⟨r, u, hv, hp, hb⟩, hF⟩, st⟩ | ⟨q, st₀, t, T', L, E, ce, h0, X', hL, e1, e2, ⟨u, hp, hb, hF⟩, hce, hcv, hcl, st⟩
  · cases hv
    obtain ⟨k1, k2, k3⟩ := vx_keep h0 e1 hS hA hf hL hF
    obtain ⟨t2, a1, b1⟩ := kk r u t T'.heap (locs ++ L) e1.symm (by rw [← e2]; exact X'.warmed.alike) hp hb k1 k2 k3 T' rfl X'
    exact ⟨t2, st t2 a1, b1⟩
  · obtain ⟨k1, k2, k3⟩ := vx_keep h0 e1 hS hAX hf hL hF
    obtain ⟨t2, a1, b1⟩ := kx E ce q u t T'.heap (locs ++ L) e1.symm (by rw [← e2]; exact X'.warmed.alike) hp hb k1 k2 k3 (by rw [e1]; exact hce) hcv hcl T' rfl X'
    exact ⟨t2, st.trans a1, b1⟩
theorem vx_calld {S SX : Type} {post : UInt64 → S → Prop} {px : SX → Prop} {B : S → State → Prop} {BX : String → SX → State → Prop} {AX : Nat → Prop} (hr : vx_Run p l e R s m args below meth c H locs cells slots mc ms (F0 m pc ls st0) rest (va_Qd post B A1 a) (vx_X px BX AX) free) (hS : va_S A0 H0 H locs) (hA : ∀ q, q < H.size → A1 q → A0 q) (hf : ∀ q, free q → A0 q) (hAX : ∀ q, q < H.size → AX q → A0 q)
    (kx : ∀ (E : String) (ce : Cell) (q9 : Addr) (u : SX) (t : State) (H1 : Heap) (locs1 : List Loc), t.heap = H1 → s.vm.Alike t.vm → px u → BX E u t → H.size ≤ H1.size → (∀ q : Nat, q < H.size → ¬ AX q → H1[q]? = H[q]?) → va_S A0 H0 H1 locs1 → H1[q9]? = some ce → ce.vm = .none → s.vm.findClass E = some ce.cls → vx_W p l e R s m args below meth c H1 locs1 (cells + mc) (slots + ms) Q (F0 m pc ls rest) q9)
    (kk : ∀ (r : UInt64) (u : S) (t : State) (H1 : Heap) (locs1 : List Loc), t.heap = H1 → s.vm.Alike t.vm → post r u → B u t → H.size ≤ H1.size → (∀ q : Nat, q < H.size → ¬ A1 q → H1[q]? = H[q]?) → va_S A0 H0 H1 locs1 → W p l e R s m args below meth c H1 locs1 (cells + mc) (slots + ms) Q (F0 m (pc + 3) ls (.double r :: rest))) : W p l e R s m args below meth c H locs cells slots Q (F0 m pc ls st0) := by
  intro T hT X
  rcases hr T hT X with ⟨v, st₀, t, T', L, h0, X', hL, e1, e2, ⟨⟨r, u, hv, hp, hb⟩, hF⟩, st⟩ | ⟨q, st₀, t, T', L, E, ce, h0, X', hL, e1, e2, ⟨u, hp, hb, hF⟩, hce, hcv, hcl, st⟩
  · cases hv
    obtain ⟨k1, k2, k3⟩ := vx_keep h0 e1 hS hA hf hL hF
    obtain ⟨t2, a1, b1⟩ := kk r u t T'.heap (locs ++ L) e1.symm (by rw [← e2]; exact X'.warmed.alike) hp hb k1 k2 k3 T' rfl X'
    exact ⟨t2, st t2 a1, b1⟩
  · obtain ⟨k1, k2, k3⟩ := vx_keep h0 e1 hS hAX hf hL hF
    obtain ⟨t2, a1, b1⟩ := kx E ce q u t T'.heap (locs ++ L) e1.symm (by rw [← e2]; exact X'.warmed.alike) hp hb k1 k2 k3 (by rw [e1]; exact hce) hcv hcl T' rfl X'
    exact ⟨t2, st.trans a1, b1⟩
theorem vx_callv {S SX : Type} {post : S → Prop} {px : SX → Prop} {B : S → State → Prop} {BX : String → SX → State → Prop} {AX : Nat → Prop} (hr : vx_Run p l e R s m args below meth c H locs cells slots mc ms (F0 m pc ls st0) rest (va_Qv post B A1 a) (vx_X px BX AX) free) (hS : va_S A0 H0 H locs) (hA : ∀ q, q < H.size → A1 q → A0 q) (hf : ∀ q, free q → A0 q) (hAX : ∀ q, q < H.size → AX q → A0 q)
    (kx : ∀ (E : String) (ce : Cell) (q9 : Addr) (u : SX) (t : State) (H1 : Heap) (locs1 : List Loc), t.heap = H1 → s.vm.Alike t.vm → px u → BX E u t → H.size ≤ H1.size → (∀ q : Nat, q < H.size → ¬ AX q → H1[q]? = H[q]?) → va_S A0 H0 H1 locs1 → H1[q9]? = some ce → ce.vm = .none → s.vm.findClass E = some ce.cls → vx_W p l e R s m args below meth c H1 locs1 (cells + mc) (slots + ms) Q (F0 m pc ls rest) q9)
    (kk : ∀ (u : S) (t : State) (H1 : Heap) (locs1 : List Loc), t.heap = H1 → s.vm.Alike t.vm → post u → B u t → H.size ≤ H1.size → (∀ q : Nat, q < H.size → ¬ A1 q → H1[q]? = H[q]?) → va_S A0 H0 H1 locs1 → W p l e R s m args below meth c H1 locs1 (cells + mc) (slots + ms) Q (F0 m (pc + 3) ls (rest))) : W p l e R s m args below meth c H locs cells slots Q (F0 m pc ls st0) := by
  intro T hT X
  rcases hr T hT X with ⟨v, st₀, t, T', L, h0, X', hL, e1, e2, ⟨⟨u, hv, hp, hb⟩, hF⟩, st⟩ | ⟨q, st₀, t, T', L, E, ce, h0, X', hL, e1, e2, ⟨u, hp, hb, hF⟩, hce, hcv, hcl, st⟩
  · cases hv
    obtain ⟨k1, k2, k3⟩ := vx_keep h0 e1 hS hA hf hL hF
    obtain ⟨t2, a1, b1⟩ := kk u t T'.heap (locs ++ L) e1.symm (by rw [← e2]; exact X'.warmed.alike) hp hb k1 k2 k3 T' rfl X'
    exact ⟨t2, st t2 a1, b1⟩
  · obtain ⟨k1, k2, k3⟩ := vx_keep h0 e1 hS hAX hf hL hF
    obtain ⟨t2, a1, b1⟩ := kx E ce q u t T'.heap (locs ++ L) e1.symm (by rw [← e2]; exact X'.warmed.alike) hp hb k1 k2 k3 (by rw [e1]; exact hce) hcv hcl T' rfl X'
    exact ⟨t2, st.trans a1, b1⟩
/-- caught by the row x of this method's table; the rows ahead don't take it -/
theorem vx_catch {own name : String} {E : String} {ce : Cell} {q : Addr} (hown : s.vm.findClass own = some m.cls) (pre : List ExceptionTableEntry) (x : ExceptionTableEntry) (suf : List ExceptionTableEntry) (hsplit : c.exceptionTable.toList = pre ++ x :: suf)
    (hpass : ∀ z ∈ pre, covers z pc = false ∨ (z.catchType ≠ 0 ∧ ∃ nm : String, (Cond.classLink own z.catchType nm).before args s = true ∧ va_Nc E nm s)) (hx : covers x pc = true) (h0 : x.catchType ≠ 0)
    (hlink : (Cond.classLink own x.catchType name).before args s = true) (hcast : (Cond.castable E name).before args s = true) (hcell : H[q]? = some ce) (hv : ce.vm = .none) (hcl : s.vm.findClass E = some ce.cls)
    (kk : W p l e R s m args below meth c H locs cells slots Q (F0 m x.handlerPc ls [.ref q])) : vx_W p l e R s m args below meth c H locs cells slots Q (F0 m pc ls rest) q := by
  intro T hT X
  have hpl : e.platform.magicAccessors = ({} : Platform).magicAccessors := by rw [X.admits.platform]
  obtain ⟨c3, c4, hc3, hc4, hasg⟩ := Cond.castable_spec hcast
  cases Option.some.inj (hc3.symm.trans hcl)
  obtain ⟨c5, hc5, hcl5⟩ := Cond.classLink_spec hown hlink e.platform hpl
  cases Option.some.inj (hc4.symm.trans hc5)
  obtain ⟨vm', X', st⟩ := X.thenCaughtThrough q (g := F0 m pc ls rest) rfl (Steps.refl _) (by rw [hT]; exact hcell) (by rw [hv]; rfl) (by obtain ⟨k9, h9, -⟩ := Vm.findClass_spec hcl; exact ⟨k9, h9⟩) pre x suf hsplit
    (fun z hz => by
      rcases hpass z hz with h | ⟨hz0, nm, hl1, hn1⟩
      · exact Or.inl h
      · obtain ⟨c6, hc6, hcl6⟩ := Cond.classLink_spec hown hl1 e.platform hpl
        obtain ⟨a8, b8, h1, h2, h3⟩ := hn1
        cases Option.some.inj (h1.symm.trans hcl)
        cases Option.some.inj (h2.symm.trans hc6)
        exact Or.inr ⟨hz0, _, hcl6, h3⟩) hx (Or.inr ⟨h0, c4, hcl5, hasg⟩)
  obtain ⟨t, a1, b1⟩ := kk (T.setVm vm') hT X'
  exact ⟨t, st.trans a1, b1⟩
end Rows
section Ends
variable {p : Program} {l : Launch} {e : Env} {R : Room} {s : State} {m : MethodId} {args : Array Value} {below : List Frame} {meth : Method} {c : Code} {H : Heap} {locs : List Loc} {cells slots : Nat} {Q : State → Prop}
variable {mc ms : Nat} {free : Addr → Prop} {A0 A1 : Nat → Prop} {H0 : Heap} {a : Array Value} {ls : Array Slot} {st0 rest : List Value}
variable {Qc : Array Value → State → Outcome → State → Prop} {XC : String → State → State → Prop}
/-- what a body that may throw owes at its end -/
def vx_MQ (below : List Frame) (Qc : Array Value → State → Outcome → State → Prop) (XC : String → State → State → Prop) (a : Array Value) (s : State) (mc ms : Nat) (free : Addr → Prop) : State → Prop := fun t =>
  ∃ o, t.status = .running ∧ Ended t below o ∧ vx_Q Qc XC mc ms free a s o t
theorem vx_ret {g : JFrame} {mc ms : Nat} (k : W p l e R s m args below meth c H locs cells slots (MQ below Qc args s mc ms free) g) : W p l e R s m args below meth c H locs cells slots (vx_MQ below Qc XC args s mc ms free) g := by
  intro T hT X
  obtain ⟨t, a1, o, b1, b2, b3, b4⟩ := k T hT X
  exact ⟨t, a1, o, b1, b2, Or.inl ⟨b3, b4⟩⟩
/-- not caught here: it goes on to the caller -/
theorem vx_widen {g : JFrame} {q : Addr} {k n : Nat} (h1 : cells ≤ k) (h2 : slots ≤ n) (kk : vx_W p l e R s m args below meth c H locs k n Q g q) : vx_W p l e R s m args below meth c H locs cells slots Q g q := fun T hT X => kk T hT (stand_widen X h1 h2)
theorem vx_out {pc : Nat} {E : String} {ce : Cell} {q : Addr} {mc ms : Nat} (hout : ∀ x ∈ c.exceptionTable.toList, covers x pc = false) (hlocks : meth.locks = false) (hcell : H[q]? = some ce) (hv : ce.vm = .none) (hcl : s.vm.findClass E = some ce.cls)
    (hx : ∀ t : State, t.heap = H → s.vm.Alike t.vm → XC E s t) (hf : ∀ z ∈ locs, free z.base) (hc : cells ≤ mc) (hs : slots ≤ ms) :
    vx_W p l e R s m args below meth c H locs cells slots (vx_MQ below Qc XC args s mc ms free) (F0 m pc ls rest) q := by
  intro T hT X
  obtain ⟨st1, hrun, hend, hW, hsm⟩ := X.leaveThrown q (g := F0 m pc ls rest) rfl rfl rfl hout hlocks
  have hcell9 : (T.setFrames (.throwing q :: below)).heap[q]? = some ce := by
    show T.heap[q]? = some ce
    rw [hT]; exact hcell
  exact ⟨_, st1, .threw q, hrun, hend, Or.inr ⟨q, rfl, E, ce, locs, hx _ hT hW.alike, hcell9, hv, hcl, hW, hsm.mono hc hs, hf⟩⟩
theorem vx_frame {U : State} {k n : Nat} (h : s.sameButNew ({ U with vm := s.vm } : State) locs k n) : s.heap.size ≤ U.heap.size ∧ ∀ q : Nat, q < s.heap.size → (∀ z ∈ locs, z.base ≠ q) → U.heap[q]? = s.heap[q]? := by
  obtain ⟨-, h2, -, -, -, h6⟩ := h
  refine ⟨h2, fun q hq hz => ?_⟩
  obtain ⟨c9, e1, e2, e3, e4⟩ := h6 q _ (Array.getElem?_eq_getElem hq)
  have hs : c9.slots = (s.heap[q]).slots := Array.ext_getElem? fun i => e4 i fun hm => hz _ hm rfl
  have h9 : c9 = s.heap[q] := by
    rw [hs] at e2
    exact e2
  have e5 : U.heap[q]? = some c9 := e1
  rw [e5, h9, Array.getElem?_eq_getElem hq]
/-- the words of a throw but the four that speak of the heap -/
def vx_no (w : Cond) : Bool := decide (w ≠ .isRef (.static Bundle.tN "UNASSIGNED_STACK" Bundle.steD)) && decide (w ≠ .isRef (.static Bundle.tN "SUPPRESSED_SENTINEL" Bundle.listD)) && decide (w ≠ .laysStatic Bundle.tN "UNASSIGNED_STACK" Bundle.steD) && decide (w ≠ .laysStatic Bundle.tN "SUPPRESSED_SENTINEL" Bundle.listD)
def vx_at0 (own : String) (ic : Nat) (X : String) (names : List String) : List Cond := (Bundle.ownAtoms0 own ic X names).filter vx_no
def vx_atS (own : String) (ic : Nat) (X : String) (names : List String) : List Cond := (Bundle.ownAtoms own ic X names).filter vx_no
/-- a word that the tables alone decide, or a good one -/
def vx_ot (w : Cond) : Bool := w.onTables || goodWord w
theorem vx_ot_at {args a' : Array Value} {s U : State} {w : Cond} (hW : s.WarmedH U.vm) (hvm : s.vm = U.vm) (hg : vx_ot w = true) (h : w.before args s = true) : w.before a' U = true := by
  simp only [vx_ot, Bool.or_eq_true] at hg
  rcases hg with hg | hg
  · exact va_tabs hg hvm h
  · exact word_at hW (good_of_word hg) h
/-- a list's words: the good ones out of the method's own list, the others by premises of their own -/
theorem vx_hat {args : Array Value} {s : State} {L B : List Cond} (h1 : ∀ w ∈ L.filter goodWord, w.before args s = true) (h2 : ∀ w ∈ L.filter (fun w => !goodWord w), w ∈ B) (h3 : ∀ w ∈ B, w.before args s = true) : ∀ w ∈ L, w.before args s = true := by
  intro w hw
  by_cases g : goodWord w = true
  · exact h1 w (List.mem_filter.mpr ⟨hw, g⟩)
  · refine h3 w (h2 w (List.mem_filter.mpr ⟨hw, ?_⟩))
    show (!goodWord w) = true
    cases hgw : goodWord w
    · rfl
    · exact absurd hgw g
theorem vx_c {args : Array Value} {s : State} {w : Cond} {B : List Cond} (h : w.before args s = true) (t : ∀ w ∈ B, w.before args s = true) : ∀ w' ∈ w :: B, w'.before args s = true := fun w' h' => (List.mem_cons.mp h').elim (fun e => by rw [e]; exact h) (t w')
theorem vx_n {args : Array Value} {s : State} : ∀ w ∈ ([] : List Cond), w.before args s = true := fun _ h => nomatch h
theorem vx_own {args : Array Value} {s : State} {L : List Cond} (h1 : ∀ w ∈ L.filter vx_no, w.before args s = true)
    (hU : (Cond.isRef (.static Bundle.tN "UNASSIGNED_STACK" Bundle.steD)).before args s = true) (hN : (Cond.isRef (.static Bundle.tN "SUPPRESSED_SENTINEL" Bundle.listD)).before args s = true)
    (lU : (Cond.laysStatic Bundle.tN "UNASSIGNED_STACK" Bundle.steD).before args s = true) (lN : (Cond.laysStatic Bundle.tN "SUPPRESSED_SENTINEL" Bundle.listD).before args s = true) : ∀ w ∈ L, w.before args s = true := by
  intro w hw
  by_cases e1 : w = .isRef (.static Bundle.tN "UNASSIGNED_STACK" Bundle.steD)
  · rw [e1]; exact hU
  · by_cases e2 : w = .isRef (.static Bundle.tN "SUPPRESSED_SENTINEL" Bundle.listD)
    · rw [e2]; exact hN
    · by_cases e3 : w = .laysStatic Bundle.tN "UNASSIGNED_STACK" Bundle.steD
      · rw [e3]; exact lU
      · by_cases e4 : w = .laysStatic Bundle.tN "SUPPRESSED_SENTINEL" Bundle.listD
        · rw [e4]; exact lN
        · exact h1 w (List.mem_filter.mpr ⟨hw, by unfold vx_no; rw [decide_eq_true e1, decide_eq_true e2, decide_eq_true e3, decide_eq_true e4]; rfl⟩)
/-- where a static field lies, its class's statics cell in H -/
def vx_L (C n d : String) (A : Nat → Prop) (U : State) (H : Heap) : Prop := ∃ (c : ClassId) (k : Class) (i : Nat) (f : Field) (a : Nat) (cell : Cell), U.vm.findClass C = some c ∧ U.fieldFound? C n d = some (c, k, i, f) ∧ f.isStatic = true ∧ k.statics = some a ∧ H[a]? = some cell ∧ cell.vm.isStatics = true ∧ cell.cls = c ∧ f.slot < cell.slots.size ∧ k.staticTypes[f.slot]? = some f.type ∧ ¬ A a
theorem vx_L.moved {C n d : String} {A : Nat → Prop} {u U : State} {H : Heap} (hvm : u.vm.Alike U.vm) (h : vx_L C n d A u H) : vx_L C n d A U H := by
  obtain ⟨c, k, i, f, a, cell, h1, h2, h3, h4, h5, h6, h7, h8, h9, h10⟩ := h
  obtain ⟨k', hi', he⟩ := State.fieldFound?_setVm hvm h2
  exact ⟨c, k', i, f, a, cell, by rw [hvm.findClass]; exact h1, hi', h3, by rw [he]; exact h4, h5, h6, h7, h8, by rw [he]; exact h9, h10⟩
theorem vx_L.kept {C n d : String} {A : Nat → Prop} {U : State} {H H1 : Heap} (h : vx_L C n d A U H) (hq : ∀ a : Nat, a < H.size → ¬ A a → H1[a]? = H[a]?) : vx_L C n d A U H1 := by
  obtain ⟨c, k, i, f, a, cell, h1, h2, h3, h4, h5, h6, h7, h8, h9, h10⟩ := h
  exact ⟨c, k, i, f, a, cell, h1, h2, h3, h4, by rw [hq a (Array.getElem?_eq_some_iff.mp h5).1 h10]; exact h5, h6, h7, h8, h9, h10⟩
theorem vx_L.narrow {C n d : String} {A B : Nat → Prop} {U : State} {H : Heap} (h : vx_L C n d A U H) (hAB : ∀ q, B q → A q) : vx_L C n d B U H := by
  obtain ⟨c, k, i, f, a, cell, h1, h2, h3, h4, h5, h6, h7, h8, h9, h10⟩ := h
  exact ⟨c, k, i, f, a, cell, h1, h2, h3, h4, h5, h6, h7, h8, h9, fun z => h10 (hAB _ z)⟩
theorem vx_L.word {C n d : String} {A : Nat → Prop} {s : State} {args : Array Value} (h : vx_L C n d A s s.heap) : (Cond.laysStatic C n d).before args s = true := by
  obtain ⟨c, k, i, f, a, cell, h1, h2, h3, h4, h5, h6, h7, h8, h9, -⟩ := h
  show (Cond.laysStatic C n d).holds args s none s [] = true
  exact Cond.laysStatic_of h1 h2 h3 h4 h5 h6 h7 h8 h9
/-- .. and what it holds: null or some reference -/
def vx_Zq (C n d : String) (A : Nat → Prop) (U : State) (H : Heap) : Prop := va_Zq C n d A U H ∧ vx_L C n d A U H
theorem vx_Zq.moved {C n d : String} {A : Nat → Prop} {u U : State} {H : Heap} (hvm : u.vm.Alike U.vm) (h : vx_Zq C n d A u H) : vx_Zq C n d A U H := ⟨va_Zq.moved hvm h.1, vx_L.moved hvm h.2⟩
theorem vx_Zq.kept {C n d : String} {A : Nat → Prop} {U : State} {H H1 : Heap} (h : vx_Zq C n d A U H) (hq : ∀ a : Nat, a < H.size → ¬ A a → H1[a]? = H[a]?) : vx_Zq C n d A U H1 := ⟨va_Zq.kept h.1 hq, vx_L.kept h.2 hq⟩
theorem vx_Zq.narrow {C n d : String} {A B : Nat → Prop} {U : State} {H : Heap} (h : vx_Zq C n d A U H) (hAB : ∀ q, B q → A q) : vx_Zq C n d B U H := ⟨va_Zq.narrow h.1 hAB, vx_L.narrow h.2 hAB⟩
theorem vx_Zqof {args : Array Value} {s : State} {C n d : String} {A : Nat → Prop} (hl : (Cond.laysStatic C n d).before args s = true) (hini : (Cond.initialized C).before args s = true) (h : (Cond.isRef (.static C n d)).before args s = true) (hA : ∀ a : Nat, a < s.heap.size → ¬ A a) : vx_Zq C n d A s s.heap := by
  refine ⟨va_Zqof hl hini h hA, ?_⟩
  obtain ⟨c, k, i, f, a, cell, h1, h2, h3, h4, h5, h6, h7, h8, h9⟩ := Cond.laysStatic_spec hl
  exact ⟨c, k, i, f, a, cell, h1, h2, h3, h4, h5, h6, h7, h8, h9, hA a (Array.getElem?_eq_some_iff.mp h5).1⟩
theorem vx_isRef {C n d : String} {v : Value} {A : Nat → Prop} {s : State} {args : Array Value} (h : va_Z C n d v A s s.heap) (hv : v.isRef = true) : (Cond.isRef (.static C n d)).before args s = true := by
  obtain ⟨cf, kf, fi, f, a, cell, h1, h2, h3, h4, h5, h6, h7, -⟩ := h
  have he : (Term.static C n d).eval args s none [] s = some v := by
    simp [Term.eval, State.fieldNamed?, h1, h2, h4, h5, h6, h7]
  simp only [Cond.before, Cond.holds, Cond.value, he]
  cases v <;> simp_all [Value.isRef]
theorem vx_isRefq {C n d : String} {A : Nat → Prop} {s : State} {args : Array Value} (h : va_Zq C n d A s s.heap) : (Cond.isRef (.static C n d)).before args s = true := by
  rcases h with h | ⟨t, h⟩
  · exact vx_isRef h rfl
  · exact vx_isRef h rfl
/-- the same frame, seen from here: as if the method were called anew in this heap -/
theorem vx_rebase {T : State} (X : Stand p l e R s m args below meth c T locs cells slots) {R' : Room} (hf : R'.frames ≤ R.frames) (hl : R'.locals ≤ R.locals) (hc : cells + R'.cells ≤ R.cells) (hs : slots + R'.slots ≤ R.slots) :
    Stand p l e R' ((T.setVm s.vm).setFrames (.invoking m args :: below)) m args below meth c T [] 0 0 := by
  have htop : (T.setVm s.vm).topJava?.isSome := X.here.top
  have hF : ((T.setVm s.vm).setFrames (.invoking m args :: below)).frames = .invoking m args :: below := State.frames_setFrames _ (State.cur_lt_of_top htop)
  obtain ⟨g₀, hg0⟩ := Option.isSome_iff_exists.mp htop
  obtain ⟨r, hr⟩ := State.topJava?_eq_some.mp hg0
  have hl9 : e.platform.stackLimits (T.setVm s.vm).me = e.platform.stackLimits s.me := X.limits
  have hb9 : (T.setVm s.vm).me.stackBytes = s.me.stackBytes := X.bytes
  refine ⟨X.admits, X.cas, X.clock, hF, ?_, X.hears, X.method, X.code, X.here, X.tail, X.warmed, ?_, ?_, ?_⟩
  · have h := X.room
    have hU : ((T.setVm s.vm).setFrames (.invoking m args :: below)).localsInUse = s.localsInUse := by
      rw [State.localsInUse_invoking hF (meth := meth) (c := c) X.method X.code, State.localsInUse_invoking X.frames X.method X.code]
    simp only [State.hasRoom, Bool.and_eq_true, decide_eq_true_eq] at h ⊢
    obtain ⟨⟨⟨⟨h1, h2, h3, h4, h5, h6⟩, h7⟩, h8⟩, h9⟩ := h
    rw [X.frames, List.length_cons] at h2 h3
    have q1 := X.heapSize
    have q2 := X.used
    simp only [hF, hU, List.length_cons, State.stackLimits_setFrames, State.stackBytes_setFrames, hl9, hb9]
    refine ⟨⟨⟨⟨by omega, by omega, by omega, by omega, by omega, h6⟩, ?_⟩, ?_⟩, X.book⟩
    · show T.heap.size + R'.cells ≤ e.platform.maxCells
      omega
    · show T.slotsUsed + R'.slots ≤ e.platform.maxSlots
      omega
  · rw [State.stackLimits_setFrames]; rfl
  · rw [State.stackBytes_setFrames]; rfl
  · refine ⟨?_, Nat.le_refl _, Nat.le_refl _, ?_, ?_, fun a c9 h9 => ⟨c9, h9, rfl, rfl, fun _ _ => rfl⟩⟩
    · obtain ⟨t, ht, -⟩ := State.frames_cons hr
      show T.setVm s.vm = { ((T.setVm s.vm).setFrames (.invoking m args :: below)).setFrames (T.setVm s.vm).frames with heap := T.heap, slotsUsed := T.slotsUsed }
      rw [State.setFrames_setFrames, State.setFrames_self ht]
      rfl
    · show T.slotsUsed = T.slotsUsed + ((T.heap.toList.drop T.heap.size).map (·.slots.size)).sum
      rw [List.drop_eq_nil_of_le (Nat.le_of_eq Array.length_toList)]
      rfl
    · show ((T.heap.toList.drop T.heap.size).map (·.slots.size)).sum ≤ 0
      rw [List.drop_eq_nil_of_le (Nat.le_of_eq Array.length_toList)]
      exact Nat.le_refl _
/-- 'throw new E()': new; dup; invokespecial; athrow -/
theorem vx_throw0 {cc : ByteArray} {pc : Nat} (hexec : p.tables.exec = Jvm.exec) (hb : c.code = cc) (hl : l.stackTraces = false) {own cls : String} {names : List String} {ik ic mc ms : Nat} {A : Nat → Prop}
    (hown : s.vm.findClass own = some m.cls) (hcls : Bundle.fit cls = true) (hnames : ∀ n ∈ names, Bundle.fit n = true)
    (hk : (Cond.classLink own ik cls).before args s = true) (hini : (Cond.initialized cls).before args s = true) (hat : ∀ w ∈ vx_at0 own ic cls names, w.before args s = true)
    (hgood : ∀ w ∈ Cond.classLink own ik cls :: Cond.initialized cls :: vx_at0 own ic cls names, vx_ot w = true)
    (hU : vx_Zq Bundle.tN "UNASSIGNED_STACK" Bundle.steD A s s.heap) (hN : vx_Zq Bundle.tN "SUPPRESSED_SENTINEL" Bundle.listD A s s.heap) (hS : va_S A s.heap H locs) (hsize : ls.size = c.maxLocals)
    (d0 : decode cc pc = .ok (.new ik, 3)) (d3 : decode cc (pc + 3) = .ok (.dup, 1)) (d4 : decode cc (pc + 4) = .ok (.invokespecial ic, 3)) (d7 : decode cc (pc + 7) = .ok (.athrow, 1))
    (hout : ∀ x ∈ c.exceptionTable.toList, covers x (pc + 7) = false)
    (hRframes : names.length + 3 < R.frames) (hRlocals : (rest.map fun v => v.category).sum + (13 * (names.length + 1) + 42) ≤ R.locals) (hRcells : cells + 1 ≤ R.cells) (hRslots : slots + 6 ≤ R.slots) (hlocks : meth.locks = false)
    (hx : ∀ t : State, s.vm.Alike t.vm → H.size ≤ t.heap.size → (∀ q : Nat, q < H.size → t.heap[q]? = H[q]?) → XC cls s t)
    (hf : ∀ z ∈ locs, free z.base) (hc : cells + 1 ≤ mc) (hs : slots + 6 ≤ ms) :
    W p l e R s m args below meth c H locs cells slots (vx_MQ below Qc XC args s mc ms free) (F0 m pc ls rest) := by
  intro T hT X
  have htr : e.platform.stackTraces = false := (show e.platform.stackTraces = l.stackTraces by rw [X.admits.platform]).trans hl
  have Y := vx_rebase X (R' := { frames := R.frames, locals := R.locals, cells := 1, slots := 6 }) (Nat.le_refl _) (Nat.le_refl _) hRcells hRslots
  obtain ⟨s', hA⟩ : ∃ z, z = (T.setVm s.vm).setFrames (.invoking m args :: below) := ⟨_, rfl⟩
  rw [← hA] at Y
  have hvm : s'.vm = s.vm := by rw [hA]; rfl
  have hhp : s'.heap = H := by rw [hA]; exact hT
  have hW0 : s.WarmedH s'.vm := by rw [hvm]; exact State.WarmedH.refl s
  have hat' : ∀ w ∈ vx_at0 own ic cls names, w.before args s' = true := fun w hw => vx_ot_at hW0 hvm.symm (hgood w (List.mem_cons_of_mem _ (List.mem_cons_of_mem _ hw))) (hat w hw)
  have hk' : (Cond.classLink own ik cls).before args s' = true := vx_ot_at hW0 hvm.symm (hgood _ List.mem_cons_self) hk
  have hini' : (Cond.initialized cls).before args s' = true := vx_ot_at hW0 hvm.symm (hgood _ (List.mem_cons_of_mem _ List.mem_cons_self)) hini
  have hU' : vx_Zq Bundle.tN "UNASSIGNED_STACK" Bundle.steD A s' s'.heap := by rw [hhp]; exact vx_Zq.moved hW0.alike (hU.kept hS.2.1)
  have hN' : vx_Zq Bundle.tN "SUPPRESSED_SENTINEL" Bundle.listD A s' s'.heap := by rw [hhp]; exact vx_Zq.moved hW0.alike (hN.kept hS.2.1)
  have h : ∀ w ∈ Bundle.ownAtoms0 own ic cls names, w.before args s' = true := vx_own hat' (vx_isRefq hU'.1) (vx_isRefq hN'.1) hU'.2.word hN'.2.word
  have hown' : s'.vm.findClass own = some m.cls := by rw [hvm]; exact hown
  have hins : (Cond.instantiable cls 6).before args s' = true := h _ (by simp [Bundle.ownAtoms0])
  obtain ⟨vm₁, cX, kX, hfX, hkX, -, -, X₁, st1⟩ := Y.newCold hexec (own := own) (C := cls) (index := ik) (n := 6) hown' hk' hins hini'
    (g := F0 m pc ls rest) rfl (by rw [hb]; exact d0) (Nat.le_refl _) (Nat.le_refl _)
  generalize hT1 : (T.setVm vm₁).pushCell { cls := cX, slots := kX.instanceTypes.map defaultValue, vm := .none } = T1 at X₁ st1
  have hcat : (Value.ref T.heap.size).category = 1 := rfl
  have hcellA : T1.heap[T.heap.size]? = some (freshCell cX kX) := by rw [← hT1]; exact State.heap_pushCell_size _ _
  have d3' : decode c.code (pc + 3) = .ok (.dup, 1) := by rw [hb]; exact d3
  obtain ⟨U, hsteps, hrun, hend, hW, hsame, ce, hce, hO⟩ := X₁.ctorThrow0 hexec htr (own := own) (cls := cls) (names := names) (ic := ic) hown' hcls hnames h (fun x hx => nomatch hx) hfX hkX hcellA (by rw [hhp, hT]; exact Nat.le_refl _)
    (g := { method := m, pc := pc + 4, locals := ls, stack := .ref T.heap.size :: .ref T.heap.size :: rest, locked := none }) rfl hsize rfl rfl (rest := rest) rfl
    (by rw [hb]; exact d4) (by rw [hb]; exact d7) hout hRframes (by simp only [List.map_cons, List.sum_cons, hcat]; omega) hlocks
  obtain ⟨f1, f2⟩ := vx_frame hsame
  rw [hhp] at f1 f2
  have hWs : s.WarmedH U.vm := State.WarmedH.trans hW0 hW
  have hcl : s.vm.findClass cls = some ce.cls := by
    have h9 := hO.cls
    rw [hvm] at h9
    exact h9
  have hall : s.sameButNew ({ U with vm := s.vm } : State) locs mc ms := by
    subst hA
    obtain ⟨e1, e2⟩ := hsame
    rw [State.setFrames_setFrames] at e1
    have h2 : (T.setVm s.vm).sameButNew ({ U with vm := s.vm } : State) [] (0 + 1) (0 + 6) := ⟨e1, e2⟩
    have h3 := X.same.trans h2
    rw [List.append_nil] at h3
    exact h3.mono hc hs
  refine ⟨U, ?_, .threw T.heap.size, hrun, hend, Or.inr ⟨T.heap.size, rfl, cls, ce, locs, hx U hWs.alike f1 (fun q hq => f2 q hq (fun z hz => nomatch hz)), hce, hO.vm, hcl, hWs, hall, hf⟩⟩
  refine st1 _ ?_
  show Steps p.tables e below (T1.setTop { method := m, pc := pc + 3, locals := ls, stack := .ref T.heap.size :: rest, locked := none }) _
  jvm_step X₁.here [X₁.here.top, hexec, d3', Value.category]
  exact hsteps
/-- 'throw new E("text")': new; dup; ldc; invokespecial; athrow -/
theorem vx_throwS {cc : ByteArray} {pc : Nat} (hexec : p.tables.exec = Jvm.exec) (hb : c.code = cc) (hl : l.stackTraces = false) {own cls text : String} {names : List String} {ik is ic mc ms sa : Nat} {A : Nat → Prop}
    (hown : s.vm.findClass own = some m.cls) (hcls : Bundle.fit cls = true) (hnames : ∀ n ∈ names, Bundle.fit n = true)
    (hk : (Cond.classLink own ik cls).before args s = true) (hini : (Cond.initialized cls).before args s = true) (hstr : vk_R own is text sa s) (hat : ∀ w ∈ vx_atS own ic cls names, w.before args s = true)
    (hgood : ∀ w ∈ Cond.classLink own ik cls :: Cond.initialized cls :: vx_atS own ic cls names, vx_ot w = true)
    (hU : vx_Zq Bundle.tN "UNASSIGNED_STACK" Bundle.steD A s s.heap) (hN : vx_Zq Bundle.tN "SUPPRESSED_SENTINEL" Bundle.listD A s s.heap) (hS : va_S A s.heap H locs) (hsize : ls.size = c.maxLocals)
    (d0 : decode cc pc = .ok (.new ik, 3)) (d3 : decode cc (pc + 3) = .ok (.dup, 1)) (d4 : decode cc (pc + 4) = .ok (.ldc is, 2)) (d6 : decode cc (pc + 6) = .ok (.invokespecial ic, 3)) (d9 : decode cc (pc + 9) = .ok (.athrow, 1))
    (hout : ∀ x ∈ c.exceptionTable.toList, covers x (pc + 9) = false)
    (hRframes : names.length + 3 < R.frames) (hRlocals : (rest.map fun v => v.category).sum + (13 * (names.length + 1) + 43) ≤ R.locals) (hRcells : cells + 1 ≤ R.cells) (hRslots : slots + 6 ≤ R.slots) (hlocks : meth.locks = false)
    (hx : ∀ t : State, s.vm.Alike t.vm → H.size ≤ t.heap.size → (∀ q : Nat, q < H.size → t.heap[q]? = H[q]?) → XC cls s t)
    (hf : ∀ z ∈ locs, free z.base) (hc : cells + 1 ≤ mc) (hs : slots + 6 ≤ ms) :
    W p l e R s m args below meth c H locs cells slots (vx_MQ below Qc XC args s mc ms free) (F0 m pc ls rest) := by
  intro T hT X
  have htr : e.platform.stackTraces = false := (show e.platform.stackTraces = l.stackTraces by rw [X.admits.platform]).trans hl
  have Y := vx_rebase X (R' := { frames := R.frames, locals := R.locals, cells := 1, slots := 6 }) (Nat.le_refl _) (Nat.le_refl _) hRcells hRslots
  obtain ⟨s', hA⟩ : ∃ z, z = (T.setVm s.vm).setFrames (.invoking m args :: below) := ⟨_, rfl⟩
  rw [← hA] at Y
  have hvm : s'.vm = s.vm := by rw [hA]; rfl
  have hhp : s'.heap = H := by rw [hA]; exact hT
  have hW0 : s.WarmedH s'.vm := by rw [hvm]; exact State.WarmedH.refl s
  have hat' : ∀ w ∈ vx_atS own ic cls names, w.before args s' = true := fun w hw => vx_ot_at hW0 hvm.symm (hgood w (List.mem_cons_of_mem _ (List.mem_cons_of_mem _ hw))) (hat w hw)
  have hk' : (Cond.classLink own ik cls).before args s' = true := vx_ot_at hW0 hvm.symm (hgood _ List.mem_cons_self) hk
  have hini' : (Cond.initialized cls).before args s' = true := vx_ot_at hW0 hvm.symm (hgood _ (List.mem_cons_of_mem _ List.mem_cons_self)) hini
  have hU' : vx_Zq Bundle.tN "UNASSIGNED_STACK" Bundle.steD A s' s'.heap := by rw [hhp]; exact vx_Zq.moved hW0.alike (hU.kept hS.2.1)
  have hN' : vx_Zq Bundle.tN "SUPPRESSED_SENTINEL" Bundle.listD A s' s'.heap := by rw [hhp]; exact vx_Zq.moved hW0.alike (hN.kept hS.2.1)
  have h : ∀ w ∈ Bundle.ownAtoms own ic cls names, w.before args s' = true := vx_own hat' (vx_isRefq hU'.1) (vx_isRefq hN'.1) hU'.2.word hN'.2.word
  have hown' : s'.vm.findClass own = some m.cls := by rw [hvm]; exact hown
  have hins : (Cond.instantiable cls 6).before args s' = true := h _ (by simp [Bundle.ownAtoms])
  obtain ⟨vm₁, cX, kX, hfX, hkX, -, -, X₁, st1⟩ := Y.newCold hexec (own := own) (C := cls) (index := ik) (n := 6) hown' hk' hins hini'
    (g := F0 m pc ls rest) rfl (by rw [hb]; exact d0) (Nat.le_refl _) (Nat.le_refl _)
  generalize hT1 : (T.setVm vm₁).pushCell { cls := cX, slots := kX.instanceTypes.map defaultValue, vm := .none } = T1 at X₁ st1
  have hcat : (Value.ref T.heap.size).category = 1 := rfl
  have hcellA : T1.heap[T.heap.size]? = some (freshCell cX kX) := by rw [← hT1]; exact State.heap_pushCell_size _ _
  have d3' : decode c.code (pc + 3) = .ok (.dup, 1) := by rw [hb]; exact d3
  have d4' : decode c.code (pc + 4) = .ok (.ldc is, 2) := by rw [hb]; exact d4
  have hstr' : vk_R own is text sa s' := vk_R.warm hW0 hstr
  obtain ⟨U, hsteps, hrun, hend, hW, hsame, ce, hce, hO⟩ := X₁.ctorThrowS hexec htr (own := own) (cls := cls) (names := names) (ic := ic) hown' hcls hnames h (fun x hx => nomatch hx) hfX hkX hcellA (by rw [hhp, hT]; exact Nat.le_refl _) (msg := .ref sa) rfl
    (g := { method := m, pc := pc + 6, locals := ls, stack := .ref sa :: .ref T.heap.size :: .ref T.heap.size :: rest, locked := none }) rfl hsize rfl rfl (rest := rest) rfl
    (by rw [hb]; exact d6) (by rw [hb]; exact d9) hout hRframes (by simp only [List.map_cons, List.sum_cons, hcat]; omega) hlocks
  obtain ⟨f1, f2⟩ := vx_frame hsame
  rw [hhp] at f1 f2
  have hWs : s.WarmedH U.vm := State.WarmedH.trans hW0 hW
  have hcl : s.vm.findClass cls = some ce.cls := by
    have h9 := hO.cls
    rw [hvm] at h9
    exact h9
  have hall : s.sameButNew ({ U with vm := s.vm } : State) locs mc ms := by
    subst hA
    obtain ⟨e1, e2⟩ := hsame
    rw [State.setFrames_setFrames] at e1
    have h2 : (T.setVm s.vm).sameButNew ({ U with vm := s.vm } : State) [] (0 + 1) (0 + 6) := ⟨e1, e2⟩
    have h3 := X.same.trans h2
    rw [List.append_nil] at h3
    exact h3.mono hc hs
  refine ⟨U, ?_, .threw T.heap.size, hrun, hend, Or.inr ⟨T.heap.size, rfl, cls, ce, locs, hx U hWs.alike f1 (fun q hq => f2 q hq (fun z hz => nomatch hz)), hce, hO.vm, hcl, hWs, hall, hf⟩⟩
  refine st1 _ ?_
  show Steps p.tables e below (T1.setTop { method := m, pc := pc + 3, locals := ls, stack := .ref T.heap.size :: rest, locked := none }) _
  jvm_step X₁.here [X₁.here.top, hexec, d3', Value.category]
  exact X₁.ldcString hexec (own := own) (text := text) (index := is) (a := sa) hown' hstr'.1 hstr'.2
    (g := { method := m, pc := pc + 4, locals := ls, stack := .ref T.heap.size :: .ref T.heap.size :: rest, locked := none }) rfl d4' _ hsteps
/-- 'throw new E("text")', the text by a wide index -/
theorem vx_throwSW {cc : ByteArray} {pc : Nat} (hexec : p.tables.exec = Jvm.exec) (hb : c.code = cc) (hl : l.stackTraces = false) {own cls text : String} {names : List String} {ik is ic mc ms sa : Nat} {A : Nat → Prop}
    (hown : s.vm.findClass own = some m.cls) (hcls : Bundle.fit cls = true) (hnames : ∀ n ∈ names, Bundle.fit n = true)
    (hk : (Cond.classLink own ik cls).before args s = true) (hini : (Cond.initialized cls).before args s = true) (hstr : vk_R own is text sa s) (hat : ∀ w ∈ vx_atS own ic cls names, w.before args s = true)
    (hgood : ∀ w ∈ Cond.classLink own ik cls :: Cond.initialized cls :: vx_atS own ic cls names, vx_ot w = true)
    (hU : vx_Zq Bundle.tN "UNASSIGNED_STACK" Bundle.steD A s s.heap) (hN : vx_Zq Bundle.tN "SUPPRESSED_SENTINEL" Bundle.listD A s s.heap) (hS : va_S A s.heap H locs) (hsize : ls.size = c.maxLocals)
    (d0 : decode cc pc = .ok (.new ik, 3)) (d3 : decode cc (pc + 3) = .ok (.dup, 1)) (d4 : decode cc (pc + 4) = .ok (.ldc_w is, 3)) (d7 : decode cc (pc + 7) = .ok (.invokespecial ic, 3)) (d10 : decode cc (pc + 10) = .ok (.athrow, 1))
    (hout : ∀ x ∈ c.exceptionTable.toList, covers x (pc + 10) = false)
    (hRframes : names.length + 3 < R.frames) (hRlocals : (rest.map fun v => v.category).sum + (13 * (names.length + 1) + 43) ≤ R.locals) (hRcells : cells + 1 ≤ R.cells) (hRslots : slots + 6 ≤ R.slots) (hlocks : meth.locks = false)
    (hx : ∀ t : State, s.vm.Alike t.vm → H.size ≤ t.heap.size → (∀ q : Nat, q < H.size → t.heap[q]? = H[q]?) → XC cls s t)
    (hf : ∀ z ∈ locs, free z.base) (hc : cells + 1 ≤ mc) (hs : slots + 6 ≤ ms) :
    W p l e R s m args below meth c H locs cells slots (vx_MQ below Qc XC args s mc ms free) (F0 m pc ls rest) := by
  intro T hT X
  have htr : e.platform.stackTraces = false := (show e.platform.stackTraces = l.stackTraces by rw [X.admits.platform]).trans hl
  have Y := vx_rebase X (R' := { frames := R.frames, locals := R.locals, cells := 1, slots := 6 }) (Nat.le_refl _) (Nat.le_refl _) hRcells hRslots
  obtain ⟨s', hA⟩ : ∃ z, z = (T.setVm s.vm).setFrames (.invoking m args :: below) := ⟨_, rfl⟩
  rw [← hA] at Y
  have hvm : s'.vm = s.vm := by rw [hA]; rfl
  have hhp : s'.heap = H := by rw [hA]; exact hT
  have hW0 : s.WarmedH s'.vm := by rw [hvm]; exact State.WarmedH.refl s
  have hat' : ∀ w ∈ vx_atS own ic cls names, w.before args s' = true := fun w hw => vx_ot_at hW0 hvm.symm (hgood w (List.mem_cons_of_mem _ (List.mem_cons_of_mem _ hw))) (hat w hw)
  have hk' : (Cond.classLink own ik cls).before args s' = true := vx_ot_at hW0 hvm.symm (hgood _ List.mem_cons_self) hk
  have hini' : (Cond.initialized cls).before args s' = true := vx_ot_at hW0 hvm.symm (hgood _ (List.mem_cons_of_mem _ List.mem_cons_self)) hini
  have hU' : vx_Zq Bundle.tN "UNASSIGNED_STACK" Bundle.steD A s' s'.heap := by rw [hhp]; exact vx_Zq.moved hW0.alike (hU.kept hS.2.1)
  have hN' : vx_Zq Bundle.tN "SUPPRESSED_SENTINEL" Bundle.listD A s' s'.heap := by rw [hhp]; exact vx_Zq.moved hW0.alike (hN.kept hS.2.1)
  have h : ∀ w ∈ Bundle.ownAtoms own ic cls names, w.before args s' = true := vx_own hat' (vx_isRefq hU'.1) (vx_isRefq hN'.1) hU'.2.word hN'.2.word
  have hown' : s'.vm.findClass own = some m.cls := by rw [hvm]; exact hown
  have hins : (Cond.instantiable cls 6).before args s' = true := h _ (by simp [Bundle.ownAtoms])
  obtain ⟨vm₁, cX, kX, hfX, hkX, -, -, X₁, st1⟩ := Y.newCold hexec (own := own) (C := cls) (index := ik) (n := 6) hown' hk' hins hini'
    (g := F0 m pc ls rest) rfl (by rw [hb]; exact d0) (Nat.le_refl _) (Nat.le_refl _)
  generalize hT1 : (T.setVm vm₁).pushCell { cls := cX, slots := kX.instanceTypes.map defaultValue, vm := .none } = T1 at X₁ st1
  have hcat : (Value.ref T.heap.size).category = 1 := rfl
  have hcellA : T1.heap[T.heap.size]? = some (freshCell cX kX) := by rw [← hT1]; exact State.heap_pushCell_size _ _
  have d3' : decode c.code (pc + 3) = .ok (.dup, 1) := by rw [hb]; exact d3
  have d4' : decode c.code (pc + 4) = .ok (.ldc_w is, 3) := by rw [hb]; exact d4
  have hstr' : vk_R own is text sa s' := vk_R.warm hW0 hstr
  obtain ⟨U, hsteps, hrun, hend, hW, hsame, ce, hce, hO⟩ := X₁.ctorThrowS hexec htr (own := own) (cls := cls) (names := names) (ic := ic) hown' hcls hnames h (fun x hx => nomatch hx) hfX hkX hcellA (by rw [hhp, hT]; exact Nat.le_refl _) (msg := .ref sa) rfl
    (g := { method := m, pc := pc + 7, locals := ls, stack := .ref sa :: .ref T.heap.size :: .ref T.heap.size :: rest, locked := none }) rfl hsize rfl rfl (rest := rest) rfl
    (by rw [hb]; exact d7) (by rw [hb]; exact d10) hout hRframes (by simp only [List.map_cons, List.sum_cons, hcat]; omega) hlocks
  obtain ⟨f1, f2⟩ := vx_frame hsame
  rw [hhp] at f1 f2
  have hWs : s.WarmedH U.vm := State.WarmedH.trans hW0 hW
  have hcl : s.vm.findClass cls = some ce.cls := by
    have h9 := hO.cls
    rw [hvm] at h9
    exact h9
  have hall : s.sameButNew ({ U with vm := s.vm } : State) locs mc ms := by
    subst hA
    obtain ⟨e1, e2⟩ := hsame
    rw [State.setFrames_setFrames] at e1
    have h2 : (T.setVm s.vm).sameButNew ({ U with vm := s.vm } : State) [] (0 + 1) (0 + 6) := ⟨e1, e2⟩
    have h3 := X.same.trans h2
    rw [List.append_nil] at h3
    exact h3.mono hc hs
  refine ⟨U, ?_, .threw T.heap.size, hrun, hend, Or.inr ⟨T.heap.size, rfl, cls, ce, locs, hx U hWs.alike f1 (fun q hq => f2 q hq (fun z hz => nomatch hz)), hce, hO.vm, hcl, hWs, hall, hf⟩⟩
  refine st1 _ ?_
  show Steps p.tables e below (T1.setTop { method := m, pc := pc + 3, locals := ls, stack := .ref T.heap.size :: rest, locked := none }) _
  jvm_step X₁.here [X₁.here.top, hexec, d3', Value.category]
  exact X₁.ldcStringW hexec (own := own) (text := text) (index := is) (a := sa) hown' hstr'.1 hstr'.2
    (g := { method := m, pc := pc + 4, locals := ls, stack := .ref T.heap.size :: .ref T.heap.size :: rest, locked := none }) rfl d4' _ hsteps
end Ends
section Bodies
variable {l : Launch}
theorem vx_ofW {y : MethodName} {ws ws' : List Cond} {rm : Room} {Pc : Array Value → State → Prop} {Qc : Array Value → State → Outcome → State → Prop} {XC : String → State → State → Prop} {mc ms : Nat} {free : Addr → Prop} {cc : ByteArray} {maxL : Nat} {ret : Option FieldType}
    (hy : plainName y.cls = true) (hw : ws = Cond.code y cc maxL ret :: ws')
    (body : ∀ p e s m args below meth c s₁, BodyLoose p l y (headSpec ws rm) cc maxL ret e s m args below meth c s₁ → c.maxLocals = maxL → (∀ x ∈ c.exceptionTable.toList, False) → Pc args s →
      W p l e (headSpec ws rm).room s m args below meth c s.heap [] 0 0 (vx_MQ below Qc XC args s mc ms free) (entryFrame m args maxL)) : vx_Met l y ws rm Pc Qc XC mc ms free := by
  refine MetFree.of_bodyS (code := cc) (maxLocals := maxL) (ret := ret) hy ?_ ?_
  · intro args s m h hn
    obtain ⟨meth, c, h1, h2, h3, h4, h5, h6, -, -⟩ := Cond.code_spec hn (atoms_spec (ws := ws) h _ (by rw [hw]; exact List.mem_cons_self))
    exact ⟨meth, c, h1, h2, h3, h4, h5, h6⟩
  · intro p e s m args below meth c s₁ B hml hP _
    have hh0 : s₁.heap = s.heap := by rw [B.state]; rfl
    have ht : ∀ x ∈ c.exceptionTable.toList, False := by
      obtain ⟨meth9, c9, h1, h2, -, -, -, -, h7, -⟩ := Cond.code_spec B.named (atoms_spec (ws := ws) B.pre _ (by rw [hw]; exact List.mem_cons_self))
      cases Option.some.inj (h1.symm.trans B.method)
      cases Option.some.inj (h2.symm.trans (Stand.of_body B).code)
      intro x hx
      rw [Array.isEmpty_iff.mp h7] at hx
      cases hx
    obtain ⟨t, a1, o, b1, b2, b3⟩ := body p e s m args below meth c s₁ B hml ht hP s₁ hh0 (Stand.of_body B)
    exact ⟨t, o, a1, b1, b2, b3⟩
/-- the table of a body with handlers -/
theorem vx_table {p : Program} {x y : MethodName} {S : Spec} {cc bytes : ByteArray} {maxL maxL' : Nat} {ret ret' : Option FieldType} {e : Env} {s s₁ : State} {m : MethodId} {args : Array Value} {below : List Frame} {meth : Method} {c : Code} {hh : List (Nat × Nat × Nat × Nat)}
    (B : BodyLoose p l y S cc maxL ret e s m args below meth c s₁) (h : (Cond.codeWith y bytes maxL' ret' hh).before args s = true) : c.exceptionTable.toList = tableOf hh := by
  obtain ⟨m9, meth9, c9, hn9, h1, h2, -, -, h6, -⟩ := Cond.codeWith_spec h
  cases Option.some.inj (hn9.symm.trans B.named)
  cases Option.some.inj (h1.symm.trans B.method)
  cases Option.some.inj (h2.symm.trans (Stand.of_body B).code)
  rw [← h6, table_eq]
end Bodies
end VXA
/-! ===== END ===== -/
/-! ===== BEGIN a static call of a method with an exception table ===== -/
section VXS
variable {p : Program} {l : Launch} {e : Env} {R : Room} {s : State} {m : MethodId} {args : Array Value} {below : List Frame} {meth : Method} {c : Code} {T : State} {H : Heap} {locs : List Loc} {cells slots : Nat}
abbrev vx_CSW (R : Room) (s : State) (args : Array Value) (own : String) (index : Nat) (y : MethodName) (bytes : ByteArray) (maxL : Nat) (ret : Option FieldType) (hh : List (Nat × Nat × Nat × Nat)) (ws : List Cond) (rm : Room) (mc ms n : Nat) : Prop :=
  (rm.cells = mc ∧ rm.slots = ms ∧ rm.frames + 1 ≤ R.frames ∧ 8 + (maxL + 11) + rm.locals ≤ R.locals ∧ (∀ w ∈ ws, ∀ (a' : Array Value) (U : State), s.WarmedH U.vm → w.before a' U = true) ∧ Cond.codeWith y bytes maxL ret hh ∈ ws) ∧
  (Cond.codeWith y bytes maxL ret hh).before args s = true ∧ (Cond.initialized y.cls).before args s = true ∧ (y.cls ≠ "java/lang/invoke/MethodHandle" ∧ y.cls ≠ "java/lang/invoke/VarHandle") ∧
  (∀ sig, parseMethodDescriptor y.desc = some sig → n = sig.parameters.length) ∧ (Cond.methodLink own index y).before args s = true ∧ (Cond.static y).before args s = true
theorem vx_cwSW {own : String} {index maxL mc ms : Nat} {y : MethodName} {bytes : ByteArray} {ret : Option FieldType} {hh : List (Nat × Nat × Nat × Nat)} {Ts ws ws' : List Cond} {rm : Room} (n : Nat) (ht : ∀ w ∈ Ts, w.before args s = true) (hT : GoodIn Ts (va_wsS own index y ws)) (hw : ws = Cond.codeWith y bytes maxL ret hh :: ws') (hrc : rm.cells = mc) (hrs : rm.slots = ms)
    (hd : y.cls ≠ "java/lang/invoke/MethodHandle" ∧ y.cls ≠ "java/lang/invoke/VarHandle" ∧ (parseMethodDescriptor y.desc).map (fun d => d.parameters.length) = some n) (hR : rm.frames + 1 ≤ R.frames ∧ 8 + (maxL + 11) + rm.locals ≤ R.locals) :
    vx_CSW R s args own index y bytes maxL ret hh ws rm mc ms n := by
  have ok : ∀ w ∈ va_wsS own index y ws, w.before args s = true := fun w h => ht w (hT w h).1
  have hG : GoodIn Ts ws := fun w h => hT w (by unfold va_wsS; exact List.mem_append_right _ h)
  have hc : Cond.codeWith y bytes maxL ret hh ∈ ws := by rw [hw]; exact List.mem_cons_self
  refine ⟨⟨hrc, hrs, hR.1, hR.2, pay_in ht hG, hc⟩, ht _ (hG _ hc).1, ok _ (by simp [va_wsS]), ⟨hd.1, hd.2.1⟩, fun sig h => ?_, ok _ (by simp [va_wsS]), ok _ (by simp [va_wsS])⟩
  have h2 := hd.2.2
  rw [h] at h2
  exact (Option.some.inj h2).symm
theorem vx_callSW (X : Stand p l e R s m args below meth c T locs cells slots) (hexec : p.tables.exec = Jvm.exec) {own : String} {index : Nat} {y : MethodName} {bytes : ByteArray} {maxL : Nat} {ret : Option FieldType} {hh : List (Nat × Nat × Nat × Nat)}
    (hown : s.vm.findClass own = some m.cls) (hlink : (Cond.methodLink own index y).before args s = true) (hstat : (Cond.static y).before args s = true) (hinit : (Cond.initialized y.cls).before args s = true)
    (hcode : (Cond.codeWith y bytes maxL ret hh).before args s = true) (hy : y.cls ≠ "java/lang/invoke/MethodHandle" ∧ y.cls ≠ "java/lang/invoke/VarHandle")
    {W9 : Nat} {Pre : Pt → Array Value → Prop} {Post : Pt → Array Value → Option Value → Pt → Prop} (hK : Back l R p e below s args y 3 W9 Pre Post)
    {g : JFrame} (hg : g.method = m) (hsize : g.locals.size = c.maxLocals) {argsL rest : List Value} (hlen : ∀ sig, parseMethodDescriptor y.desc = some sig → argsL.length = sig.parameters.length)
    (hstack : g.stack = argsL.reverse ++ rest) (hW : 2 * g.monitorRoom + (rest.map fun v => v.category).sum ≤ W9) (hdg : decode c.code g.pc = .ok (.invokestatic index, 3))
    (hpre : ∀ vm₁, s.WarmedH vm₁ → Pre ⟨T.setVm vm₁, locs, cells, slots⟩ argsL.toArray) :
    ∃ (v : Option Value) (vm₁ : Vm) (B : Pt), s.WarmedH vm₁ ∧ Stand p l e R s m args below meth c B.U B.locs B.cells B.slots ∧ Post ⟨T.setVm vm₁, locs, cells, slots⟩ argsL.toArray v B ∧
      ∀ target, Steps p.tables e below (B.U.setTop { g with pc := g.pc + 3, stack := v.toList ++ rest }) target → Steps p.tables e below (T.setTop g) target := by
  obtain ⟨mk, methM, cM, hnamed, hmethM, -, -, -, -, -, -, hsigM⟩ := Cond.codeWith_spec hcode
  have hstatic : methM.isStatic = true := Cond.static_spec hnamed hmethM hstat
  obtain ⟨kP, hkP, -⟩ := className_of_methodNamed hnamed
  have hinitP : kP.init = .initialized := Cond.initialized_spec (findClass_of_methodNamed hnamed) hkP hinit
  obtain ⟨vm₁, X₁, hstep₁⟩ := X.invokestatic hexec hown hlink hnamed hmethM hstatic hkP hinitP hy (g := g) hg (argsL := argsL) (rest := rest) (hlen _ hsigM) hstack hdg
  obtain ⟨v, B, X', hpost, hsteps⟩ := hK m meth c ⟨T.setVm vm₁, locs, cells, slots⟩ { g with stack := rest } (.invokestatic index) mk argsL.toArray X₁ hg hsize hdg hW (X₁.named hnamed) (hpre vm₁ X₁.warmed)
  exact ⟨v, vm₁, B, X₁.warmed, X', hpost, fun target h => hstep₁ _ fun acts => by rw [doInvoke_state]; exact hsteps.trans h⟩
theorem vx_runSW {y : MethodName} {bytes cc : ByteArray} {maxL nL mc ms n index : Nat} {ret : Option FieldType} {hh : List (Nat × Nat × Nat × Nat)} {ws : List Cond} {rm : Room} {Pc : Array Value → State → Prop} {Qc : Array Value → State → Outcome → State → Prop} {free : Addr → Prop} {Ts : List Cond} {own : String} {As rest : List Value} {g : JFrame}
    (S : CallFix p m c cc nL s args Ts own) (hM : Met l y ws rm Pc Qc mc ms free) (cw : vx_CSW R s args own index y bytes maxL ret hh ws rm mc ms n) (hp : PreS s H Pc As)
    (hg : g.method = m) (hn : As.length = n) (hsize : g.locals.size = nL) (hstack : g.stack = As.reverse ++ rest) (hW : 2 * g.monitorRoom + (rest.map fun v => v.category).sum ≤ 8) (hdg : decode cc g.pc = .ok (.invokestatic index, 3)) (hf : cells + mc ≤ R.cells ∧ slots + ms ≤ R.slots) :
    va_Run p l e R s m args below meth c H locs cells slots mc ms g rest (Qc As.toArray) (free) := by
  obtain ⟨⟨hrc, hrs, hfr, hlo, hws, hcw⟩, hcode, hini, hy, hlen, hl, hstt⟩ := cw
  have hK : Back l R p e below s args y 3 8 (PreOf R mc ms Pc) (PostOf Qc mc ms free) := va_backW (hh := hh) (bytes := bytes) (maxL := maxL) (ret := ret) hM hp.1 hrc hrs hfr hlo hws hcw (fun a' U hW => word_at hW (Or.inl (by first | rfl | simp [Cond.onTables, Cond.keeps, Cond.steady])) hini)
  obtain ⟨hx, hb, hml, ho, -⟩ := S
  intro T hT X
  obtain ⟨v, vm₁, ⟨U', l2, c2, s2⟩, hW₁, X', ⟨g', mk, t, L, e1, e2, hq, h1, hL, h2, h3⟩, st⟩ := vx_callSW X hx (hh := hh) (bytes := bytes) (maxL := maxL) (ret := ret) ho hl hstt hini hcode hy hK hg (hsize.trans hml.symm) (argsL := As) (rest := rest) (fun sig h => hn.trans (hlen sig h)) hstack hW (by rw [hb]; exact hdg)
    (fun vm₁ hW₁ => ⟨hf.1, hf.2, hp.2 (T.setVm vm₁) hT hW₁⟩)
  dsimp only [Pt.U, Pt.locs, Pt.cells, Pt.slots] at X' e1 e2 h1 h2 h3 st
  subst h1; subst h2; subst h3
  exact ⟨v, (T.setVm vm₁).calling g' mk As.toArray, t, U', L, hT, X', hL, e1, e2, hq, st⟩
/-- not caught here, past rows that name other classes: it goes on to the caller -/
theorem vx_outP {p : Program} {l : Launch} {e : Env} {R : Room} {s : State} {m : MethodId} {args : Array Value} {below : List Frame} {meth : Method} {c : Code} {H : Heap} {locs : List Loc} {cells slots : Nat} {free : Addr → Prop} {ls : Array Slot} {rest : List Value} {Qc : Array Value → State → Outcome → State → Prop} {XC : String → State → State → Prop}
    {pc : Nat} {own E : String} {ce : Cell} {q : Addr} {mc ms : Nat} (hown : s.vm.findClass own = some m.cls) (hlocks : meth.locks = false)
    (hpass : ∀ z ∈ c.exceptionTable.toList, covers z pc = false ∨ (z.catchType ≠ 0 ∧ ∃ nm : String, (Cond.classLink own z.catchType nm).before args s = true ∧ va_Nc E nm s)) (hcell : H[q]? = some ce) (hv : ce.vm = .none) (hcl : s.vm.findClass E = some ce.cls)
    (hx : ∀ t : State, t.heap = H → s.vm.Alike t.vm → XC E s t) (hf : ∀ z ∈ locs, free z.base) (hc : cells ≤ mc) (hs : slots ≤ ms) :
    vx_W p l e R s m args below meth c H locs cells slots (vx_MQ below Qc XC args s mc ms free) (F0 m pc ls rest) q := by
  intro T hT X
  have hpl : e.platform.magicAccessors = ({} : Platform).magicAccessors := by rw [X.admits.platform]
  obtain ⟨vm', hW', X', st⟩ := X.outThrough hlocks q (g := F0 m pc ls rest) rfl rfl rfl (cell := ce) (by rw [hT]; exact hcell) (by rw [hv]; rfl)
    (by obtain ⟨k9, h9, -⟩ := Vm.findClass_spec hcl; exact ⟨k9, h9⟩) (fun z hz => by
      rcases hpass z hz with h | ⟨hz0, nm, hl1, hn1⟩
      · exact Or.inl h
      · obtain ⟨c6, hc6, hcl6⟩ := Cond.classLink_spec hown hl1 e.platform hpl
        obtain ⟨a8, b8, h1, h2, h3⟩ := hn1
        cases Option.some.inj (h1.symm.trans hcl)
        cases Option.some.inj (h2.symm.trans hc6)
        exact Or.inr ⟨hz0, _, hcl6, h3⟩)
  obtain ⟨g₀, hfr⟩ := X'.frames_eq
  have hcell9 : ((T.setVm vm').setFrames (.throwing q :: below)).heap[q]? = some ce := by
    show T.heap[q]? = some ce
    rw [hT]; exact hcell
  have hend : Ended ((T.setVm vm').setFrames (.throwing q :: below)) below (.threw q) := State.frames_setFrames _ (State.cur_lt_of_frames hfr)
  refine ⟨(T.setVm vm').setFrames (.throwing q :: below), ?_, .threw q, X'.here.running, hend, Or.inr ⟨q, rfl, E, ce, locs, hx _ hT (X'.ends _).1.alike, hcell9, hv, hcl, (X'.ends _).1, (X'.ends _).2.mono hc hs, hf⟩⟩
  rw [X.pushThrowing_eq]
  exact st
/-- a thing of a world lies in the heap -/
theorem vx_lt {D : va_G} {cl : List vw_C} {ws : va_W} {H1 : Heap} (h : va_P D cl ws H1) {k : Nat} {q : Nat × va_E} (hk : ws[k]? = some q) : q.1 < H1.size := (h k q hk).lt
end VXS
/-! ===== END ===== -/
/-! ===== BEGIN methods with a table of their own: called by a name, returning or throwing ===== -/
section VXH
/-! vx_backW, vx_callVX, vx_callSX, vx_callVW, vx_runVW, vx_runVX, vx_runSX, vx_ofWH follow the same proofs as their sisters above (Free/Laws.lean, Shelf42/LK1.lean); vx_outP calls Shelf42/NT130.lean (outThrough). -/
section
variable {l : Launch} {R : Room} {p : Program} {e : Env} {below : List Frame} {s : State} {sargs : Array Value} {y : MethodName} {len W9 : Nat}
theorem vx_backW {ws : List Cond} {rm : Room} {Pc : Array Value → State → Prop} {Qc : Array Value → State → Outcome → State → Prop} {XC : String → State → State → Prop} {mc ms : Nat} {free : Addr → Prop} {bytes : ByteArray} {maxL : Nat} {ret : Option FieldType} {hh : List (Nat × Nat × Nat × Nat)}
    (hM : vx_Met l y ws rm Pc Qc XC mc ms free) (hblind : FrameBlind Pc) (hrc : rm.cells = mc) (hrs : rm.slots = ms)
    (hframes : rm.frames + 1 ≤ R.frames) (hlocals : W9 + (maxL + 11) + rm.locals ≤ R.locals)
    (hws : ∀ w ∈ ws, ∀ a' U, s.WarmedH U.vm → w.before a' U = true) (hcode : Cond.codeWith y bytes maxL ret hh ∈ ws) (hinit : ∀ a' U, s.WarmedH U.vm → (Cond.initialized y.cls).before a' U = true) :
    vx_Back l R p e below s sargs y len W9 (PreOf R mc ms Pc) (PostOf Qc mc ms free) (vx_Post XC mc ms free) := by
  intro m meth c A g ig mk a X hg hsize hdg hW hn hp
  have h1 : (headSpec ws rm).pre.before a A.U = true := atoms_intro fun w hw => hws w hw _ _ X.warmed
  have h2 : (Cond.codeWith y bytes maxL ret hh).before a A.U = true := hws _ hcode _ _ X.warmed
  have h3 : (Cond.initialized y.cls).before a A.U = true := hinit _ _ X.warmed
  have h4 : A.cells + (headSpec ws rm).room.cells ≤ R.cells := by rw [show (headSpec ws rm).room.cells = mc from hrc]; exact hp.1
  have h5 : A.slots + (headSpec ws rm).room.slots ≤ R.slots := by rw [show (headSpec ws rm).room.slots = ms from hrs]; exact hp.2.1
  have hPc : Pc a (A.U.calling g mk a) := hblind _ _ _ _ hp.2.2
  obtain ⟨U, Ls, c0, s0⟩ := A
  dsimp only [Pt.U, Pt.locs, Pt.cells, Pt.slots] at h1 h2 h3 h4 h5 X hn hPc ⊢
  obtain ⟨m9, methY, cY, hn9, hmY, hcY, -, hlY, -⟩ := Cond.codeWith_spec h2
  cases Option.some.inj (hn9.symm.trans hn)
  obtain ⟨kY, hkY, -⟩ := className_of_methodNamed hn
  have hinitY : kY.init = .initialized := Cond.initialized_spec (findClass_of_methodNamed hn) hkY h3
  have h : At U g.method c below := by rw [hg]; exact X.here
  have hlocals9 : W9 + (maxL + 11) + (headSpec ws rm).room.locals ≤ R.locals := hlocals
  have happ : (headSpec ws rm).appliesLoose y e.platform (U.calling g mk a) = true :=
    Spec.appliesLoose_calling (g := g) h hdg hn hkY hinitY
      (X.room_calling (g := g) (R' := (headSpec ws rm).room) hsize hmY hcY hframes (by rw [hlY]; omega) h4 h5) h1
  obtain ⟨mid, hmid⟩ := h.above
  have hfr : (U.setTop g).frames = (.java g :: mid) ++ below := by rw [State.frames_setTop' g h.top, hmid]; rfl
  obtain ⟨o, s₂, hsteps, -, hend, hq⟩ := Steps.callFree hM p X.admits X.cas X.clock (acts := []) hfr happ hPc trivial
  have hq' : vx_Q Qc XC mc ms free a (U.calling g mk a) o s₂ := hq
  rw [State.frames_setTop' g h.top] at hend
  obtain ⟨g₀, hg0⟩ := Option.isSome_iff_exists.mp h.top
  obtain ⟨r, hr⟩ := State.topJava?_eq_some.mp hg0
  have hr' : (({ U with heap := s₂.heap, slotsUsed := s₂.slotsUsed } : State).setVm s₂.vm).frames = .java g₀ :: r := hr
  rcases hq' with ⟨hqc, L, hfe, hL⟩ | ⟨q, rfl, E, ce, L, hx, hce, hcv, hcl, hW₂, hsm, hL⟩
  · obtain ⟨⟨v, rfl⟩, hW₂, e2, q2, q3, q4, q5, q6⟩ := id hfe
    have e3 : s₂ = ({ (U.calling g mk a).setFrames s₂.frames with heap := s₂.heap, slotsUsed := s₂.slotsUsed } : State).setVm s₂.vm := by
      have : s₂ = ({ s₂ with vm := (U.calling g mk a).vm } : State).setVm s₂.vm := rfl
      rw [e2] at this
      exact this
    obtain ⟨c₂, i₂, len₂, hc₂, hd₂, hf₂⟩ := hend
    have hW' : U.WarmedH s₂.vm := hW₂
    have hcc : c₂ = c := by
      have h1 : s₂.code? g.method = U.code? g.method := by
        rw [State.code?_eq, State.code?_eq, hW'.alike.method?]
      exact Option.some.inj (hc₂.symm.trans (h1.trans h.code))
    subst hcc
    have hlen : len₂ = len := by rw [hdg] at hd₂; cases hd₂; rfl
    subst hlen
    have hs₂ : s₂ = (({ U with heap := s₂.heap, slotsUsed := s₂.slotsUsed } : State).setVm s₂.vm).setTop { g with pc := g.pc + len₂, stack := v.toList ++ g.stack } := by
      refine e3.trans ?_
      rw [hf₂, State.calling_eq h.top, State.setFrames_setFrames, State.setTop_of_frames _ hr', hr]
      rfl
    have hsame : U.sameButNew ({ U with heap := s₂.heap, slotsUsed := s₂.slotsUsed } : State) L mc ms := by
      refine ⟨?_, q2, q3, q4, q5, q6⟩
      obtain ⟨t, ht, -⟩ := State.frames_cons hr
      show ({ U with heap := s₂.heap, slotsUsed := s₂.slotsUsed } : State) = { U.setFrames U.frames with heap := s₂.heap, slotsUsed := s₂.slotsUsed }
      rw [State.setFrames_self ht]
    subst hg
    refine Or.inl ⟨v, ⟨(({ U with heap := s₂.heap, slotsUsed := s₂.slotsUsed } : State).setVm s₂.vm), Ls ++ L, c0 + mc, s0 + ms⟩,
      ⟨X.admits, X.cas, X.clock, X.frames, X.room, X.hears, X.method, X.code, (X.here.setHeapUsed s₂.heap s₂.slotsUsed).setVm hW'.alike, X.tail, State.WarmedH.trans X.warmed hW', X.limits, X.bytes, X.same.trans (hsame.setVm s.vm)⟩,
      ⟨g, mk, s₂, L, rfl, rfl, hqc, rfl, hL, rfl, rfl⟩, ?_⟩
    show Steps p.tables e below _ ((({ U with heap := s₂.heap, slotsUsed := s₂.slotsUsed } : State).setVm s₂.vm).setTop { g with pc := g.pc + len₂, stack := v.toList ++ g.stack })
    rw [← hs₂]
    exact hsteps
  · obtain ⟨e2, q2, q3, q4, q5, q6⟩ := id hsm
    have e3 : s₂ = ({ (U.calling g mk a).setFrames s₂.frames with heap := s₂.heap, slotsUsed := s₂.slotsUsed } : State).setVm s₂.vm := by
      have : s₂ = ({ s₂ with vm := (U.calling g mk a).vm } : State).setVm s₂.vm := rfl
      rw [e2] at this
      exact this
    have hf₂ : s₂.frames = .throwing q :: .java g :: U.frames.tail := hend
    have hW' : U.WarmedH s₂.vm := hW₂
    have hs₂ : s₂ = ((({ U with heap := s₂.heap, slotsUsed := s₂.slotsUsed } : State).setVm s₂.vm).setTop g).pushFrame (.throwing q) := by
      refine e3.trans ?_
      rw [hf₂, State.calling_eq h.top, State.setFrames_setFrames, State.pushFrame, State.frames_setTop _ hr', State.setTop_of_frames _ hr', State.setFrames_setFrames, hr]
      rfl
    have hsame : U.sameButNew ({ U with heap := s₂.heap, slotsUsed := s₂.slotsUsed } : State) L mc ms := by
      refine ⟨?_, q2, q3, q4, q5, q6⟩
      obtain ⟨t, ht, -⟩ := State.frames_cons hr
      show ({ U with heap := s₂.heap, slotsUsed := s₂.slotsUsed } : State) = { U.setFrames U.frames with heap := s₂.heap, slotsUsed := s₂.slotsUsed }
      rw [State.setFrames_self ht]
    subst hg
    refine Or.inr ⟨q, ⟨(({ U with heap := s₂.heap, slotsUsed := s₂.slotsUsed } : State).setVm s₂.vm), Ls ++ L, c0 + mc, s0 + ms⟩,
      ⟨X.admits, X.cas, X.clock, X.frames, X.room, X.hears, X.method, X.code, (X.here.setHeapUsed s₂.heap s₂.slotsUsed).setVm hW'.alike, X.tail, State.WarmedH.trans X.warmed hW', X.limits, X.bytes, X.same.trans (hsame.setVm s.vm)⟩,
      ⟨g, mk, s₂, L, E, ce, rfl, rfl, hx, hce, hcv, hcl, rfl, hL, rfl, rfl⟩, ?_⟩
    show Steps p.tables e below _ (((({ U with heap := s₂.heap, slotsUsed := s₂.slotsUsed } : State).setVm s₂.vm).setTop g).pushFrame (.throwing q))
    rw [← hs₂]
    exact hsteps
end
variable {p : Program} {l : Launch} {e : Env} {R : Room} {s : State} {m : MethodId} {args : Array Value} {below : List Frame} {meth : Method} {c : Code} {T : State} {H : Heap} {locs : List Loc} {cells slots : Nat}
theorem vx_callVX (X : Stand p l e R s m args below meth c T locs cells slots) (hexec : p.tables.exec = Jvm.exec) {own C : String} {index : Nat} {y : MethodName} {bytes : ByteArray} {maxL : Nat} {ret : Option FieldType} {hh : List (Nat × Nat × Nat × Nat)}
    (hown : s.vm.findClass own = some m.cls) (hlink : (Cond.methodLink own index y).before args s = true) (hinst : (Cond.instanceMethod y).before args s = true) (hsel : (Cond.selects C y y).before args s = true)
    (hcode : (Cond.codeWith y bytes maxL ret hh).before args s = true) (hy : y.cls ≠ "java/lang/invoke/MethodHandle" ∧ y.cls ≠ "java/lang/invoke/VarHandle")
    {W9 : Nat} {Pre : Pt → Array Value → Prop} {Post : Pt → Array Value → Option Value → Pt → Prop} {PostX : Pt → Array Value → Addr → Pt → Prop} (hK : vx_Back l R p e below s args y 3 W9 Pre Post PostX)
    {b : Addr} {cellB : Cell} (hcell : T.heap[b]? = some cellB) (hobj : cellB.vm.isStatics = false) (hcls : s.vm.findClass C = some cellB.cls)
    {g : JFrame} (hg : g.method = m) (hsize : g.locals.size = c.maxLocals) {argsL rest : List Value} (hlen : ∀ sig, parseMethodDescriptor y.desc = some sig → argsL.length = sig.parameters.length)
    (hstack : g.stack = argsL.reverse ++ .ref b :: rest) (hW : 2 * g.monitorRoom + (rest.map fun v => v.category).sum ≤ W9) (hdg : decode c.code g.pc = .ok (.invokevirtual index, 3))
    (hpre : ∀ vm₁, s.WarmedH vm₁ → Pre ⟨T.setVm vm₁, locs, cells, slots⟩ (Value.ref b :: argsL).toArray) :
    (∃ (v : Option Value) (vm₁ : Vm) (B : Pt), s.WarmedH vm₁ ∧ Stand p l e R s m args below meth c B.U B.locs B.cells B.slots ∧ Post ⟨T.setVm vm₁, locs, cells, slots⟩ (Value.ref b :: argsL).toArray v B ∧
      ∀ target, Steps p.tables e below (B.U.setTop { g with pc := g.pc + 3, stack := v.toList ++ rest }) target → Steps p.tables e below (T.setTop g) target) ∨
    (∃ (q : Addr) (vm₁ : Vm) (B : Pt), s.WarmedH vm₁ ∧ Stand p l e R s m args below meth c B.U B.locs B.cells B.slots ∧ PostX ⟨T.setVm vm₁, locs, cells, slots⟩ (Value.ref b :: argsL).toArray q B ∧
      Steps p.tables e below (T.setTop g) ((B.U.setTop { g with stack := rest }).pushFrame (.throwing q))) := by
  obtain ⟨mk, methM, hnamed, hmethM, hstM, habM⟩ := Cond.instanceMethod_spec hinst
  obtain ⟨m8, methM', cM, hn8, hmethM', -, -, -, -, -, -, hsigM⟩ := Cond.codeWith_spec hcode
  cases Option.some.inj (hn8.symm.trans hnamed)
  cases hmethM.symm.trans hmethM'
  obtain ⟨c2, r2, m2, q1, q2, q3, q4, kP, hkP, hkPi⟩ := Cond.selects_spec hsel
  cases hcls.symm.trans q1
  cases (State.methodFound?_of_named hnamed hy).symm.trans q2
  cases hnamed.symm.trans q3
  have hselP : selectMethod e.platform s.vm cellB.cls mk = .method mk := by rw [Launch.admits_selectMethod X.admits]; exact q4
  obtain ⟨vm₁, X₁, hstep₁⟩ := X.invokevirtual hexec hown hlink hnamed hmethM hstM hkP hkPi hy (a := b) (cell := cellB) hcell
    (fun z h => by rw [h] at hobj; cases hobj) hselP hmethM habM hkP hkPi (g := g) hg (argsL := argsL) (rest := rest) (hlen _ hsigM) hstack hdg
  rcases hK m meth c ⟨T.setVm vm₁, locs, cells, slots⟩ { g with stack := rest } (.invokevirtual index) mk (Value.ref b :: argsL).toArray X₁ hg hsize hdg hW (X₁.named hnamed) (hpre vm₁ X₁.warmed) with ⟨v, B, X', hpost, hsteps⟩ | ⟨q, B, X', hpost, hsteps⟩
  · exact Or.inl ⟨v, vm₁, B, X₁.warmed, X', hpost, fun target h => hstep₁ _ fun acts => by rw [doInvoke_state]; exact hsteps.trans h⟩
  · exact Or.inr ⟨q, vm₁, B, X₁.warmed, X', hpost, hstep₁ _ fun acts => by rw [doInvoke_state]; exact hsteps⟩
theorem vx_callSX (X : Stand p l e R s m args below meth c T locs cells slots) (hexec : p.tables.exec = Jvm.exec) {own : String} {index : Nat} {y : MethodName} {bytes : ByteArray} {maxL : Nat} {ret : Option FieldType} {hh : List (Nat × Nat × Nat × Nat)}
    (hown : s.vm.findClass own = some m.cls) (hlink : (Cond.methodLink own index y).before args s = true) (hstat : (Cond.static y).before args s = true) (hinit : (Cond.initialized y.cls).before args s = true)
    (hcode : (Cond.codeWith y bytes maxL ret hh).before args s = true) (hy : y.cls ≠ "java/lang/invoke/MethodHandle" ∧ y.cls ≠ "java/lang/invoke/VarHandle")
    {W9 : Nat} {Pre : Pt → Array Value → Prop} {Post : Pt → Array Value → Option Value → Pt → Prop} {PostX : Pt → Array Value → Addr → Pt → Prop} (hK : vx_Back l R p e below s args y 3 W9 Pre Post PostX)
    {g : JFrame} (hg : g.method = m) (hsize : g.locals.size = c.maxLocals) {argsL rest : List Value} (hlen : ∀ sig, parseMethodDescriptor y.desc = some sig → argsL.length = sig.parameters.length)
    (hstack : g.stack = argsL.reverse ++ rest) (hW : 2 * g.monitorRoom + (rest.map fun v => v.category).sum ≤ W9) (hdg : decode c.code g.pc = .ok (.invokestatic index, 3))
    (hpre : ∀ vm₁, s.WarmedH vm₁ → Pre ⟨T.setVm vm₁, locs, cells, slots⟩ argsL.toArray) :
    (∃ (v : Option Value) (vm₁ : Vm) (B : Pt), s.WarmedH vm₁ ∧ Stand p l e R s m args below meth c B.U B.locs B.cells B.slots ∧ Post ⟨T.setVm vm₁, locs, cells, slots⟩ argsL.toArray v B ∧
      ∀ target, Steps p.tables e below (B.U.setTop { g with pc := g.pc + 3, stack := v.toList ++ rest }) target → Steps p.tables e below (T.setTop g) target) ∨
    (∃ (q : Addr) (vm₁ : Vm) (B : Pt), s.WarmedH vm₁ ∧ Stand p l e R s m args below meth c B.U B.locs B.cells B.slots ∧ PostX ⟨T.setVm vm₁, locs, cells, slots⟩ argsL.toArray q B ∧
      Steps p.tables e below (T.setTop g) ((B.U.setTop { g with stack := rest }).pushFrame (.throwing q))) := by
  obtain ⟨mk, methM, cM, hnamed, hmethM, -, -, -, -, -, -, hsigM⟩ := Cond.codeWith_spec hcode
  have hstatic : methM.isStatic = true := Cond.static_spec hnamed hmethM hstat
  obtain ⟨kP, hkP, -⟩ := className_of_methodNamed hnamed
  have hinitP : kP.init = .initialized := Cond.initialized_spec (findClass_of_methodNamed hnamed) hkP hinit
  obtain ⟨vm₁, X₁, hstep₁⟩ := X.invokestatic hexec hown hlink hnamed hmethM hstatic hkP hinitP hy (g := g) hg (argsL := argsL) (rest := rest) (hlen _ hsigM) hstack hdg
  rcases hK m meth c ⟨T.setVm vm₁, locs, cells, slots⟩ { g with stack := rest } (.invokestatic index) mk argsL.toArray X₁ hg hsize hdg hW (X₁.named hnamed) (hpre vm₁ X₁.warmed) with ⟨v, B, X', hpost, hsteps⟩ | ⟨q, B, X', hpost, hsteps⟩
  · exact Or.inl ⟨v, vm₁, B, X₁.warmed, X', hpost, fun target h => hstep₁ _ fun acts => by rw [doInvoke_state]; exact hsteps.trans h⟩
  · exact Or.inr ⟨q, vm₁, B, X₁.warmed, X', hpost, hstep₁ _ fun acts => by rw [doInvoke_state]; exact hsteps⟩
theorem vx_callVW (X : Stand p l e R s m args below meth c T locs cells slots) (hexec : p.tables.exec = Jvm.exec) {own C : String} {index : Nat} {y : MethodName} {bytes : ByteArray} {maxL : Nat} {ret : Option FieldType} {hh : List (Nat × Nat × Nat × Nat)}
    (hown : s.vm.findClass own = some m.cls) (hlink : (Cond.methodLink own index y).before args s = true) (hinst : (Cond.instanceMethod y).before args s = true) (hsel : (Cond.selects C y y).before args s = true)
    (hcode : (Cond.codeWith y bytes maxL ret hh).before args s = true) (hy : y.cls ≠ "java/lang/invoke/MethodHandle" ∧ y.cls ≠ "java/lang/invoke/VarHandle")
    {W9 : Nat} {Pre : Pt → Array Value → Prop} {Post : Pt → Array Value → Option Value → Pt → Prop} (hK : Back l R p e below s args y 3 W9 Pre Post)
    {b : Addr} {cellB : Cell} (hcell : T.heap[b]? = some cellB) (hobj : cellB.vm.isStatics = false) (hcls : s.vm.findClass C = some cellB.cls)
    {g : JFrame} (hg : g.method = m) (hsize : g.locals.size = c.maxLocals) {argsL rest : List Value} (hlen : ∀ sig, parseMethodDescriptor y.desc = some sig → argsL.length = sig.parameters.length)
    (hstack : g.stack = argsL.reverse ++ .ref b :: rest) (hW : 2 * g.monitorRoom + (rest.map fun v => v.category).sum ≤ W9) (hdg : decode c.code g.pc = .ok (.invokevirtual index, 3))
    (hpre : ∀ vm₁, s.WarmedH vm₁ → Pre ⟨T.setVm vm₁, locs, cells, slots⟩ (Value.ref b :: argsL).toArray) :
    ∃ (v : Option Value) (vm₁ : Vm) (B : Pt), s.WarmedH vm₁ ∧ Stand p l e R s m args below meth c B.U B.locs B.cells B.slots ∧ Post ⟨T.setVm vm₁, locs, cells, slots⟩ (Value.ref b :: argsL).toArray v B ∧
      ∀ target, Steps p.tables e below (B.U.setTop { g with pc := g.pc + 3, stack := v.toList ++ rest }) target → Steps p.tables e below (T.setTop g) target := by
  obtain ⟨mk, methM, hnamed, hmethM, hstM, habM⟩ := Cond.instanceMethod_spec hinst
  obtain ⟨m8, methM', cM, hn8, hmethM', -, -, -, -, -, -, hsigM⟩ := Cond.codeWith_spec hcode
  cases Option.some.inj (hn8.symm.trans hnamed)
  cases hmethM.symm.trans hmethM'
  obtain ⟨c2, r2, m2, q1, q2, q3, q4, kP, hkP, hkPi⟩ := Cond.selects_spec hsel
  cases hcls.symm.trans q1
  cases (State.methodFound?_of_named hnamed hy).symm.trans q2
  cases hnamed.symm.trans q3
  have hselP : selectMethod e.platform s.vm cellB.cls mk = .method mk := by rw [Launch.admits_selectMethod X.admits]; exact q4
  obtain ⟨vm₁, X₁, hstep₁⟩ := X.invokevirtual hexec hown hlink hnamed hmethM hstM hkP hkPi hy (a := b) (cell := cellB) hcell
    (fun z h => by rw [h] at hobj; cases hobj) hselP hmethM habM hkP hkPi (g := g) hg (argsL := argsL) (rest := rest) (hlen _ hsigM) hstack hdg
  obtain ⟨v, B, X', hpost, hsteps⟩ := hK m meth c ⟨T.setVm vm₁, locs, cells, slots⟩ { g with stack := rest } (.invokevirtual index) mk (Value.ref b :: argsL).toArray X₁ hg hsize hdg hW (X₁.named hnamed) (hpre vm₁ X₁.warmed)
  exact ⟨v, vm₁, B, X₁.warmed, X', hpost, fun target h => hstep₁ _ fun acts => by rw [doInvoke_state]; exact hsteps.trans h⟩
abbrev vx_CVW (R : Room) (s : State) (args : Array Value) (own C : String) (index : Nat) (y : MethodName) (bytes : ByteArray) (maxL : Nat) (ret : Option FieldType) (hh : List (Nat × Nat × Nat × Nat)) (ws : List Cond) (rm : Room) (mc ms n : Nat) : Prop :=
  (rm.cells = mc ∧ rm.slots = ms ∧ rm.frames + 1 ≤ R.frames ∧ 8 + (maxL + 11) + rm.locals ≤ R.locals ∧ (∀ w ∈ ws, ∀ (a' : Array Value) (U : State), s.WarmedH U.vm → w.before a' U = true) ∧ Cond.codeWith y bytes maxL ret hh ∈ ws) ∧
  (Cond.codeWith y bytes maxL ret hh).before args s = true ∧ (Cond.initialized y.cls).before args s = true ∧ (y.cls ≠ "java/lang/invoke/MethodHandle" ∧ y.cls ≠ "java/lang/invoke/VarHandle") ∧
  (∀ sig, parseMethodDescriptor y.desc = some sig → n = sig.parameters.length) ∧ (Cond.methodLink own index y).before args s = true ∧ (Cond.instanceMethod y).before args s = true ∧ (Cond.selects C y y).before args s = true
theorem vx_cwVW {own C : String} {index maxL mc ms : Nat} {y : MethodName} {bytes : ByteArray} {ret : Option FieldType} {hh : List (Nat × Nat × Nat × Nat)} {Ts ws ws' : List Cond} {rm : Room} (n : Nat) (ht : ∀ w ∈ Ts, w.before args s = true) (hT : GoodIn Ts (wsV own index C y ws)) (hw : ws = Cond.codeWith y bytes maxL ret hh :: ws') (hrc : rm.cells = mc) (hrs : rm.slots = ms)
    (hd : y.cls = C ∧ y.cls ≠ "java/lang/invoke/MethodHandle" ∧ y.cls ≠ "java/lang/invoke/VarHandle" ∧ (parseMethodDescriptor y.desc).map (fun d => d.parameters.length) = some n) (hR : rm.frames + 1 ≤ R.frames ∧ 8 + (maxL + 11) + rm.locals ≤ R.locals) :
    vx_CVW R s args own C index y bytes maxL ret hh ws rm mc ms n := by
  obtain ⟨hC, hd⟩ := hd
  subst hC
  have ok : ∀ w ∈ wsV own index y.cls y ws, w.before args s = true := fun w h => ht w (hT w h).1
  have hG : GoodIn Ts ws := fun w h => hT w (by unfold wsV; exact List.mem_append_right _ h)
  have hc : Cond.codeWith y bytes maxL ret hh ∈ ws := by rw [hw]; exact List.mem_cons_self
  refine ⟨⟨hrc, hrs, hR.1, hR.2, pay_in ht hG, hc⟩, ht _ (hG _ hc).1, ok _ (by simp [wsV]), ⟨hd.1, hd.2.1⟩, fun sig h => ?_, ok _ (by simp [wsV]), ok _ (by simp [wsV]), ok _ (by simp [wsV])⟩
  have h2 := hd.2.2
  rw [h] at h2
  exact (Option.some.inj h2).symm
theorem vx_runVW {y : MethodName} {bytes cc : ByteArray} {maxL nL mc ms n index : Nat} {ret : Option FieldType} {hh : List (Nat × Nat × Nat × Nat)} {ws : List Cond} {rm : Room} {Pc : Array Value → State → Prop} {Qc : Array Value → State → Outcome → State → Prop} {free : Addr → Prop} {Ts : List Cond} {own C : String} {b : Addr} {As rest : List Value} {g : JFrame}
    (S : CallFix p m c cc nL s args Ts own) (hM : Met l y ws rm Pc Qc mc ms free) (cw : vx_CVW R s args own C index y bytes maxL ret hh ws rm mc ms n) (hp : PreV s H C b Pc As)
    (hg : g.method = m) (hn : As.length = n) (hsize : g.locals.size = nL) (hstack : g.stack = As.reverse ++ .ref b :: rest) (hW : 2 * g.monitorRoom + (rest.map fun v => v.category).sum ≤ 8) (hdg : decode cc g.pc = .ok (.invokevirtual index, 3)) (hf : cells + mc ≤ R.cells ∧ slots + ms ≤ R.slots) :
    va_Run p l e R s m args below meth c H locs cells slots mc ms g rest (Qc (Value.ref b :: As).toArray) free := by
  obtain ⟨⟨hrc, hrs, hfr, hlo, hws, hcw⟩, hcode, hini, hy, hlen, hl, hin, hse⟩ := cw
  have hK : Back l R p e below s args y 3 8 (PreOf R mc ms Pc) (PostOf Qc mc ms free) := va_backW (hh := hh) (bytes := bytes) (maxL := maxL) (ret := ret) hM hp.1 hrc hrs hfr hlo hws hcw (fun a' U hW => word_at hW (Or.inl (by first | rfl | simp [Cond.onTables, Cond.keeps, Cond.steady])) hini)
  obtain ⟨hx, hb, hml, ho, -⟩ := S
  obtain ⟨-, ⟨cellB, hcB, hoB, hclB⟩, hPc⟩ := hp
  intro T hT X
  obtain ⟨v, vm₁, ⟨U', l2, c2, s2⟩, hW₁, X', ⟨g', mk, t, L, e1, e2, hq, h1, hL, h2, h3⟩, st⟩ := vx_callVW X hx (C := C) (hh := hh) (bytes := bytes) (maxL := maxL) (ret := ret) ho hl hin hse hcode hy hK (by rw [hT]; exact hcB) hoB hclB hg (hsize.trans hml.symm) (argsL := As) (rest := rest) (fun sig h => hn.trans (hlen sig h)) hstack hW (by rw [hb]; exact hdg)
    (fun vm₁ hW₁ => ⟨hf.1, hf.2, hPc (T.setVm vm₁) hT hW₁⟩)
  dsimp only [Pt.U, Pt.locs, Pt.cells, Pt.slots] at X' e1 e2 h1 h2 h3 st
  subst h1; subst h2; subst h3
  exact ⟨v, (T.setVm vm₁).calling g' mk (Value.ref b :: As).toArray, t, U', L, hT, X', hL, e1, e2, hq, st⟩
section
variable {y : MethodName} {bytes cc : ByteArray} {maxL nL mc ms n index : Nat} {ret : Option FieldType} {ws : List Cond} {rm : Room} {Pc : Array Value → State → Prop} {Qc : Array Value → State → Outcome → State → Prop} {XC : String → State → State → Prop} {free : Addr → Prop} {Ts : List Cond} {own C : String} {b : Addr} {As rest : List Value} {g : JFrame}
theorem vx_runVX {hh : List (Nat × Nat × Nat × Nat)} (S : CallFix p m c cc nL s args Ts own) (hM : vx_Met l y ws rm Pc Qc XC mc ms free) (cw : vx_CVW R s args own C index y bytes maxL ret hh ws rm mc ms n) (hp : PreV s H C b Pc As)
    (hg : g.method = m) (hn : As.length = n) (hsize : g.locals.size = nL) (hstack : g.stack = As.reverse ++ .ref b :: rest) (hW : 2 * g.monitorRoom + (rest.map fun v => v.category).sum ≤ 8) (hdg : decode cc g.pc = .ok (.invokevirtual index, 3)) (hf : cells + mc ≤ R.cells ∧ slots + ms ≤ R.slots) :
    vx_Run p l e R s m args below meth c H locs cells slots mc ms g rest (Qc (Value.ref b :: As).toArray) XC free := by
  obtain ⟨⟨hrc, hrs, hfr, hlo, hws, hcw⟩, hcode, hini, hy, hlen, hl, hin, hse⟩ := cw
  have hK : vx_Back l R p e below s args y 3 8 (PreOf R mc ms Pc) (PostOf Qc mc ms free) (vx_Post XC mc ms free) := vx_backW (hh := hh) (bytes := bytes) (maxL := maxL) (ret := ret) hM hp.1 hrc hrs hfr hlo hws hcw (fun a' U hW => word_at hW (Or.inl (by first | rfl | simp [Cond.onTables, Cond.keeps, Cond.steady])) hini)
  obtain ⟨hx, hb, hml, ho, -⟩ := S
  obtain ⟨-, ⟨cellB, hcB, hoB, hclB⟩, hPc⟩ := hp
  intro T hT X
  rcases vx_callVX X hx (C := C) (hh := hh) (bytes := bytes) (maxL := maxL) (ret := ret) ho hl hin hse hcode hy hK (by rw [hT]; exact hcB) hoB hclB hg (hsize.trans hml.symm) (argsL := As) (rest := rest) (fun sig h => hn.trans (hlen sig h)) hstack hW (by rw [hb]; exact hdg)
    (fun vm₁ hW₁ => ⟨hf.1, hf.2, hPc (T.setVm vm₁) hT hW₁⟩) with ⟨v, vm₁, ⟨U', l2, c2, s2⟩, hW₁, X', ⟨g', mk, t, L, e1, e2, hq, h1, hL, h2, h3⟩, st⟩ | ⟨q, vm₁, ⟨U', l2, c2, s2⟩, hW₁, X', ⟨g', mk, t, L, E, ce, e1, e2, hq, hce, hcv, hcl, h1, hL, h2, h3⟩, st⟩
  · dsimp only [Pt.U, Pt.locs, Pt.cells, Pt.slots] at X' e1 e2 h1 h2 h3 st
    subst h1; subst h2; subst h3
    exact Or.inl ⟨v, (T.setVm vm₁).calling g' mk (Value.ref b :: As).toArray, t, U', L, hT, X', hL, e1, e2, hq, st⟩
  · dsimp only [Pt.U, Pt.locs, Pt.cells, Pt.slots] at X' e1 e2 h1 h2 h3 st hcl
    subst h1; subst h2; subst h3
    exact Or.inr ⟨q, (T.setVm vm₁).calling g' mk (Value.ref b :: As).toArray, t, U', L, E, ce, hT, X', hL, e1, e2, hq, hce, hcv, vx_cls hW₁ hcl, st⟩
theorem vx_runSX {hh : List (Nat × Nat × Nat × Nat)} (S : CallFix p m c cc nL s args Ts own) (hM : vx_Met l y ws rm Pc Qc XC mc ms free) (cw : vx_CSW R s args own index y bytes maxL ret hh ws rm mc ms n) (hp : PreS s H Pc As)
    (hg : g.method = m) (hn : As.length = n) (hsize : g.locals.size = nL) (hstack : g.stack = As.reverse ++ rest) (hW : 2 * g.monitorRoom + (rest.map fun v => v.category).sum ≤ 8) (hdg : decode cc g.pc = .ok (.invokestatic index, 3)) (hf : cells + mc ≤ R.cells ∧ slots + ms ≤ R.slots) :
    vx_Run p l e R s m args below meth c H locs cells slots mc ms g rest (Qc As.toArray) XC free := by
  obtain ⟨⟨hrc, hrs, hfr, hlo, hws, hcw⟩, hcode, hini, hy, hlen, hl, hstt⟩ := cw
  have hK : vx_Back l R p e below s args y 3 8 (PreOf R mc ms Pc) (PostOf Qc mc ms free) (vx_Post XC mc ms free) := vx_backW (hh := hh) (bytes := bytes) (maxL := maxL) (ret := ret) hM hp.1 hrc hrs hfr hlo hws hcw (fun a' U hW => word_at hW (Or.inl (by first | rfl | simp [Cond.onTables, Cond.keeps, Cond.steady])) hini)
  obtain ⟨hx, hb, hml, ho, -⟩ := S
  intro T hT X
  rcases vx_callSX X hx (hh := hh) (bytes := bytes) (maxL := maxL) (ret := ret) ho hl hstt hini hcode hy hK hg (hsize.trans hml.symm) (argsL := As) (rest := rest) (fun sig h => hn.trans (hlen sig h)) hstack hW (by rw [hb]; exact hdg)
    (fun vm₁ hW₁ => ⟨hf.1, hf.2, hp.2 (T.setVm vm₁) hT hW₁⟩) with ⟨v, vm₁, ⟨U', l2, c2, s2⟩, hW₁, X', ⟨g', mk, t, L, e1, e2, hq, h1, hL, h2, h3⟩, st⟩ | ⟨q, vm₁, ⟨U', l2, c2, s2⟩, hW₁, X', ⟨g', mk, t, L, E, ce, e1, e2, hq, hce, hcv, hcl, h1, hL, h2, h3⟩, st⟩
  · dsimp only [Pt.U, Pt.locs, Pt.cells, Pt.slots] at X' e1 e2 h1 h2 h3 st
    subst h1; subst h2; subst h3
    exact Or.inl ⟨v, (T.setVm vm₁).calling g' mk As.toArray, t, U', L, hT, X', hL, e1, e2, hq, st⟩
  · dsimp only [Pt.U, Pt.locs, Pt.cells, Pt.slots] at X' e1 e2 h1 h2 h3 st hcl
    subst h1; subst h2; subst h3
    exact Or.inr ⟨q, (T.setVm vm₁).calling g' mk As.toArray, t, U', L, E, ce, hT, X', hL, e1, e2, hq, hce, hcv, vx_cls hW₁ hcl, st⟩
end
end VXH
theorem vx_ofWH {l : Launch} {y : MethodName} {ws ws' : List Cond} {rm : Room} {Pc : Array Value → State → Prop} {Qc : Array Value → State → Outcome → State → Prop} {XC : String → State → State → Prop} {mc ms : Nat} {free : Addr → Prop} {cc : ByteArray} {maxL : Nat} {ret : Option FieldType} {hh : List (Nat × Nat × Nat × Nat)}
    (hy : plainName y.cls = true) (hw : ws = Cond.codeWith y cc maxL ret hh :: ws')
    (body : ∀ p e s m args below meth c s₁, BodyLoose p l y (headSpec ws rm) cc maxL ret e s m args below meth c s₁ → c.maxLocals = maxL → Pc args s →
      W p l e (headSpec ws rm).room s m args below meth c s.heap [] 0 0 (vx_MQ below Qc XC args s mc ms free) (entryFrame m args maxL)) : vx_Met l y ws rm Pc Qc XC mc ms free := by
  refine MetFree.of_bodyS (code := cc) (maxLocals := maxL) (ret := ret) hy ?_ ?_
  · intro args s m h hn
    obtain ⟨m9, meth, c, hn9, h1, h2, h3, h4, -, h5, h6, -⟩ := Cond.codeWith_spec (atoms_spec (ws := ws) h _ (by rw [hw]; exact List.mem_cons_self))
    cases hn.symm.trans hn9
    exact ⟨meth, c, h1, h2, h3, h4, h5, h6⟩
  · intro p e s m args below meth c s₁ B hml hP _
    have hh0 : s₁.heap = s.heap := by rw [B.state]; rfl
    obtain ⟨t, a1, o, b1, b2, b3⟩ := body p e s m args below meth c s₁ B hml hP s₁ hh0 (Stand.of_body B)
    exact ⟨t, o, a1, b1, b2, b3⟩
/-! ===== END ===== -/

/-! ===== BEGIN printed: names, fields, word lists, decode rows ===== -/
def RX0 : String := "KeyCabinet$Ledger"
def TX0 : u_T := fun k => match k with
  | 0 => ("KeyCabinet$Ledger", "keyOf", "[I", true)
  | 1 => ("KeyCabinet$Ledger", "stateOf", "[I", true)
  | 2 => ("KeyCabinet$Ledger", "timesLent", "[I", true)
  | 3 => ("KeyCabinet$Ledger", "loanPerson", "[I", true)
  | 4 => ("KeyCabinet$Ledger", "loanStart", "[I", true)
  | 5 => ("KeyCabinet$Ledger", "loanDue", "[I", true)
  | 6 => ("KeyCabinet$Ledger", "loanEnd", "[I", true)
  | _ => ("KeyCabinet$Ledger", "copies", "I", false)
def tyX0 : Nat → FieldType := fun k => match k with
  | 0 => .array .int
  | 1 => .array .int
  | 2 => .array .int
  | 3 => .array .int
  | 4 => .array .int
  | 5 => .array .int
  | 6 => .array .int
  | _ => .int
abbrev wsX00 : List Cond := u_ws RX0 TX0 8
theorem nmX0 : ∀ a, a < 8 → ∀ b, b < 8 → a ≠ b → (TX0 a).2.1 ≠ (TX0 b).2.1 := by decide +kernel
theorem tyX0_ok : ∀ k, k < 8 → parseFieldDescriptor (TX0 k).2.2.1 = some (tyX0 k) := by decide +kernel
abbrev cX0_init : ByteArray := prog_2_method_1_code
def yX0_init : MethodName := ⟨RX0, "<init>", "()V"⟩
abbrev cX0_takeCopy : ByteArray := prog_2_method_2_code
def yX0_takeCopy : MethodName := ⟨RX0, "takeCopy", "(I)I"⟩
abbrev cX0_canBeLent : ByteArray := prog_2_method_3_code
def yX0_canBeLent : MethodName := ⟨RX0, "canBeLent", "(I)Z"⟩
abbrev cX0_startLoan : ByteArray := prog_2_method_4_code
def yX0_startLoan : MethodName := ⟨RX0, "startLoan", "(IIII)V"⟩
abbrev cX0_move : ByteArray := prog_2_method_5_code
def yX0_move : MethodName := ⟨RX0, "move", "(III)V"⟩
abbrev cX0_voidCopiesOf : ByteArray := prog_2_method_6_code
def yX0_voidCopiesOf : MethodName := ⟨RX0, "voidCopiesOf", "(II)V"⟩
abbrev cX0_lastLoan : ByteArray := prog_2_method_7_code
def yX0_lastLoan : MethodName := ⟨RX0, "lastLoan", "(I)I"⟩
abbrev cX0_holderOf : ByteArray := prog_2_method_8_code
def yX0_holderOf : MethodName := ⟨RX0, "holderOf", "(I)I"⟩
abbrev cX0_dueOf : ByteArray := prog_2_method_9_code
def yX0_dueOf : MethodName := ⟨RX0, "dueOf", "(I)I"⟩
abbrev cX0_holderOn : ByteArray := prog_2_method_10_code
def yX0_holderOn : MethodName := ⟨RX0, "holderOn", "(II)I"⟩
abbrev cX0_copiesDueBefore : ByteArray := prog_2_method_11_code
def yX0_copiesDueBefore : MethodName := ⟨RX0, "copiesDueBefore", "(I)I"⟩
abbrev cX0_keysHeldBy : ByteArray := prog_2_method_12_code
def yX0_keysHeldBy : MethodName := ⟨RX0, "keysHeldBy", "(I)I"⟩
abbrev cX0_keysLost : ByteArray := prog_2_method_13_code
def yX0_keysLost : MethodName := ⟨RX0, "keysLost", "()I"⟩
abbrev cX0_firstToLend : ByteArray := prog_2_method_14_code
def yX0_firstToLend : MethodName := ⟨RX0, "firstToLend", "(I)I"⟩
def RX1 : String := "KeyCabinet$Plan"
def TX1 : u_T := fun k => match k with
  | 0 => ("KeyCabinet$Plan", "codeOf", "[I", true)
  | 1 => ("KeyCabinet$Plan", "teethOf", "[I", true)
  | 2 => ("KeyCabinet$Plan", "rightsOf", "[I", true)
  | 3 => ("KeyCabinet$Plan", "pinsOf", "[I", true)
  | 4 => ("KeyCabinet$Plan", "pinsWithout", "[I", true)
  | 5 => ("KeyCabinet$Plan", "keys", "I", false)
  | 6 => ("KeyCabinet$Plan", "doors", "I", false)
  | _ => ("KeyCabinet$Plan", "pinsMoved", "I", false)
def tyX1 : Nat → FieldType := fun k => match k with
  | 0 => .array .int
  | 1 => .array .int
  | 2 => .array .int
  | 3 => .array .int
  | 4 => .array .int
  | 5 => .int
  | 6 => .int
  | _ => .int
abbrev wsX10 : List Cond := u_ws RX1 TX1 8
theorem nmX1 : ∀ a, a < 8 → ∀ b, b < 8 → a ≠ b → (TX1 a).2.1 ≠ (TX1 b).2.1 := by decide +kernel
theorem tyX1_ok : ∀ k, k < 8 → parseFieldDescriptor (TX1 k).2.2.1 = some (tyX1 k) := by decide +kernel
abbrev cX1_init : ByteArray := prog_3_method_1_code
def yX1_init : MethodName := ⟨RX1, "<init>", "()V"⟩
abbrev cX1_isTaken : ByteArray := prog_3_method_2_code
def yX1_isTaken : MethodName := ⟨RX1, "isTaken", "(I)Z"⟩
abbrev cX1_takeKey : ByteArray := prog_3_method_3_code
def yX1_takeKey : MethodName := ⟨RX1, "takeKey", "(I)I"⟩
abbrev cX1_takeDoor : ByteArray := prog_3_method_4_code
def yX1_takeDoor : MethodName := ⟨RX1, "takeDoor", "(I)I"⟩
abbrev cX1_giveRights : ByteArray := prog_3_method_5_code
def yX1_giveRights : MethodName := ⟨RX1, "giveRights", "(II)V"⟩
abbrev cX1_giveCode : ByteArray := prog_3_method_6_code
def yX1_giveCode : MethodName := ⟨RX1, "giveCode", "(II)V"⟩
abbrev cX1_changePins : ByteArray := prog_3_method_7_code
def yX1_changePins : MethodName := ⟨RX1, "changePins", "(I)V"⟩
abbrev cX1_pinsFor : ByteArray := prog_3_method_8_code
def yX1_pinsFor : MethodName := ⟨RX1, "pinsFor", "(I)I"⟩
abbrev cX1_teeth : ByteArray := prog_3_method_9_code
def yX1_teeth : MethodName := ⟨RX1, "teeth", "(I)I"⟩
abbrev cX1_pinsAt : ByteArray := prog_3_method_10_code
def yX1_pinsAt : MethodName := ⟨RX1, "pinsAt", "(II)I"⟩
abbrev cX1_keyOpens : ByteArray := prog_3_method_11_code
def yX1_keyOpens : MethodName := ⟨RX1, "keyOpens", "(II)Z"⟩
abbrev cX1_openersOf : ByteArray := prog_3_method_12_code
def yX1_openersOf : MethodName := ⟨RX1, "openersOf", "(I)I"⟩
abbrev cX1_doorsOf : ByteArray := prog_3_method_13_code
def yX1_doorsOf : MethodName := ⟨RX1, "doorsOf", "(I)I"⟩
abbrev cX1_doorsOfAll : ByteArray := prog_3_method_14_code
def yX1_doorsOfAll : MethodName := ⟨RX1, "doorsOfAll", "(I)I"⟩
abbrev cX1_countStrays : ByteArray := prog_3_method_15_code
def yX1_countStrays : MethodName := ⟨RX1, "countStrays", "()I"⟩
abbrev cX1_countCodes : ByteArray := prog_3_method_16_code
def yX1_countCodes : MethodName := ⟨RX1, "countCodes", "(I)I"⟩
abbrev cX1_bestCodeFor : ByteArray := prog_3_method_17_code
def yX1_bestCodeFor : MethodName := ⟨RX1, "bestCodeFor", "(I)I"⟩
abbrev cX1_pinsWith : ByteArray := prog_3_method_18_code
def yX1_pinsWith : MethodName := ⟨RX1, "pinsWith", "(III)I"⟩
abbrev cX1_oldCodeOpens : ByteArray := prog_3_method_19_code
def yX1_oldCodeOpens : MethodName := ⟨RX1, "oldCodeOpens", "(II)Z"⟩
abbrev cX1_straysWith : ByteArray := prog_3_method_20_code
def yX1_straysWith : MethodName := ⟨RX1, "straysWith", "(III)I"⟩
abbrev cX1_workWith : ByteArray := prog_3_method_21_code
def yX1_workWith : MethodName := ⟨RX1, "workWith", "(II)I"⟩
def RX2 : String := "KeyCabinet"
def TX2 : u_T := fun k => match k with
  | 0 => ("KeyCabinet", "plan", "LKeyCabinet$Plan;", true)
  | 1 => ("KeyCabinet", "ledger", "LKeyCabinet$Ledger;", true)
  | 2 => ("KeyCabinet", "copyToLend", "[I", true)
  | 3 => ("KeyCabinet", "doorsOpened", "[I", true)
  | _ => ("KeyCabinet", "day", "I", false)
def tyX2 : Nat → FieldType := fun k => match k with
  | 0 => .object "KeyCabinet$Plan"
  | 1 => .object "KeyCabinet$Ledger"
  | 2 => .array .int
  | 3 => .array .int
  | _ => .int
abbrev wsX20 : List Cond := u_ws RX2 TX2 5
theorem nmX2 : ∀ a, a < 5 → ∀ b, b < 5 → a ≠ b → (TX2 a).2.1 ≠ (TX2 b).2.1 := by decide +kernel
theorem tyX2_ok : ∀ k, k < 5 → parseFieldDescriptor (TX2 k).2.2.1 = some (tyX2 k) := by decide +kernel
abbrev cX2_init : ByteArray := prog_1_method_1_code
def yX2_init : MethodName := ⟨RX2, "<init>", "()V"⟩
abbrev cX2_addKey : ByteArray := prog_1_method_2_code
def yX2_addKey : MethodName := ⟨RX2, "addKey", "(I)I"⟩
abbrev cX2_addDoor : ByteArray := prog_1_method_3_code
def yX2_addDoor : MethodName := ⟨RX2, "addDoor", "(I)I"⟩
abbrev cX2_setRights : ByteArray := prog_1_method_4_code
def yX2_setRights : MethodName := ⟨RX2, "setRights", "(II)I"⟩
abbrev cX2_keyCount : ByteArray := prog_1_method_5_code
def yX2_keyCount : MethodName := ⟨RX2, "keyCount", "()I"⟩
abbrev cX2_doorCount : ByteArray := prog_1_method_6_code
def yX2_doorCount : MethodName := ⟨RX2, "doorCount", "()I"⟩
abbrev cX2_code : ByteArray := prog_1_method_7_code
def yX2_code : MethodName := ⟨RX2, "code", "(I)I"⟩
abbrev cX2_pins : ByteArray := prog_1_method_8_code
def yX2_pins : MethodName := ⟨RX2, "pins", "(II)I"⟩
abbrev cX2_opens : ByteArray := prog_1_method_9_code
def yX2_opens : MethodName := ⟨RX2, "opens", "(II)Z"⟩
abbrev cX2_openers : ByteArray := prog_1_method_10_code
def yX2_openers : MethodName := ⟨RX2, "openers", "(I)I"⟩
abbrev cX2_doors : ByteArray := prog_1_method_11_code
def yX2_doors : MethodName := ⟨RX2, "doors", "(I)I"⟩
abbrev cX2_strays : ByteArray := prog_1_method_12_code
def yX2_strays : MethodName := ⟨RX2, "strays", "()I"⟩
abbrev cX2_codes : ByteArray := prog_1_method_13_code
def yX2_codes : MethodName := ⟨RX2, "codes", "(I)I"⟩
abbrev cX2_isAbove : ByteArray := prog_1_method_14_code
def yX2_isAbove : MethodName := ⟨RX2, "isAbove", "(II)Z"⟩
abbrev cX2_work : ByteArray := prog_1_method_15_code
def yX2_work : MethodName := ⟨RX2, "work", "()I"⟩
abbrev cX2_replace : ByteArray := prog_1_method_16_code
def yX2_replace : MethodName := ⟨RX2, "replace", "(I)I"⟩
abbrev cX2_cut : ByteArray := prog_1_method_17_code
def yX2_cut : MethodName := ⟨RX2, "cut", "(I)I"⟩
abbrev cX2_lend : ByteArray := prog_1_method_18_code
def yX2_lend : MethodName := ⟨RX2, "lend", "(III)I"⟩
abbrev cX2_giveBack : ByteArray := prog_1_method_19_code
def yX2_giveBack : MethodName := ⟨RX2, "giveBack", "(I)I"⟩
abbrev cX2_lose : ByteArray := prog_1_method_20_code
def yX2_lose : MethodName := ⟨RX2, "lose", "(I)I"⟩
abbrev cX2_find : ByteArray := prog_1_method_21_code
def yX2_find : MethodName := ⟨RX2, "find", "(I)I"⟩
abbrev cX2_pass : ByteArray := prog_1_method_22_code
def yX2_pass : MethodName := ⟨RX2, "pass", "(I)I"⟩
abbrev cX2_today : ByteArray := prog_1_method_23_code
def yX2_today : MethodName := ⟨RX2, "today", "()I"⟩
abbrev cX2_copyCount : ByteArray := prog_1_method_24_code
def yX2_copyCount : MethodName := ⟨RX2, "copyCount", "()I"⟩
abbrev cX2_copy : ByteArray := prog_1_method_25_code
def yX2_copy : MethodName := ⟨RX2, "copy", "(II)I"⟩
abbrev cX2_overdue : ByteArray := prog_1_method_26_code
def yX2_overdue : MethodName := ⟨RX2, "overdue", "()I"⟩
abbrev cX2_holderAt : ByteArray := prog_1_method_27_code
def yX2_holderAt : MethodName := ⟨RX2, "holderAt", "(II)I"⟩
abbrev cX2_reach : ByteArray := prog_1_method_28_code
def yX2_reach : MethodName := ⟨RX2, "reach", "(I)I"⟩
abbrev cX2_risk : ByteArray := prog_1_method_29_code
def yX2_risk : MethodName := ⟨RX2, "risk", "()I"⟩
abbrev cX2_suggest : ByteArray := prog_1_method_30_code
def yX2_suggest : MethodName := ⟨RX2, "suggest", "(II)I"⟩
abbrev cX2_exposure : ByteArray := prog_1_method_31_code
def yX2_exposure : MethodName := ⟨RX2, "exposure", "()D"⟩
abbrev cX2_digest : ByteArray := prog_1_method_32_code
def yX2_digest : MethodName := ⟨RX2, "digest", "()J"⟩
abbrev cX2_needKey : ByteArray := prog_1_method_33_code
def yX2_needKey : MethodName := ⟨RX2, "needKey", "(I)V"⟩
abbrev cX2_needDoor : ByteArray := prog_1_method_34_code
def yX2_needDoor : MethodName := ⟨RX2, "needDoor", "(I)V"⟩
abbrev cX2_needCopy : ByteArray := prog_1_method_35_code
def yX2_needCopy : MethodName := ⟨RX2, "needCopy", "(I)V"⟩
abbrev cX2_needPerson : ByteArray := prog_1_method_36_code
def yX2_needPerson : MethodName := ⟨RX2, "needPerson", "(I)V"⟩
abbrev cX2_needRights : ByteArray := prog_1_method_37_code
def yX2_needRights : MethodName := ⟨RX2, "needRights", "(I)V"⟩
abbrev cX2_needDays : ByteArray := prog_1_method_38_code
def yX2_needDays : MethodName := ⟨RX2, "needDays", "(I)V"⟩
abbrev cX2_isSetOf : ByteArray := prog_1_method_39_code
def yX2_isSetOf : MethodName := ⟨RX2, "isSetOf", "(II)Z"⟩
abbrev cX2_contains : ByteArray := prog_1_method_40_code
def yX2_contains : MethodName := ⟨RX2, "contains", "(II)Z"⟩
abbrev cX2_doorsReached : ByteArray := prog_1_method_41_code
def yX2_doorsReached : MethodName := ⟨RX2, "doorsReached", "(I)I"⟩
abbrev cX2_doorsAtRisk : ByteArray := prog_1_method_42_code
def yX2_doorsAtRisk : MethodName := ⟨RX2, "doorsAtRisk", "()I"⟩
abbrev cX2_bestCopies : ByteArray := prog_1_method_43_code
def yX2_bestCopies : MethodName := ⟨RX2, "bestCopies", "(II)I"⟩
abbrev cX2_doorsOpenedBy : ByteArray := prog_1_method_44_code
def yX2_doorsOpenedBy : MethodName := ⟨RX2, "doorsOpenedBy", "(I)I"⟩
abbrev cX2_copiesOf : ByteArray := prog_1_method_45_code
def yX2_copiesOf : MethodName := ⟨RX2, "copiesOf", "(I)I"⟩
abbrev cX2_mixDoor : ByteArray := prog_1_method_46_code
def yX2_mixDoor : MethodName := ⟨RX2, "mixDoor", "(JI)J"⟩
abbrev cX2_mixCopy : ByteArray := prog_1_method_47_code
def yX2_mixCopy : MethodName := ⟨RX2, "mixCopy", "(JI)J"⟩
abbrev cX2_mix : ByteArray := prog_1_method_48_code
def yX2_mix : MethodName := ⟨RX2, "mix", "(JJ)J"⟩
def RX3 : String := "KeyCabinetModel"
def TX3 : u_T := fun k => match k with
  | 0 => ("KeyCabinetModel", "thrown", "I", false)
  | 1 => ("KeyCabinetModel", "keys", "I", false)
  | 2 => ("KeyCabinetModel", "codes", "[I", true)
  | 3 => ("KeyCabinetModel", "doors", "I", false)
  | 4 => ("KeyCabinetModel", "rights", "[I", true)
  | 5 => ("KeyCabinetModel", "work", "I", false)
  | 6 => ("KeyCabinetModel", "day", "I", false)
  | 7 => ("KeyCabinetModel", "copies", "I", false)
  | 8 => ("KeyCabinetModel", "copyKeys", "[I", true)
  | 9 => ("KeyCabinetModel", "states", "[I", true)
  | 10 => ("KeyCabinetModel", "dues", "[I", true)
  | 11 => ("KeyCabinetModel", "times", "[I", true)
  | 12 => ("KeyCabinetModel", "persons", "[I", true)
  | 13 => ("KeyCabinetModel", "begins", "[I", true)
  | _ => ("KeyCabinetModel", "ends", "[I", true)
def tyX3 : Nat → FieldType := fun k => match k with
  | 0 => .int
  | 1 => .int
  | 2 => .array .int
  | 3 => .int
  | 4 => .array .int
  | 5 => .int
  | 6 => .int
  | 7 => .int
  | 8 => .array .int
  | 9 => .array .int
  | 10 => .array .int
  | 11 => .array .int
  | 12 => .array .int
  | 13 => .array .int
  | _ => .array .int
abbrev wsX30 : List Cond := u_ws RX3 TX3 15
theorem nmX3 : ∀ a, a < 15 → ∀ b, b < 15 → a ≠ b → (TX3 a).2.1 ≠ (TX3 b).2.1 := by decide +kernel
theorem tyX3_ok : ∀ k, k < 15 → parseFieldDescriptor (TX3 k).2.2.1 = some (tyX3 k) := by decide +kernel
abbrev cX3_init : ByteArray := prog_5_method_1_code
def yX3_init : MethodName := ⟨RX3, "<init>", "()V"⟩
abbrev cX3_thrown : ByteArray := prog_5_method_2_code
def yX3_thrown : MethodName := ⟨RX3, "thrown", "()I"⟩
abbrev cX3_fail : ByteArray := prog_5_method_3_code
def yX3_fail : MethodName := ⟨RX3, "fail", "(I)I"⟩
abbrev cX3_isKey : ByteArray := prog_5_method_4_code
def yX3_isKey : MethodName := ⟨RX3, "isKey", "(I)Z"⟩
abbrev cX3_isDoor : ByteArray := prog_5_method_5_code
def yX3_isDoor : MethodName := ⟨RX3, "isDoor", "(I)Z"⟩
abbrev cX3_isCopy : ByteArray := prog_5_method_6_code
def yX3_isCopy : MethodName := ⟨RX3, "isCopy", "(I)Z"⟩
abbrev cX3_isPerson : ByteArray := prog_5_method_7_code
def yX3_isPerson : MethodName := ⟨RX3, "isPerson", "(I)Z"⟩
abbrev cX3_areKeys : ByteArray := prog_5_method_8_code
def yX3_areKeys : MethodName := ⟨RX3, "areKeys", "(I)Z"⟩
abbrev cX3_has : ByteArray := prog_5_method_9_code
def yX3_has : MethodName := ⟨RX3, "has", "(II)Z"⟩
abbrev cX3_digit : ByteArray := prog_5_method_10_code
def yX3_digit : MethodName := ⟨RX3, "digit", "(II)I"⟩
abbrev cX3_pinsOf : ByteArray := prog_5_method_11_code
def yX3_pinsOf : MethodName := ⟨RX3, "pinsOf", "(II)I"⟩
abbrev cX3_allPins : ByteArray := prog_5_method_12_code
def yX3_allPins : MethodName := ⟨RX3, "allPins", "(I)I"⟩
abbrev cX3_opensWith : ByteArray := prog_5_method_13_code
def yX3_opensWith : MethodName := ⟨RX3, "opensWith", "(II)Z"⟩
abbrev cX3_doorsOf : ByteArray := prog_5_method_14_code
def yX3_doorsOf : MethodName := ⟨RX3, "doorsOf", "(I)I"⟩
abbrev cX3_strayCount : ByteArray := prog_5_method_15_code
def yX3_strayCount : MethodName := ⟨RX3, "strayCount", "()I"⟩
abbrev cX3_addKey : ByteArray := prog_5_method_16_code
def yX3_addKey : MethodName := ⟨RX3, "addKey", "(I)I"⟩
abbrev cX3_addDoor : ByteArray := prog_5_method_17_code
def yX3_addDoor : MethodName := ⟨RX3, "addDoor", "(I)I"⟩
abbrev cX3_setRights : ByteArray := prog_5_method_18_code
def yX3_setRights : MethodName := ⟨RX3, "setRights", "(II)I"⟩
abbrev cX3_keyCount : ByteArray := prog_5_method_19_code
def yX3_keyCount : MethodName := ⟨RX3, "keyCount", "()I"⟩
abbrev cX3_doorCount : ByteArray := prog_5_method_20_code
def yX3_doorCount : MethodName := ⟨RX3, "doorCount", "()I"⟩
abbrev cX3_code : ByteArray := prog_5_method_21_code
def yX3_code : MethodName := ⟨RX3, "code", "(I)I"⟩
abbrev cX3_pins : ByteArray := prog_5_method_22_code
def yX3_pins : MethodName := ⟨RX3, "pins", "(II)I"⟩
abbrev cX3_opens : ByteArray := prog_5_method_23_code
def yX3_opens : MethodName := ⟨RX3, "opens", "(II)Z"⟩
abbrev cX3_openers : ByteArray := prog_5_method_24_code
def yX3_openers : MethodName := ⟨RX3, "openers", "(I)I"⟩
abbrev cX3_doors : ByteArray := prog_5_method_25_code
def yX3_doors : MethodName := ⟨RX3, "doors", "(I)I"⟩
abbrev cX3_strays : ByteArray := prog_5_method_26_code
def yX3_strays : MethodName := ⟨RX3, "strays", "()I"⟩
abbrev cX3_codes : ByteArray := prog_5_method_27_code
def yX3_codes : MethodName := ⟨RX3, "codes", "(I)I"⟩
abbrev cX3_isAbove : ByteArray := prog_5_method_28_code
def yX3_isAbove : MethodName := ⟨RX3, "isAbove", "(II)Z"⟩
abbrev cX3_work : ByteArray := prog_5_method_29_code
def yX3_work : MethodName := ⟨RX3, "work", "()I"⟩
abbrev cX3_replace : ByteArray := prog_5_method_30_code
def yX3_replace : MethodName := ⟨RX3, "replace", "(I)I"⟩
abbrev cX3_stop : ByteArray := prog_5_method_31_code
def yX3_stop : MethodName := ⟨RX3, "stop", "(I)V"⟩
abbrev cX3_cut : ByteArray := prog_5_method_32_code
def yX3_cut : MethodName := ⟨RX3, "cut", "(I)I"⟩
abbrev cX3_lend : ByteArray := prog_5_method_33_code
def yX3_lend : MethodName := ⟨RX3, "lend", "(III)I"⟩
abbrev cX3_giveBack : ByteArray := prog_5_method_34_code
def yX3_giveBack : MethodName := ⟨RX3, "giveBack", "(I)I"⟩
abbrev cX3_riskyDoors : ByteArray := prog_5_method_35_code
def yX3_riskyDoors : MethodName := ⟨RX3, "riskyDoors", "()I"⟩
abbrev cX3_lose : ByteArray := prog_5_method_36_code
def yX3_lose : MethodName := ⟨RX3, "lose", "(I)I"⟩
abbrev cX3_find : ByteArray := prog_5_method_37_code
def yX3_find : MethodName := ⟨RX3, "find", "(I)I"⟩
abbrev cX3_pass : ByteArray := prog_5_method_38_code
def yX3_pass : MethodName := ⟨RX3, "pass", "(I)I"⟩
abbrev cX3_today : ByteArray := prog_5_method_39_code
def yX3_today : MethodName := ⟨RX3, "today", "()I"⟩
abbrev cX3_copyCount : ByteArray := prog_5_method_40_code
def yX3_copyCount : MethodName := ⟨RX3, "copyCount", "()I"⟩
abbrev cX3_told : ByteArray := prog_5_method_41_code
def yX3_told : MethodName := ⟨RX3, "told", "(II)I"⟩
abbrev cX3_copy : ByteArray := prog_5_method_42_code
def yX3_copy : MethodName := ⟨RX3, "copy", "(II)I"⟩
abbrev cX3_overdue : ByteArray := prog_5_method_43_code
def yX3_overdue : MethodName := ⟨RX3, "overdue", "()I"⟩
abbrev cX3_holderAt : ByteArray := prog_5_method_44_code
def yX3_holderAt : MethodName := ⟨RX3, "holderAt", "(II)I"⟩
abbrev cX3_reachOf : ByteArray := prog_5_method_45_code
def yX3_reachOf : MethodName := ⟨RX3, "reachOf", "(I)I"⟩
abbrev cX3_reach : ByteArray := prog_5_method_46_code
def yX3_reach : MethodName := ⟨RX3, "reach", "(I)I"⟩
abbrev cX3_risk : ByteArray := prog_5_method_47_code
def yX3_risk : MethodName := ⟨RX3, "risk", "()I"⟩
abbrev cX3_suggest : ByteArray := prog_5_method_48_code
def yX3_suggest : MethodName := ⟨RX3, "suggest", "(II)I"⟩
abbrev cX3_exposure : ByteArray := prog_5_method_49_code
def yX3_exposure : MethodName := ⟨RX3, "exposure", "()D"⟩
abbrev cX3_digest : ByteArray := prog_5_method_50_code
def yX3_digest : MethodName := ⟨RX3, "digest", "()J"⟩
def RJ6 : String := "java/lang/Integer"
def TJ6 : u_T := fun k => match k with
  | _ => ("", "", "", false)
def tyJ6 : Nat → FieldType := fun k => match k with
  | _ => .int
abbrev wsJ60 : List Cond := u_ws RJ6 TJ6 0
theorem nmJ6 : ∀ a, a < 0 → ∀ b, b < 0 → a ≠ b → (TJ6 a).2.1 ≠ (TJ6 b).2.1 := by decide +kernel
theorem tyJ6_ok : ∀ k, k < 0 → parseFieldDescriptor (TJ6 k).2.2.1 = some (tyJ6 k) := by decide +kernel
abbrev cJ6_bitCount_0f7a4 : ByteArray := prog_10_method_49_code
def yJ6_bitCount_0f7a4 : MethodName := ⟨RJ6, "bitCount", "(I)I"⟩
def RJ9 : String := "java/lang/Math"
def TJ9 : u_T := fun k => match k with
  | _ => ("", "", "", false)
def tyJ9 : Nat → FieldType := fun k => match k with
  | _ => .int
abbrev wsJ90 : List Cond := u_ws RJ9 TJ9 0
theorem nmJ9 : ∀ a, a < 0 → ∀ b, b < 0 → a ≠ b → (TJ9 a).2.1 ≠ (TJ9 b).2.1 := by decide +kernel
theorem tyJ9_ok : ∀ k, k < 0 → parseFieldDescriptor (TJ9 k).2.2.1 = some (tyJ9 k) := by decide +kernel
abbrev cJ9_max_7cf53 : ByteArray := prog_11_method_65_code
def yJ9_max_7cf53 : MethodName := ⟨RJ9, "max", "(II)I"⟩
def RJ0 : String := "java/lang/String"
def TJ0 : u_T := fun k => match k with
  | _ => ("", "", "", false)
def tyJ0 : Nat → FieldType := fun k => match k with
  | _ => .int
abbrev wsJ00 : List Cond := u_ws RJ0 TJ0 0
theorem nmJ0 : ∀ a, a < 0 → ∀ b, b < 0 → a ≠ b → (TJ0 a).2.1 ≠ (TJ0 b).2.1 := by decide +kernel
theorem tyJ0_ok : ∀ k, k < 0 → parseFieldDescriptor (TJ0 k).2.2.1 = some (tyJ0 k) := by decide +kernel
def RL : String := "KeyCabinetLaw"
abbrev cL_addKey : ByteArray := method_3_code
def yL_addKey : MethodName := ⟨RL, "addKey", "(LKeyCabinet;I[J)I"⟩
abbrev cL_addDoor : ByteArray := method_4_code
def yL_addDoor : MethodName := ⟨RL, "addDoor", "(LKeyCabinet;I[J)I"⟩
abbrev cL_setRights : ByteArray := method_5_code
def yL_setRights : MethodName := ⟨RL, "setRights", "(LKeyCabinet;II[J)I"⟩
abbrev cL_code : ByteArray := method_6_code
def yL_code : MethodName := ⟨RL, "code", "(LKeyCabinet;I[J)I"⟩
abbrev cL_pins : ByteArray := method_7_code
def yL_pins : MethodName := ⟨RL, "pins", "(LKeyCabinet;II[J)I"⟩
abbrev cL_opens : ByteArray := method_8_code
def yL_opens : MethodName := ⟨RL, "opens", "(LKeyCabinet;II[J)I"⟩
abbrev cL_openers : ByteArray := method_9_code
def yL_openers : MethodName := ⟨RL, "openers", "(LKeyCabinet;I[J)I"⟩
abbrev cL_doors : ByteArray := method_10_code
def yL_doors : MethodName := ⟨RL, "doors", "(LKeyCabinet;I[J)I"⟩
abbrev cL_codes : ByteArray := method_11_code
def yL_codes : MethodName := ⟨RL, "codes", "(LKeyCabinet;I[J)I"⟩
abbrev cL_isAbove : ByteArray := method_12_code
def yL_isAbove : MethodName := ⟨RL, "isAbove", "(LKeyCabinet;II[J)I"⟩
abbrev cL_replace : ByteArray := method_13_code
def yL_replace : MethodName := ⟨RL, "replace", "(LKeyCabinet;I[J)I"⟩
abbrev cL_cut : ByteArray := method_14_code
def yL_cut : MethodName := ⟨RL, "cut", "(LKeyCabinet;I[J)I"⟩
abbrev cL_lend : ByteArray := method_15_code
def yL_lend : MethodName := ⟨RL, "lend", "(LKeyCabinet;III[J)I"⟩
abbrev cL_giveBack : ByteArray := method_16_code
def yL_giveBack : MethodName := ⟨RL, "giveBack", "(LKeyCabinet;I[J)I"⟩
abbrev cL_lose : ByteArray := method_17_code
def yL_lose : MethodName := ⟨RL, "lose", "(LKeyCabinet;I[J)I"⟩
abbrev cL_find : ByteArray := method_18_code
def yL_find : MethodName := ⟨RL, "find", "(LKeyCabinet;I[J)I"⟩
abbrev cL_pass : ByteArray := method_19_code
def yL_pass : MethodName := ⟨RL, "pass", "(LKeyCabinet;I[J)I"⟩
abbrev cL_copy : ByteArray := method_20_code
def yL_copy : MethodName := ⟨RL, "copy", "(LKeyCabinet;II[J)I"⟩
abbrev cL_holderAt : ByteArray := method_21_code
def yL_holderAt : MethodName := ⟨RL, "holderAt", "(LKeyCabinet;II[J)I"⟩
abbrev cL_reach : ByteArray := method_22_code
def yL_reach : MethodName := ⟨RL, "reach", "(LKeyCabinet;I[J)I"⟩
abbrev cL_suggest : ByteArray := method_23_code
def yL_suggest : MethodName := ⟨RL, "suggest", "(LKeyCabinet;II[J)I"⟩
abbrev cL_law : ByteArray := code
def yL_law : MethodName := ⟨RL, "law", "([I)Z"⟩
end
section
def wsX0_init : List Cond := .code yX0_init cX0_init 1 none :: ([.methodLink RX0 3 objectInit, .instanceMethod objectInit, .code objectInit ⟨#[0xb1]⟩ 1 none, .arrayClass .int, .fieldLink RX0 11 "KeyCabinet$Ledger" "keyOf" "[I", .fieldLink RX0 15 "KeyCabinet$Ledger" "stateOf" "[I", .fieldLink RX0 18 "KeyCabinet$Ledger" "timesLent" "[I", .fieldLink RX0 21 "KeyCabinet$Ledger" "loanPerson" "[I", .fieldLink RX0 24 "KeyCabinet$Ledger" "loanStart" "[I", .fieldLink RX0 27 "KeyCabinet$Ledger" "loanDue" "[I", .fieldLink RX0 30 "KeyCabinet$Ledger" "loanEnd" "[I", .fieldLink RX0 33 "KeyCabinet$Ledger" "copies" "I"] ++ wsX00)
def wsX0_takeCopy : List Cond := .code yX0_takeCopy cX0_takeCopy 3 (some .int) :: ([.fieldLink RX0 33 "KeyCabinet$Ledger" "copies" "I", .fieldLink RX0 11 "KeyCabinet$Ledger" "keyOf" "[I", .fieldLink RX0 15 "KeyCabinet$Ledger" "stateOf" "[I"] ++ wsX00)
def wsX0_canBeLent : List Cond := .code yX0_canBeLent cX0_canBeLent 2 (some .boolean) :: ([.fieldLink RX0 15 "KeyCabinet$Ledger" "stateOf" "[I", .fieldLink RX0 18 "KeyCabinet$Ledger" "timesLent" "[I"] ++ wsX00)
def wsX0_lastLoan : List Cond := .code yX0_lastLoan cX0_lastLoan 2 (some .int) :: ([.fieldLink RX0 18 "KeyCabinet$Ledger" "timesLent" "[I"] ++ wsX00)
def wsX0_startLoan : List Cond := .code yX0_startLoan cX0_startLoan 6 none :: ([.fieldLink RX0 18 "KeyCabinet$Ledger" "timesLent" "[I", .fieldLink RX0 15 "KeyCabinet$Ledger" "stateOf" "[I", .fieldLink RX0 21 "KeyCabinet$Ledger" "loanPerson" "[I", .fieldLink RX0 24 "KeyCabinet$Ledger" "loanStart" "[I", .fieldLink RX0 27 "KeyCabinet$Ledger" "loanDue" "[I", .fieldLink RX0 30 "KeyCabinet$Ledger" "loanEnd" "[I", .methodLink RX0 37 yX0_lastLoan, .instanceMethod yX0_lastLoan, .selects RX0 yX0_lastLoan yX0_lastLoan, .initialized RX0, .code yX0_lastLoan cX0_lastLoan 2 (some .int)] ++ wsX00)
def wsX0_move : List Cond := .code yX0_move cX0_move 4 none :: ([.fieldLink RX0 15 "KeyCabinet$Ledger" "stateOf" "[I", .fieldLink RX0 30 "KeyCabinet$Ledger" "loanEnd" "[I", .methodLink RX0 37 yX0_lastLoan, .instanceMethod yX0_lastLoan, .selects RX0 yX0_lastLoan yX0_lastLoan, .initialized RX0, .code yX0_lastLoan cX0_lastLoan 2 (some .int), .fieldLink RX0 18 "KeyCabinet$Ledger" "timesLent" "[I"] ++ wsX00)
def wsX0_voidCopiesOf : List Cond := .code yX0_voidCopiesOf cX0_voidCopiesOf 4 none :: ([.fieldLink RX0 33 "KeyCabinet$Ledger" "copies" "I", .fieldLink RX0 11 "KeyCabinet$Ledger" "keyOf" "[I", .methodLink RX0 41 yX0_move, .instanceMethod yX0_move, .selects RX0 yX0_move yX0_move, .initialized RX0, .code yX0_move cX0_move 4 none, .fieldLink RX0 15 "KeyCabinet$Ledger" "stateOf" "[I", .fieldLink RX0 30 "KeyCabinet$Ledger" "loanEnd" "[I", .methodLink RX0 37 yX0_lastLoan, .instanceMethod yX0_lastLoan, .selects RX0 yX0_lastLoan yX0_lastLoan, .code yX0_lastLoan cX0_lastLoan 2 (some .int), .fieldLink RX0 18 "KeyCabinet$Ledger" "timesLent" "[I"] ++ wsX00)
def wsX0_holderOf : List Cond := .code yX0_holderOf cX0_holderOf 2 (some .int) :: ([.fieldLink RX0 15 "KeyCabinet$Ledger" "stateOf" "[I", .fieldLink RX0 21 "KeyCabinet$Ledger" "loanPerson" "[I", .methodLink RX0 37 yX0_lastLoan, .instanceMethod yX0_lastLoan, .selects RX0 yX0_lastLoan yX0_lastLoan, .initialized RX0, .code yX0_lastLoan cX0_lastLoan 2 (some .int), .fieldLink RX0 18 "KeyCabinet$Ledger" "timesLent" "[I"] ++ wsX00)
def wsX0_dueOf : List Cond := .code yX0_dueOf cX0_dueOf 2 (some .int) :: ([.fieldLink RX0 15 "KeyCabinet$Ledger" "stateOf" "[I", .fieldLink RX0 27 "KeyCabinet$Ledger" "loanDue" "[I", .methodLink RX0 37 yX0_lastLoan, .instanceMethod yX0_lastLoan, .selects RX0 yX0_lastLoan yX0_lastLoan, .initialized RX0, .code yX0_lastLoan cX0_lastLoan 2 (some .int), .fieldLink RX0 18 "KeyCabinet$Ledger" "timesLent" "[I"] ++ wsX00)
def wsX0_holderOn : List Cond := .code yX0_holderOn cX0_holderOn 5 (some .int) :: ([.fieldLink RX0 18 "KeyCabinet$Ledger" "timesLent" "[I", .fieldLink RX0 24 "KeyCabinet$Ledger" "loanStart" "[I", .fieldLink RX0 30 "KeyCabinet$Ledger" "loanEnd" "[I", .fieldLink RX0 21 "KeyCabinet$Ledger" "loanPerson" "[I"] ++ wsX00)
def wsX0_copiesDueBefore : List Cond := .code yX0_copiesDueBefore cX0_copiesDueBefore 4 (some .int) :: ([.fieldLink RX0 33 "KeyCabinet$Ledger" "copies" "I", .fieldLink RX0 15 "KeyCabinet$Ledger" "stateOf" "[I", .methodLink RX0 45 yX0_dueOf, .instanceMethod yX0_dueOf, .selects RX0 yX0_dueOf yX0_dueOf, .initialized RX0, .code yX0_dueOf cX0_dueOf 2 (some .int), .fieldLink RX0 27 "KeyCabinet$Ledger" "loanDue" "[I", .methodLink RX0 37 yX0_lastLoan, .instanceMethod yX0_lastLoan, .selects RX0 yX0_lastLoan yX0_lastLoan, .code yX0_lastLoan cX0_lastLoan 2 (some .int), .fieldLink RX0 18 "KeyCabinet$Ledger" "timesLent" "[I"] ++ wsX00)
def wsX0_keysHeldBy : List Cond := .code yX0_keysHeldBy cX0_keysHeldBy 4 (some .int) :: ([.fieldLink RX0 33 "KeyCabinet$Ledger" "copies" "I", .fieldLink RX0 11 "KeyCabinet$Ledger" "keyOf" "[I", .methodLink RX0 48 yX0_holderOf, .instanceMethod yX0_holderOf, .selects RX0 yX0_holderOf yX0_holderOf, .initialized RX0, .code yX0_holderOf cX0_holderOf 2 (some .int), .fieldLink RX0 15 "KeyCabinet$Ledger" "stateOf" "[I", .fieldLink RX0 21 "KeyCabinet$Ledger" "loanPerson" "[I", .methodLink RX0 37 yX0_lastLoan, .instanceMethod yX0_lastLoan, .selects RX0 yX0_lastLoan yX0_lastLoan, .code yX0_lastLoan cX0_lastLoan 2 (some .int), .fieldLink RX0 18 "KeyCabinet$Ledger" "timesLent" "[I"] ++ wsX00)
def wsX0_keysLost : List Cond := .code yX0_keysLost cX0_keysLost 3 (some .int) :: ([.fieldLink RX0 33 "KeyCabinet$Ledger" "copies" "I", .fieldLink RX0 15 "KeyCabinet$Ledger" "stateOf" "[I", .fieldLink RX0 11 "KeyCabinet$Ledger" "keyOf" "[I"] ++ wsX00)
def wsX0_firstToLend : List Cond := .code yX0_firstToLend cX0_firstToLend 3 (some .int) :: ([.fieldLink RX0 33 "KeyCabinet$Ledger" "copies" "I", .fieldLink RX0 11 "KeyCabinet$Ledger" "keyOf" "[I", .methodLink RX0 51 yX0_canBeLent, .instanceMethod yX0_canBeLent, .selects RX0 yX0_canBeLent yX0_canBeLent, .initialized RX0, .code yX0_canBeLent cX0_canBeLent 2 (some .boolean), .fieldLink RX0 15 "KeyCabinet$Ledger" "stateOf" "[I", .fieldLink RX0 18 "KeyCabinet$Ledger" "timesLent" "[I"] ++ wsX00)
def wsX1_init : List Cond := .code yX1_init cX1_init 1 none :: ([.methodLink RX1 3 objectInit, .instanceMethod objectInit, .code objectInit ⟨#[0xb1]⟩ 1 none, .arrayClass .int, .fieldLink RX1 11 "KeyCabinet$Plan" "codeOf" "[I", .fieldLink RX1 15 "KeyCabinet$Plan" "teethOf" "[I", .fieldLink RX1 18 "KeyCabinet$Plan" "rightsOf" "[I", .fieldLink RX1 21 "KeyCabinet$Plan" "pinsOf" "[I", .fieldLink RX1 24 "KeyCabinet$Plan" "pinsWithout" "[I", .fieldLink RX1 27 "KeyCabinet$Plan" "keys" "I", .fieldLink RX1 31 "KeyCabinet$Plan" "doors" "I", .fieldLink RX1 34 "KeyCabinet$Plan" "pinsMoved" "I"] ++ wsX10)
def wsX1_isTaken : List Cond := .code yX1_isTaken cX1_isTaken 3 (some .boolean) :: ([.fieldLink RX1 27 "KeyCabinet$Plan" "keys" "I", .fieldLink RX1 11 "KeyCabinet$Plan" "codeOf" "[I"] ++ wsX10)
def wsX1_teeth : List Cond := .code yX1_teeth cX1_teeth 4 (some .int) :: ([])
def wsX1_takeKey : List Cond := .code yX1_takeKey cX1_takeKey 3 (some .int) :: ([.fieldLink RX1 27 "KeyCabinet$Plan" "keys" "I", .fieldLink RX1 11 "KeyCabinet$Plan" "codeOf" "[I", .fieldLink RX1 15 "KeyCabinet$Plan" "teethOf" "[I", .methodLink RX1 37 yX1_teeth, .static yX1_teeth, .initialized RX1, .code yX1_teeth cX1_teeth 4 (some .int)] ++ wsX10)
def wsX1_pinsFor : List Cond := .code yX1_pinsFor cX1_pinsFor 4 (some .int) :: ([.fieldLink RX1 27 "KeyCabinet$Plan" "keys" "I", .fieldLink RX1 15 "KeyCabinet$Plan" "teethOf" "[I"] ++ wsX10)
def wsJ6_bitCount_0f7a4 : List Cond := .code yJ6_bitCount_0f7a4 cJ6_bitCount_0f7a4 1 (some .int) :: ([.constant RJ6 265 (1431655765), .constant RJ6 266 (858993459), .constant RJ6 267 (252645135)])
def wsX1_changePins : List Cond := .code yX1_changePins cX1_changePins 3 none :: ([.fieldLink RX1 21 "KeyCabinet$Plan" "pinsOf" "[I", .fieldLink RX1 18 "KeyCabinet$Plan" "rightsOf" "[I", .fieldLink RX1 34 "KeyCabinet$Plan" "pinsMoved" "I", .methodLink RX1 49 yX1_pinsFor, .instanceMethod yX1_pinsFor, .selects RX1 yX1_pinsFor yX1_pinsFor, .initialized RX1, .code yX1_pinsFor cX1_pinsFor 4 (some .int), .fieldLink RX1 27 "KeyCabinet$Plan" "keys" "I", .fieldLink RX1 15 "KeyCabinet$Plan" "teethOf" "[I", .methodLink RX1 52 yJ6_bitCount_0f7a4, .static yJ6_bitCount_0f7a4, .initialized RJ6, .code yJ6_bitCount_0f7a4 cJ6_bitCount_0f7a4 1 (some .int), .constant RJ6 265 (1431655765), .constant RJ6 266 (858993459), .constant RJ6 267 (252645135)] ++ wsX10)
def wsX1_giveRights : List Cond := .code yX1_giveRights cX1_giveRights 3 none :: ([.fieldLink RX1 18 "KeyCabinet$Plan" "rightsOf" "[I", .methodLink RX1 45 yX1_changePins, .instanceMethod yX1_changePins, .selects RX1 yX1_changePins yX1_changePins, .initialized RX1, .code yX1_changePins cX1_changePins 3 none, .fieldLink RX1 21 "KeyCabinet$Plan" "pinsOf" "[I", .fieldLink RX1 34 "KeyCabinet$Plan" "pinsMoved" "I", .methodLink RX1 49 yX1_pinsFor, .instanceMethod yX1_pinsFor, .selects RX1 yX1_pinsFor yX1_pinsFor, .code yX1_pinsFor cX1_pinsFor 4 (some .int), .fieldLink RX1 27 "KeyCabinet$Plan" "keys" "I", .fieldLink RX1 15 "KeyCabinet$Plan" "teethOf" "[I", .methodLink RX1 52 yJ6_bitCount_0f7a4, .static yJ6_bitCount_0f7a4, .initialized RJ6, .code yJ6_bitCount_0f7a4 cJ6_bitCount_0f7a4 1 (some .int), .constant RJ6 265 (1431655765), .constant RJ6 266 (858993459), .constant RJ6 267 (252645135)] ++ wsX10)
def wsX1_takeDoor_r1 : List Cond := [Cond.fieldLink RX1 31 "KeyCabinet$Plan" "doors" "I", Cond.methodLink RX1 41 yX1_giveRights, Cond.instanceMethod yX1_giveRights, Cond.selects RX1 yX1_giveRights yX1_giveRights, Cond.initialized RX1, Cond.code yX1_giveRights cX1_giveRights 3 none, Cond.fieldLink RX1 18 "KeyCabinet$Plan" "rightsOf" "[I", Cond.methodLink RX1 45 yX1_changePins, Cond.instanceMethod yX1_changePins, Cond.selects RX1 yX1_changePins yX1_changePins, Cond.code yX1_changePins cX1_changePins 3 none, Cond.fieldLink RX1 21 "KeyCabinet$Plan" "pinsOf" "[I", Cond.fieldLink RX1 34 "KeyCabinet$Plan" "pinsMoved" "I", Cond.methodLink RX1 49 yX1_pinsFor, Cond.instanceMethod yX1_pinsFor, Cond.selects RX1 yX1_pinsFor yX1_pinsFor, Cond.code yX1_pinsFor cX1_pinsFor 4 (some .int), Cond.fieldLink RX1 27 "KeyCabinet$Plan" "keys" "I", Cond.fieldLink RX1 15 "KeyCabinet$Plan" "teethOf" "[I", Cond.methodLink RX1 52 yJ6_bitCount_0f7a4, Cond.static yJ6_bitCount_0f7a4, Cond.initialized RJ6, Cond.code yJ6_bitCount_0f7a4 cJ6_bitCount_0f7a4 1 (some .int), Cond.constant RJ6 265 (1431655765)]
def wsX1_takeDoor_r2 : List Cond := [Cond.constant RJ6 266 (858993459), Cond.constant RJ6 267 (252645135)]
def wsX1_takeDoor : List Cond := .code yX1_takeDoor cX1_takeDoor 3 (some .int) :: ((wsX1_takeDoor_r1 ++ wsX1_takeDoor_r2) ++ wsX10)
def wsX1_giveCode_r1 : List Cond := [Cond.fieldLink RX1 11 "KeyCabinet$Plan" "codeOf" "[I", Cond.fieldLink RX1 15 "KeyCabinet$Plan" "teethOf" "[I", Cond.fieldLink RX1 31 "KeyCabinet$Plan" "doors" "I", Cond.methodLink RX1 37 yX1_teeth, Cond.static yX1_teeth, Cond.initialized RX1, Cond.code yX1_teeth cX1_teeth 4 (some .int), Cond.methodLink RX1 45 yX1_changePins, Cond.instanceMethod yX1_changePins, Cond.selects RX1 yX1_changePins yX1_changePins, Cond.code yX1_changePins cX1_changePins 3 none, Cond.fieldLink RX1 21 "KeyCabinet$Plan" "pinsOf" "[I", Cond.fieldLink RX1 18 "KeyCabinet$Plan" "rightsOf" "[I", Cond.fieldLink RX1 34 "KeyCabinet$Plan" "pinsMoved" "I", Cond.methodLink RX1 49 yX1_pinsFor, Cond.instanceMethod yX1_pinsFor, Cond.selects RX1 yX1_pinsFor yX1_pinsFor, Cond.code yX1_pinsFor cX1_pinsFor 4 (some .int), Cond.fieldLink RX1 27 "KeyCabinet$Plan" "keys" "I", Cond.methodLink RX1 52 yJ6_bitCount_0f7a4, Cond.static yJ6_bitCount_0f7a4, Cond.initialized RJ6, Cond.code yJ6_bitCount_0f7a4 cJ6_bitCount_0f7a4 1 (some .int), Cond.constant RJ6 265 (1431655765)]
def wsX1_giveCode_r2 : List Cond := [Cond.constant RJ6 266 (858993459), Cond.constant RJ6 267 (252645135)]
def wsX1_giveCode : List Cond := .code yX1_giveCode cX1_giveCode 4 none :: ((wsX1_giveCode_r1 ++ wsX1_giveCode_r2) ++ wsX10)
def wsX1_pinsAt : List Cond := .code yX1_pinsAt cX1_pinsAt 3 (some .int) :: ([.fieldLink RX1 21 "KeyCabinet$Plan" "pinsOf" "[I"] ++ wsX10)
def wsX2_contains : List Cond := .code yX2_contains cX2_contains 2 (some .boolean) :: ([])
def wsX1_keyOpens : List Cond := .code yX1_keyOpens cX1_keyOpens 3 (some .boolean) :: ([.fieldLink RX1 21 "KeyCabinet$Plan" "pinsOf" "[I", .fieldLink RX1 15 "KeyCabinet$Plan" "teethOf" "[I", .static yX2_contains, .initialized RX2, .code yX2_contains cX2_contains 2 (some .boolean)] ++ wsX10)
def wsX1_openersOf : List Cond := .code yX1_openersOf cX1_openersOf 4 (some .int) :: ([.fieldLink RX1 27 "KeyCabinet$Plan" "keys" "I", .methodLink RX1 61 yX1_keyOpens, .instanceMethod yX1_keyOpens, .selects RX1 yX1_keyOpens yX1_keyOpens, .initialized RX1, .code yX1_keyOpens cX1_keyOpens 3 (some .boolean), .fieldLink RX1 21 "KeyCabinet$Plan" "pinsOf" "[I", .fieldLink RX1 15 "KeyCabinet$Plan" "teethOf" "[I", .static yX2_contains, .initialized RX2, .code yX2_contains cX2_contains 2 (some .boolean)] ++ wsX10)
def wsX1_doorsOf : List Cond := .code yX1_doorsOf cX1_doorsOf 4 (some .int) :: ([.fieldLink RX1 31 "KeyCabinet$Plan" "doors" "I", .methodLink RX1 61 yX1_keyOpens, .instanceMethod yX1_keyOpens, .selects RX1 yX1_keyOpens yX1_keyOpens, .initialized RX1, .code yX1_keyOpens cX1_keyOpens 3 (some .boolean), .fieldLink RX1 21 "KeyCabinet$Plan" "pinsOf" "[I", .fieldLink RX1 15 "KeyCabinet$Plan" "teethOf" "[I", .static yX2_contains, .initialized RX2, .code yX2_contains cX2_contains 2 (some .boolean)] ++ wsX10)
def wsX1_doorsOfAll : List Cond := .code yX1_doorsOfAll cX1_doorsOfAll 4 (some .int) :: ([.fieldLink RX1 27 "KeyCabinet$Plan" "keys" "I", .methodLink RX1 64 yX1_doorsOf, .instanceMethod yX1_doorsOf, .selects RX1 yX1_doorsOf yX1_doorsOf, .initialized RX1, .code yX1_doorsOf cX1_doorsOf 4 (some .int), .fieldLink RX1 31 "KeyCabinet$Plan" "doors" "I", .methodLink RX1 61 yX1_keyOpens, .instanceMethod yX1_keyOpens, .selects RX1 yX1_keyOpens yX1_keyOpens, .code yX1_keyOpens cX1_keyOpens 3 (some .boolean), .fieldLink RX1 21 "KeyCabinet$Plan" "pinsOf" "[I", .fieldLink RX1 15 "KeyCabinet$Plan" "teethOf" "[I", .static yX2_contains, .initialized RX2, .code yX2_contains cX2_contains 2 (some .boolean)] ++ wsX10)
def wsX1_countStrays : List Cond := .code yX1_countStrays cX1_countStrays 3 (some .int) :: ([.fieldLink RX1 31 "KeyCabinet$Plan" "doors" "I", .fieldLink RX1 18 "KeyCabinet$Plan" "rightsOf" "[I", .methodLink RX1 67 yX1_openersOf, .instanceMethod yX1_openersOf, .selects RX1 yX1_openersOf yX1_openersOf, .initialized RX1, .code yX1_openersOf cX1_openersOf 4 (some .int), .fieldLink RX1 27 "KeyCabinet$Plan" "keys" "I", .methodLink RX1 61 yX1_keyOpens, .instanceMethod yX1_keyOpens, .selects RX1 yX1_keyOpens yX1_keyOpens, .code yX1_keyOpens cX1_keyOpens 3 (some .boolean), .fieldLink RX1 21 "KeyCabinet$Plan" "pinsOf" "[I", .fieldLink RX1 15 "KeyCabinet$Plan" "teethOf" "[I", .static yX2_contains, .initialized RX2, .code yX2_contains cX2_contains 2 (some .boolean), .methodLink RX1 52 yJ6_bitCount_0f7a4, .static yJ6_bitCount_0f7a4, .initialized RJ6, .code yJ6_bitCount_0f7a4 cJ6_bitCount_0f7a4 1 (some .int), .constant RJ6 265 (1431655765), .constant RJ6 266 (858993459), .constant RJ6 267 (252645135)] ++ wsX10)
def wsX1_countCodes : List Cond := .code yX1_countCodes cX1_countCodes 4 (some .int) :: ([.methodLink RX1 70 yX1_pinsAt, .instanceMethod yX1_pinsAt, .selects RX1 yX1_pinsAt yX1_pinsAt, .initialized RX1, .code yX1_pinsAt cX1_pinsAt 3 (some .int), .fieldLink RX1 21 "KeyCabinet$Plan" "pinsOf" "[I", .methodLink RX1 52 yJ6_bitCount_0f7a4, .static yJ6_bitCount_0f7a4, .initialized RJ6, .code yJ6_bitCount_0f7a4 cJ6_bitCount_0f7a4 1 (some .int), .constant RJ6 265 (1431655765), .constant RJ6 266 (858993459), .constant RJ6 267 (252645135)] ++ wsX10)
def wsX1_pinsWith : List Cond := .code yX1_pinsWith cX1_pinsWith 5 (some .int) :: ([.fieldLink RX1 18 "KeyCabinet$Plan" "rightsOf" "[I", .fieldLink RX1 24 "KeyCabinet$Plan" "pinsWithout" "[I"] ++ wsX10)
def wsX1_oldCodeOpens : List Cond := .code yX1_oldCodeOpens cX1_oldCodeOpens 4 (some .boolean) :: ([.fieldLink RX1 31 "KeyCabinet$Plan" "doors" "I", .fieldLink RX1 15 "KeyCabinet$Plan" "teethOf" "[I", .methodLink RX1 88 yX1_pinsWith, .instanceMethod yX1_pinsWith, .selects RX1 yX1_pinsWith yX1_pinsWith, .initialized RX1, .code yX1_pinsWith cX1_pinsWith 5 (some .int), .fieldLink RX1 18 "KeyCabinet$Plan" "rightsOf" "[I", .fieldLink RX1 24 "KeyCabinet$Plan" "pinsWithout" "[I", .static yX2_contains, .initialized RX2, .code yX2_contains cX2_contains 2 (some .boolean)] ++ wsX10)
def wsX1_straysWith : List Cond := .code yX1_straysWith cX1_straysWith 9 (some .int) :: ([.fieldLink RX1 31 "KeyCabinet$Plan" "doors" "I", .fieldLink RX1 27 "KeyCabinet$Plan" "keys" "I", .fieldLink RX1 18 "KeyCabinet$Plan" "rightsOf" "[I", .fieldLink RX1 15 "KeyCabinet$Plan" "teethOf" "[I", .methodLink RX1 88 yX1_pinsWith, .instanceMethod yX1_pinsWith, .selects RX1 yX1_pinsWith yX1_pinsWith, .initialized RX1, .code yX1_pinsWith cX1_pinsWith 5 (some .int), .fieldLink RX1 24 "KeyCabinet$Plan" "pinsWithout" "[I", .static yX2_contains, .initialized RX2, .code yX2_contains cX2_contains 2 (some .boolean)] ++ wsX10)
def wsX1_workWith : List Cond := .code yX1_workWith cX1_workWith 5 (some .int) :: ([.fieldLink RX1 31 "KeyCabinet$Plan" "doors" "I", .fieldLink RX1 21 "KeyCabinet$Plan" "pinsOf" "[I", .methodLink RX1 88 yX1_pinsWith, .instanceMethod yX1_pinsWith, .selects RX1 yX1_pinsWith yX1_pinsWith, .initialized RX1, .code yX1_pinsWith cX1_pinsWith 5 (some .int), .fieldLink RX1 18 "KeyCabinet$Plan" "rightsOf" "[I", .fieldLink RX1 24 "KeyCabinet$Plan" "pinsWithout" "[I", .methodLink RX1 52 yJ6_bitCount_0f7a4, .static yJ6_bitCount_0f7a4, .initialized RJ6, .code yJ6_bitCount_0f7a4 cJ6_bitCount_0f7a4 1 (some .int), .constant RJ6 265 (1431655765), .constant RJ6 266 (858993459), .constant RJ6 267 (252645135)] ++ wsX10)
def wsX1_bestCodeFor_r1 : List Cond := [Cond.fieldLink RX1 31 "KeyCabinet$Plan" "doors" "I", Cond.fieldLink RX1 24 "KeyCabinet$Plan" "pinsWithout" "[I", Cond.fieldLink RX1 18 "KeyCabinet$Plan" "rightsOf" "[I", Cond.methodLink RX1 49 yX1_pinsFor, Cond.instanceMethod yX1_pinsFor, Cond.selects RX1 yX1_pinsFor yX1_pinsFor, Cond.initialized RX1, Cond.code yX1_pinsFor cX1_pinsFor 4 (some .int), Cond.fieldLink RX1 27 "KeyCabinet$Plan" "keys" "I", Cond.fieldLink RX1 15 "KeyCabinet$Plan" "teethOf" "[I", Cond.methodLink RX1 37 yX1_teeth, Cond.static yX1_teeth, Cond.code yX1_teeth cX1_teeth 4 (some .int), Cond.methodLink RX1 74 yX1_isTaken, Cond.instanceMethod yX1_isTaken, Cond.selects RX1 yX1_isTaken yX1_isTaken, Cond.code yX1_isTaken cX1_isTaken 3 (some .boolean), Cond.fieldLink RX1 11 "KeyCabinet$Plan" "codeOf" "[I", Cond.methodLink RX1 78 yX1_oldCodeOpens, Cond.instanceMethod yX1_oldCodeOpens, Cond.selects RX1 yX1_oldCodeOpens yX1_oldCodeOpens, Cond.code yX1_oldCodeOpens cX1_oldCodeOpens 4 (some .boolean), Cond.methodLink RX1 88 yX1_pinsWith, Cond.instanceMethod yX1_pinsWith]
def wsX1_bestCodeFor_r2 : List Cond := [Cond.selects RX1 yX1_pinsWith yX1_pinsWith, Cond.code yX1_pinsWith cX1_pinsWith 5 (some .int), Cond.static yX2_contains, Cond.initialized RX2, Cond.code yX2_contains cX2_contains 2 (some .boolean), Cond.methodLink RX1 81 yX1_straysWith, Cond.instanceMethod yX1_straysWith, Cond.selects RX1 yX1_straysWith yX1_straysWith, Cond.code yX1_straysWith cX1_straysWith 9 (some .int), Cond.methodLink RX1 85 yX1_workWith, Cond.instanceMethod yX1_workWith, Cond.selects RX1 yX1_workWith yX1_workWith, Cond.code yX1_workWith cX1_workWith 5 (some .int), Cond.fieldLink RX1 21 "KeyCabinet$Plan" "pinsOf" "[I", Cond.methodLink RX1 52 yJ6_bitCount_0f7a4, Cond.static yJ6_bitCount_0f7a4, Cond.initialized RJ6, Cond.code yJ6_bitCount_0f7a4 cJ6_bitCount_0f7a4 1 (some .int), Cond.constant RJ6 265 (1431655765), Cond.constant RJ6 266 (858993459), Cond.constant RJ6 267 (252645135)]
def wsX1_bestCodeFor : List Cond := .code yX1_bestCodeFor cX1_bestCodeFor 9 (some .int) :: ((wsX1_bestCodeFor_r1 ++ wsX1_bestCodeFor_r2) ++ wsX10)
def wsX2_init_r1 : List Cond := [Cond.methodLink RX2 1 objectInit, Cond.instanceMethod objectInit, Cond.code objectInit ⟨#[0xb1]⟩ 1 none, Cond.fieldLink RX2 7 "KeyCabinet" "day" "I", Cond.classLink RX2 13 RX1, Cond.instantiable RX1 8, Cond.initialized RX1, Cond.fieldLink RX2 16 "KeyCabinet" "plan" "LKeyCabinet$Plan;", Cond.classLink RX2 20 RX0, Cond.instantiable RX0 8, Cond.initialized RX0, Cond.fieldLink RX2 23 "KeyCabinet" "ledger" "LKeyCabinet$Ledger;", Cond.arrayClass .int, Cond.fieldLink RX2 27 "KeyCabinet" "copyToLend" "[I", Cond.fieldLink RX2 31 "KeyCabinet" "doorsOpened" "[I", Cond.instanceMethod yX1_init, Cond.code yX1_init cX1_init 1 none, Cond.methodLink RX1 3 objectInit, Cond.fieldLink RX1 11 "KeyCabinet$Plan" "codeOf" "[I", Cond.fieldLink RX1 15 "KeyCabinet$Plan" "teethOf" "[I", Cond.fieldLink RX1 18 "KeyCabinet$Plan" "rightsOf" "[I", Cond.fieldLink RX1 21 "KeyCabinet$Plan" "pinsOf" "[I", Cond.fieldLink RX1 24 "KeyCabinet$Plan" "pinsWithout" "[I", Cond.fieldLink RX1 27 "KeyCabinet$Plan" "keys" "I"]
def wsX2_init_r2 : List Cond := [Cond.fieldLink RX1 31 "KeyCabinet$Plan" "doors" "I", Cond.fieldLink RX1 34 "KeyCabinet$Plan" "pinsMoved" "I", Cond.instanceMethod yX0_init, Cond.code yX0_init cX0_init 1 none, Cond.methodLink RX0 3 objectInit, Cond.fieldLink RX0 11 "KeyCabinet$Ledger" "keyOf" "[I", Cond.fieldLink RX0 15 "KeyCabinet$Ledger" "stateOf" "[I", Cond.fieldLink RX0 18 "KeyCabinet$Ledger" "timesLent" "[I", Cond.fieldLink RX0 21 "KeyCabinet$Ledger" "loanPerson" "[I", Cond.fieldLink RX0 24 "KeyCabinet$Ledger" "loanStart" "[I", Cond.fieldLink RX0 27 "KeyCabinet$Ledger" "loanDue" "[I", Cond.fieldLink RX0 30 "KeyCabinet$Ledger" "loanEnd" "[I", Cond.fieldLink RX0 33 "KeyCabinet$Ledger" "copies" "I"]
def wsX2_init : List Cond := .code yX2_init cX2_init 1 none :: ((wsX2_init_r1 ++ wsX2_init_r2) ++ wsX20 ++ wsX10 ++ wsX00)
def wsX2_addKey : List Cond := .code yX2_addKey cX2_addKey 2 (some .int) :: ([.classLink RX2 34 "java/lang/IllegalArgumentException", .initialized "java/lang/IllegalArgumentException", .classLink RX2 44 "java/lang/IllegalStateException", .initialized "java/lang/IllegalStateException", .fieldLink RX2 16 "KeyCabinet" "plan" "LKeyCabinet$Plan;", .fieldLink RX2 41 "KeyCabinet$Plan" "keys" "I", .methodLink RX2 49 yX1_isTaken, .instanceMethod yX1_isTaken, .selects RX1 yX1_isTaken yX1_isTaken, .initialized RX1, .code yX1_isTaken cX1_isTaken 3 (some .boolean), .fieldLink RX1 27 "KeyCabinet$Plan" "keys" "I", .fieldLink RX1 11 "KeyCabinet$Plan" "codeOf" "[I", .methodLink RX2 55 yX1_takeKey, .instanceMethod yX1_takeKey, .selects RX1 yX1_takeKey yX1_takeKey, .code yX1_takeKey cX1_takeKey 3 (some .int), .fieldLink RX1 15 "KeyCabinet$Plan" "teethOf" "[I", .methodLink RX1 37 yX1_teeth, .static yX1_teeth, .code yX1_teeth cX1_teeth 4 (some .int)] ++ wsX20 ++ wsX10 ++ (vx_atS RX2 38 "java/lang/IllegalArgumentException" ["java/lang/RuntimeException", "java/lang/Exception"]).filter goodWord ++ (vx_atS RX2 48 "java/lang/IllegalStateException" ["java/lang/RuntimeException", "java/lang/Exception"]).filter goodWord)
def wsX2_isSetOf : List Cond := .code yX2_isSetOf cX2_isSetOf 2 (some .boolean) :: ([])
def wsX2_needRights : List Cond := .code yX2_needRights cX2_needRights 2 none :: ([.classLink RX2 34 "java/lang/IllegalArgumentException", .initialized "java/lang/IllegalArgumentException", .fieldLink RX2 16 "KeyCabinet" "plan" "LKeyCabinet$Plan;", .fieldLink RX2 41 "KeyCabinet$Plan" "keys" "I", .methodLink RX2 202 yX2_isSetOf, .static yX2_isSetOf, .initialized RX2, .code yX2_isSetOf cX2_isSetOf 2 (some .boolean)] ++ wsX20 ++ wsX10 ++ (vx_atS RX2 38 "java/lang/IllegalArgumentException" ["java/lang/RuntimeException", "java/lang/Exception"]).filter goodWord)
def wsX2_addDoor_r1 : List Cond := [Cond.classLink RX2 44 "java/lang/IllegalStateException", Cond.initialized "java/lang/IllegalStateException", Cond.fieldLink RX2 16 "KeyCabinet" "plan" "LKeyCabinet$Plan;", Cond.fieldLink RX2 63 "KeyCabinet$Plan" "doors" "I", Cond.methodLink RX2 59 yX2_needRights, Cond.instanceMethod yX2_needRights, Cond.selects RX2 yX2_needRights yX2_needRights, Cond.initialized RX2, Cond.code yX2_needRights cX2_needRights 2 none, Cond.classLink RX2 34 "java/lang/IllegalArgumentException", Cond.initialized "java/lang/IllegalArgumentException", Cond.fieldLink RX2 41 "KeyCabinet$Plan" "keys" "I", Cond.methodLink RX2 202 yX2_isSetOf, Cond.static yX2_isSetOf, Cond.code yX2_isSetOf cX2_isSetOf 2 (some .boolean), Cond.methodLink RX2 68 yX1_takeDoor, Cond.instanceMethod yX1_takeDoor, Cond.selects RX1 yX1_takeDoor yX1_takeDoor, Cond.initialized RX1, Cond.code yX1_takeDoor cX1_takeDoor 3 (some .int), Cond.fieldLink RX1 31 "KeyCabinet$Plan" "doors" "I", Cond.methodLink RX1 41 yX1_giveRights, Cond.instanceMethod yX1_giveRights, Cond.selects RX1 yX1_giveRights yX1_giveRights]
def wsX2_addDoor_r2 : List Cond := [Cond.code yX1_giveRights cX1_giveRights 3 none, Cond.fieldLink RX1 18 "KeyCabinet$Plan" "rightsOf" "[I", Cond.methodLink RX1 45 yX1_changePins, Cond.instanceMethod yX1_changePins, Cond.selects RX1 yX1_changePins yX1_changePins, Cond.code yX1_changePins cX1_changePins 3 none, Cond.fieldLink RX1 21 "KeyCabinet$Plan" "pinsOf" "[I", Cond.fieldLink RX1 34 "KeyCabinet$Plan" "pinsMoved" "I", Cond.methodLink RX1 49 yX1_pinsFor, Cond.instanceMethod yX1_pinsFor, Cond.selects RX1 yX1_pinsFor yX1_pinsFor, Cond.code yX1_pinsFor cX1_pinsFor 4 (some .int), Cond.fieldLink RX1 27 "KeyCabinet$Plan" "keys" "I", Cond.fieldLink RX1 15 "KeyCabinet$Plan" "teethOf" "[I", Cond.methodLink RX1 52 yJ6_bitCount_0f7a4, Cond.static yJ6_bitCount_0f7a4, Cond.initialized RJ6, Cond.code yJ6_bitCount_0f7a4 cJ6_bitCount_0f7a4 1 (some .int), Cond.constant RJ6 265 (1431655765), Cond.constant RJ6 266 (858993459), Cond.constant RJ6 267 (252645135)]
def wsX2_addDoor : List Cond := .code yX2_addDoor cX2_addDoor 2 (some .int) :: ((wsX2_addDoor_r1 ++ wsX2_addDoor_r2) ++ wsX20 ++ wsX10 ++ (vx_atS RX2 48 "java/lang/IllegalStateException" ["java/lang/RuntimeException", "java/lang/Exception"]).filter goodWord ++ (vx_atS RX2 38 "java/lang/IllegalArgumentException" ["java/lang/RuntimeException", "java/lang/Exception"]).filter goodWord)
def wsX2_needDoor : List Cond := .code yX2_needDoor cX2_needDoor 2 none :: ([.classLink RX2 87 "java/lang/IndexOutOfBoundsException", .initialized "java/lang/IndexOutOfBoundsException", .fieldLink RX2 16 "KeyCabinet" "plan" "LKeyCabinet$Plan;", .fieldLink RX2 63 "KeyCabinet$Plan" "doors" "I"] ++ wsX20 ++ wsX10 ++ (vx_atS RX2 91 "java/lang/IndexOutOfBoundsException" ["java/lang/RuntimeException", "java/lang/Exception"]).filter goodWord)
def wsX2_setRights_r1 : List Cond := [Cond.fieldLink RX2 16 "KeyCabinet" "plan" "LKeyCabinet$Plan;", Cond.fieldLink RX2 74 "KeyCabinet$Plan" "rightsOf" "[I", Cond.methodLink RX2 71 yX2_needDoor, Cond.instanceMethod yX2_needDoor, Cond.selects RX2 yX2_needDoor yX2_needDoor, Cond.initialized RX2, Cond.code yX2_needDoor cX2_needDoor 2 none, Cond.classLink RX2 87 "java/lang/IndexOutOfBoundsException", Cond.initialized "java/lang/IndexOutOfBoundsException", Cond.fieldLink RX2 63 "KeyCabinet$Plan" "doors" "I", Cond.methodLink RX2 59 yX2_needRights, Cond.instanceMethod yX2_needRights, Cond.selects RX2 yX2_needRights yX2_needRights, Cond.code yX2_needRights cX2_needRights 2 none, Cond.classLink RX2 34 "java/lang/IllegalArgumentException", Cond.initialized "java/lang/IllegalArgumentException", Cond.fieldLink RX2 41 "KeyCabinet$Plan" "keys" "I", Cond.methodLink RX2 202 yX2_isSetOf, Cond.static yX2_isSetOf, Cond.code yX2_isSetOf cX2_isSetOf 2 (some .boolean), Cond.methodLink RX2 77 yX1_giveRights, Cond.instanceMethod yX1_giveRights, Cond.selects RX1 yX1_giveRights yX1_giveRights, Cond.initialized RX1]
def wsX2_setRights_r2 : List Cond := [Cond.code yX1_giveRights cX1_giveRights 3 none, Cond.fieldLink RX1 18 "KeyCabinet$Plan" "rightsOf" "[I", Cond.methodLink RX1 45 yX1_changePins, Cond.instanceMethod yX1_changePins, Cond.selects RX1 yX1_changePins yX1_changePins, Cond.code yX1_changePins cX1_changePins 3 none, Cond.fieldLink RX1 21 "KeyCabinet$Plan" "pinsOf" "[I", Cond.fieldLink RX1 34 "KeyCabinet$Plan" "pinsMoved" "I", Cond.methodLink RX1 49 yX1_pinsFor, Cond.instanceMethod yX1_pinsFor, Cond.selects RX1 yX1_pinsFor yX1_pinsFor, Cond.code yX1_pinsFor cX1_pinsFor 4 (some .int), Cond.fieldLink RX1 27 "KeyCabinet$Plan" "keys" "I", Cond.fieldLink RX1 15 "KeyCabinet$Plan" "teethOf" "[I", Cond.methodLink RX1 52 yJ6_bitCount_0f7a4, Cond.static yJ6_bitCount_0f7a4, Cond.initialized RJ6, Cond.code yJ6_bitCount_0f7a4 cJ6_bitCount_0f7a4 1 (some .int), Cond.constant RJ6 265 (1431655765), Cond.constant RJ6 266 (858993459), Cond.constant RJ6 267 (252645135)]
def wsX2_setRights : List Cond := .code yX2_setRights cX2_setRights 4 (some .int) :: ((wsX2_setRights_r1 ++ wsX2_setRights_r2) ++ wsX20 ++ wsX10 ++ (vx_atS RX2 91 "java/lang/IndexOutOfBoundsException" ["java/lang/RuntimeException", "java/lang/Exception"]).filter goodWord ++ (vx_atS RX2 38 "java/lang/IllegalArgumentException" ["java/lang/RuntimeException", "java/lang/Exception"]).filter goodWord)
def wsX2_keyCount : List Cond := .code yX2_keyCount cX2_keyCount 1 (some .int) :: ([.fieldLink RX2 16 "KeyCabinet" "plan" "LKeyCabinet$Plan;", .fieldLink RX2 41 "KeyCabinet$Plan" "keys" "I"] ++ wsX20 ++ wsX10)
def wsX2_doorCount : List Cond := .code yX2_doorCount cX2_doorCount 1 (some .int) :: ([.fieldLink RX2 16 "KeyCabinet" "plan" "LKeyCabinet$Plan;", .fieldLink RX2 63 "KeyCabinet$Plan" "doors" "I"] ++ wsX20 ++ wsX10)
def wsX2_needKey : List Cond := .code yX2_needKey cX2_needKey 2 none :: ([.classLink RX2 87 "java/lang/IndexOutOfBoundsException", .initialized "java/lang/IndexOutOfBoundsException", .fieldLink RX2 16 "KeyCabinet" "plan" "LKeyCabinet$Plan;", .fieldLink RX2 41 "KeyCabinet$Plan" "keys" "I"] ++ wsX20 ++ wsX10 ++ (vx_atS RX2 91 "java/lang/IndexOutOfBoundsException" ["java/lang/RuntimeException", "java/lang/Exception"]).filter goodWord)
def wsX2_code : List Cond := .code yX2_code cX2_code 2 (some .int) :: ([.fieldLink RX2 16 "KeyCabinet" "plan" "LKeyCabinet$Plan;", .fieldLink RX2 84 "KeyCabinet$Plan" "codeOf" "[I", .methodLink RX2 81 yX2_needKey, .instanceMethod yX2_needKey, .selects RX2 yX2_needKey yX2_needKey, .initialized RX2, .code yX2_needKey cX2_needKey 2 none, .classLink RX2 87 "java/lang/IndexOutOfBoundsException", .initialized "java/lang/IndexOutOfBoundsException", .fieldLink RX2 41 "KeyCabinet$Plan" "keys" "I"] ++ wsX20 ++ wsX10 ++ (vx_atS RX2 91 "java/lang/IndexOutOfBoundsException" ["java/lang/RuntimeException", "java/lang/Exception"]).filter goodWord)
def wsX2_pins : List Cond := .code yX2_pins cX2_pins 3 (some .int) :: ([.classLink RX2 87 "java/lang/IndexOutOfBoundsException", .initialized "java/lang/IndexOutOfBoundsException", .fieldLink RX2 16 "KeyCabinet" "plan" "LKeyCabinet$Plan;", .methodLink RX2 71 yX2_needDoor, .instanceMethod yX2_needDoor, .selects RX2 yX2_needDoor yX2_needDoor, .initialized RX2, .code yX2_needDoor cX2_needDoor 2 none, .fieldLink RX2 63 "KeyCabinet$Plan" "doors" "I", .methodLink RX2 92 yX1_pinsAt, .instanceMethod yX1_pinsAt, .selects RX1 yX1_pinsAt yX1_pinsAt, .initialized RX1, .code yX1_pinsAt cX1_pinsAt 3 (some .int), .fieldLink RX1 21 "KeyCabinet$Plan" "pinsOf" "[I"] ++ wsX20 ++ wsX10 ++ (vx_atS RX2 91 "java/lang/IndexOutOfBoundsException" ["java/lang/RuntimeException", "java/lang/Exception"]).filter goodWord)
def wsX2_opens : List Cond := .code yX2_opens cX2_opens 3 (some .boolean) :: ([.fieldLink RX2 16 "KeyCabinet" "plan" "LKeyCabinet$Plan;", .methodLink RX2 81 yX2_needKey, .instanceMethod yX2_needKey, .selects RX2 yX2_needKey yX2_needKey, .initialized RX2, .code yX2_needKey cX2_needKey 2 none, .classLink RX2 87 "java/lang/IndexOutOfBoundsException", .initialized "java/lang/IndexOutOfBoundsException", .fieldLink RX2 41 "KeyCabinet$Plan" "keys" "I", .methodLink RX2 71 yX2_needDoor, .instanceMethod yX2_needDoor, .selects RX2 yX2_needDoor yX2_needDoor, .code yX2_needDoor cX2_needDoor 2 none, .fieldLink RX2 63 "KeyCabinet$Plan" "doors" "I", .methodLink RX2 96 yX1_keyOpens, .instanceMethod yX1_keyOpens, .selects RX1 yX1_keyOpens yX1_keyOpens, .initialized RX1, .code yX1_keyOpens cX1_keyOpens 3 (some .boolean), .fieldLink RX1 21 "KeyCabinet$Plan" "pinsOf" "[I", .fieldLink RX1 15 "KeyCabinet$Plan" "teethOf" "[I", .static yX2_contains, .code yX2_contains cX2_contains 2 (some .boolean)] ++ wsX20 ++ wsX10 ++ (vx_atS RX2 91 "java/lang/IndexOutOfBoundsException" ["java/lang/RuntimeException", "java/lang/Exception"]).filter goodWord)
def wsX2_openers : List Cond := .code yX2_openers cX2_openers 2 (some .int) :: ([.fieldLink RX2 16 "KeyCabinet" "plan" "LKeyCabinet$Plan;", .methodLink RX2 71 yX2_needDoor, .instanceMethod yX2_needDoor, .selects RX2 yX2_needDoor yX2_needDoor, .initialized RX2, .code yX2_needDoor cX2_needDoor 2 none, .classLink RX2 87 "java/lang/IndexOutOfBoundsException", .initialized "java/lang/IndexOutOfBoundsException", .fieldLink RX2 63 "KeyCabinet$Plan" "doors" "I", .methodLink RX2 100 yX1_openersOf, .instanceMethod yX1_openersOf, .selects RX1 yX1_openersOf yX1_openersOf, .initialized RX1, .code yX1_openersOf cX1_openersOf 4 (some .int), .fieldLink RX1 27 "KeyCabinet$Plan" "keys" "I", .methodLink RX1 61 yX1_keyOpens, .instanceMethod yX1_keyOpens, .selects RX1 yX1_keyOpens yX1_keyOpens, .code yX1_keyOpens cX1_keyOpens 3 (some .boolean), .fieldLink RX1 21 "KeyCabinet$Plan" "pinsOf" "[I", .fieldLink RX1 15 "KeyCabinet$Plan" "teethOf" "[I", .static yX2_contains, .code yX2_contains cX2_contains 2 (some .boolean)] ++ wsX20 ++ wsX10 ++ (vx_atS RX2 91 "java/lang/IndexOutOfBoundsException" ["java/lang/RuntimeException", "java/lang/Exception"]).filter goodWord)
def wsX2_doors : List Cond := .code yX2_doors cX2_doors 2 (some .int) :: ([.fieldLink RX2 16 "KeyCabinet" "plan" "LKeyCabinet$Plan;", .methodLink RX2 81 yX2_needKey, .instanceMethod yX2_needKey, .selects RX2 yX2_needKey yX2_needKey, .initialized RX2, .code yX2_needKey cX2_needKey 2 none, .classLink RX2 87 "java/lang/IndexOutOfBoundsException", .initialized "java/lang/IndexOutOfBoundsException", .fieldLink RX2 41 "KeyCabinet$Plan" "keys" "I", .methodLink RX2 103 yX1_doorsOf, .instanceMethod yX1_doorsOf, .selects RX1 yX1_doorsOf yX1_doorsOf, .initialized RX1, .code yX1_doorsOf cX1_doorsOf 4 (some .int), .fieldLink RX1 31 "KeyCabinet$Plan" "doors" "I", .methodLink RX1 61 yX1_keyOpens, .instanceMethod yX1_keyOpens, .selects RX1 yX1_keyOpens yX1_keyOpens, .code yX1_keyOpens cX1_keyOpens 3 (some .boolean), .fieldLink RX1 21 "KeyCabinet$Plan" "pinsOf" "[I", .fieldLink RX1 15 "KeyCabinet$Plan" "teethOf" "[I", .static yX2_contains, .code yX2_contains cX2_contains 2 (some .boolean)] ++ wsX20 ++ wsX10 ++ (vx_atS RX2 91 "java/lang/IndexOutOfBoundsException" ["java/lang/RuntimeException", "java/lang/Exception"]).filter goodWord)
def wsX2_strays_r1 : List Cond := [Cond.fieldLink RX2 16 "KeyCabinet" "plan" "LKeyCabinet$Plan;", Cond.methodLink RX2 106 yX1_countStrays, Cond.instanceMethod yX1_countStrays, Cond.selects RX1 yX1_countStrays yX1_countStrays, Cond.initialized RX1, Cond.code yX1_countStrays cX1_countStrays 3 (some .int), Cond.fieldLink RX1 31 "KeyCabinet$Plan" "doors" "I", Cond.fieldLink RX1 18 "KeyCabinet$Plan" "rightsOf" "[I", Cond.methodLink RX1 67 yX1_openersOf, Cond.instanceMethod yX1_openersOf, Cond.selects RX1 yX1_openersOf yX1_openersOf, Cond.code yX1_openersOf cX1_openersOf 4 (some .int), Cond.fieldLink RX1 27 "KeyCabinet$Plan" "keys" "I", Cond.methodLink RX1 61 yX1_keyOpens, Cond.instanceMethod yX1_keyOpens, Cond.selects RX1 yX1_keyOpens yX1_keyOpens, Cond.code yX1_keyOpens cX1_keyOpens 3 (some .boolean), Cond.fieldLink RX1 21 "KeyCabinet$Plan" "pinsOf" "[I", Cond.fieldLink RX1 15 "KeyCabinet$Plan" "teethOf" "[I", Cond.static yX2_contains, Cond.initialized RX2, Cond.code yX2_contains cX2_contains 2 (some .boolean), Cond.methodLink RX1 52 yJ6_bitCount_0f7a4, Cond.static yJ6_bitCount_0f7a4]
def wsX2_strays_r2 : List Cond := [Cond.initialized RJ6, Cond.code yJ6_bitCount_0f7a4 cJ6_bitCount_0f7a4 1 (some .int), Cond.constant RJ6 265 (1431655765), Cond.constant RJ6 266 (858993459), Cond.constant RJ6 267 (252645135)]
def wsX2_strays : List Cond := .code yX2_strays cX2_strays 1 (some .int) :: ((wsX2_strays_r1 ++ wsX2_strays_r2) ++ wsX20 ++ wsX10)
def wsX2_codes_r1 : List Cond := [Cond.fieldLink RX2 16 "KeyCabinet" "plan" "LKeyCabinet$Plan;", Cond.methodLink RX2 71 yX2_needDoor, Cond.instanceMethod yX2_needDoor, Cond.selects RX2 yX2_needDoor yX2_needDoor, Cond.initialized RX2, Cond.code yX2_needDoor cX2_needDoor 2 none, Cond.classLink RX2 87 "java/lang/IndexOutOfBoundsException", Cond.initialized "java/lang/IndexOutOfBoundsException", Cond.fieldLink RX2 63 "KeyCabinet$Plan" "doors" "I", Cond.methodLink RX2 110 yX1_countCodes, Cond.instanceMethod yX1_countCodes, Cond.selects RX1 yX1_countCodes yX1_countCodes, Cond.initialized RX1, Cond.code yX1_countCodes cX1_countCodes 4 (some .int), Cond.methodLink RX1 70 yX1_pinsAt, Cond.instanceMethod yX1_pinsAt, Cond.selects RX1 yX1_pinsAt yX1_pinsAt, Cond.code yX1_pinsAt cX1_pinsAt 3 (some .int), Cond.fieldLink RX1 21 "KeyCabinet$Plan" "pinsOf" "[I", Cond.methodLink RX1 52 yJ6_bitCount_0f7a4, Cond.static yJ6_bitCount_0f7a4, Cond.initialized RJ6, Cond.code yJ6_bitCount_0f7a4 cJ6_bitCount_0f7a4 1 (some .int), Cond.constant RJ6 265 (1431655765)]
def wsX2_codes_r2 : List Cond := [Cond.constant RJ6 266 (858993459), Cond.constant RJ6 267 (252645135)]
def wsX2_codes : List Cond := .code yX2_codes cX2_codes 2 (some .int) :: ((wsX2_codes_r1 ++ wsX2_codes_r2) ++ wsX20 ++ wsX10 ++ (vx_atS RX2 91 "java/lang/IndexOutOfBoundsException" ["java/lang/RuntimeException", "java/lang/Exception"]).filter goodWord)
def wsX2_isAbove : List Cond := .code yX2_isAbove cX2_isAbove 5 (some .boolean) :: ([.fieldLink RX2 16 "KeyCabinet" "plan" "LKeyCabinet$Plan;", .methodLink RX2 81 yX2_needKey, .instanceMethod yX2_needKey, .selects RX2 yX2_needKey yX2_needKey, .initialized RX2, .code yX2_needKey cX2_needKey 2 none, .classLink RX2 87 "java/lang/IndexOutOfBoundsException", .initialized "java/lang/IndexOutOfBoundsException", .fieldLink RX2 41 "KeyCabinet$Plan" "keys" "I", .methodLink RX2 103 yX1_doorsOf, .instanceMethod yX1_doorsOf, .selects RX1 yX1_doorsOf yX1_doorsOf, .initialized RX1, .code yX1_doorsOf cX1_doorsOf 4 (some .int), .fieldLink RX1 31 "KeyCabinet$Plan" "doors" "I", .methodLink RX1 61 yX1_keyOpens, .instanceMethod yX1_keyOpens, .selects RX1 yX1_keyOpens yX1_keyOpens, .code yX1_keyOpens cX1_keyOpens 3 (some .boolean), .fieldLink RX1 21 "KeyCabinet$Plan" "pinsOf" "[I", .fieldLink RX1 15 "KeyCabinet$Plan" "teethOf" "[I", .static yX2_contains, .code yX2_contains cX2_contains 2 (some .boolean), .methodLink RX2 113 yX2_contains] ++ wsX20 ++ wsX10 ++ (vx_atS RX2 91 "java/lang/IndexOutOfBoundsException" ["java/lang/RuntimeException", "java/lang/Exception"]).filter goodWord)
def wsX2_work : List Cond := .code yX2_work cX2_work 1 (some .int) :: ([.fieldLink RX2 16 "KeyCabinet" "plan" "LKeyCabinet$Plan;", .fieldLink RX2 116 "KeyCabinet$Plan" "pinsMoved" "I"] ++ wsX20 ++ wsX10)
def wsX2_replace_r1 : List Cond := [Cond.fieldLink RX2 16 "KeyCabinet" "plan" "LKeyCabinet$Plan;", Cond.fieldLink RX2 23 "KeyCabinet" "ledger" "LKeyCabinet$Ledger;", Cond.fieldLink RX2 7 "KeyCabinet" "day" "I", Cond.methodLink RX2 81 yX2_needKey, Cond.instanceMethod yX2_needKey, Cond.selects RX2 yX2_needKey yX2_needKey, Cond.initialized RX2, Cond.code yX2_needKey cX2_needKey 2 none, Cond.classLink RX2 87 "java/lang/IndexOutOfBoundsException", Cond.initialized "java/lang/IndexOutOfBoundsException", Cond.fieldLink RX2 41 "KeyCabinet$Plan" "keys" "I", Cond.methodLink RX2 119 yX1_bestCodeFor, Cond.instanceMethod yX1_bestCodeFor, Cond.selects RX1 yX1_bestCodeFor yX1_bestCodeFor, Cond.initialized RX1, Cond.code yX1_bestCodeFor cX1_bestCodeFor 9 (some .int), Cond.fieldLink RX1 31 "KeyCabinet$Plan" "doors" "I", Cond.fieldLink RX1 24 "KeyCabinet$Plan" "pinsWithout" "[I", Cond.fieldLink RX1 18 "KeyCabinet$Plan" "rightsOf" "[I", Cond.methodLink RX1 49 yX1_pinsFor, Cond.instanceMethod yX1_pinsFor, Cond.selects RX1 yX1_pinsFor yX1_pinsFor, Cond.code yX1_pinsFor cX1_pinsFor 4 (some .int), Cond.fieldLink RX1 27 "KeyCabinet$Plan" "keys" "I"]
def wsX2_replace_r2 : List Cond := [Cond.fieldLink RX1 15 "KeyCabinet$Plan" "teethOf" "[I", Cond.methodLink RX1 37 yX1_teeth, Cond.static yX1_teeth, Cond.code yX1_teeth cX1_teeth 4 (some .int), Cond.methodLink RX1 74 yX1_isTaken, Cond.instanceMethod yX1_isTaken, Cond.selects RX1 yX1_isTaken yX1_isTaken, Cond.code yX1_isTaken cX1_isTaken 3 (some .boolean), Cond.fieldLink RX1 11 "KeyCabinet$Plan" "codeOf" "[I", Cond.methodLink RX1 78 yX1_oldCodeOpens, Cond.instanceMethod yX1_oldCodeOpens, Cond.selects RX1 yX1_oldCodeOpens yX1_oldCodeOpens, Cond.code yX1_oldCodeOpens cX1_oldCodeOpens 4 (some .boolean), Cond.methodLink RX1 88 yX1_pinsWith, Cond.instanceMethod yX1_pinsWith, Cond.selects RX1 yX1_pinsWith yX1_pinsWith, Cond.code yX1_pinsWith cX1_pinsWith 5 (some .int), Cond.static yX2_contains, Cond.code yX2_contains cX2_contains 2 (some .boolean), Cond.methodLink RX1 81 yX1_straysWith, Cond.instanceMethod yX1_straysWith, Cond.selects RX1 yX1_straysWith yX1_straysWith, Cond.code yX1_straysWith cX1_straysWith 9 (some .int), Cond.methodLink RX1 85 yX1_workWith]
def wsX2_replace_r3 : List Cond := [Cond.instanceMethod yX1_workWith, Cond.selects RX1 yX1_workWith yX1_workWith, Cond.code yX1_workWith cX1_workWith 5 (some .int), Cond.fieldLink RX1 21 "KeyCabinet$Plan" "pinsOf" "[I", Cond.methodLink RX1 52 yJ6_bitCount_0f7a4, Cond.static yJ6_bitCount_0f7a4, Cond.initialized RJ6, Cond.code yJ6_bitCount_0f7a4 cJ6_bitCount_0f7a4 1 (some .int), Cond.constant RJ6 265 (1431655765), Cond.constant RJ6 266 (858993459), Cond.constant RJ6 267 (252645135), Cond.methodLink RX2 122 yX1_giveCode, Cond.instanceMethod yX1_giveCode, Cond.selects RX1 yX1_giveCode yX1_giveCode, Cond.code yX1_giveCode cX1_giveCode 4 none, Cond.methodLink RX1 45 yX1_changePins, Cond.instanceMethod yX1_changePins, Cond.selects RX1 yX1_changePins yX1_changePins, Cond.code yX1_changePins cX1_changePins 3 none, Cond.fieldLink RX1 34 "KeyCabinet$Plan" "pinsMoved" "I", Cond.methodLink RX2 125 yX0_voidCopiesOf, Cond.instanceMethod yX0_voidCopiesOf, Cond.selects RX0 yX0_voidCopiesOf yX0_voidCopiesOf, Cond.initialized RX0]
def wsX2_replace_r4 : List Cond := [Cond.code yX0_voidCopiesOf cX0_voidCopiesOf 4 none, Cond.fieldLink RX0 33 "KeyCabinet$Ledger" "copies" "I", Cond.fieldLink RX0 11 "KeyCabinet$Ledger" "keyOf" "[I", Cond.methodLink RX0 41 yX0_move, Cond.instanceMethod yX0_move, Cond.selects RX0 yX0_move yX0_move, Cond.code yX0_move cX0_move 4 none, Cond.fieldLink RX0 15 "KeyCabinet$Ledger" "stateOf" "[I", Cond.fieldLink RX0 30 "KeyCabinet$Ledger" "loanEnd" "[I", Cond.methodLink RX0 37 yX0_lastLoan, Cond.instanceMethod yX0_lastLoan, Cond.selects RX0 yX0_lastLoan yX0_lastLoan, Cond.code yX0_lastLoan cX0_lastLoan 2 (some .int), Cond.fieldLink RX0 18 "KeyCabinet$Ledger" "timesLent" "[I"]
def wsX2_replace : List Cond := .code yX2_replace cX2_replace 3 (some .int) :: ((wsX2_replace_r1 ++ (wsX2_replace_r2 ++ (wsX2_replace_r3 ++ wsX2_replace_r4))) ++ wsX20 ++ wsX10 ++ wsX00 ++ (vx_atS RX2 91 "java/lang/IndexOutOfBoundsException" ["java/lang/RuntimeException", "java/lang/Exception"]).filter goodWord)
def wsX2_cut : List Cond := .code yX2_cut cX2_cut 2 (some .int) :: ([.classLink RX2 44 "java/lang/IllegalStateException", .initialized "java/lang/IllegalStateException", .fieldLink RX2 23 "KeyCabinet" "ledger" "LKeyCabinet$Ledger;", .fieldLink RX2 128 "KeyCabinet$Ledger" "copies" "I", .methodLink RX2 81 yX2_needKey, .instanceMethod yX2_needKey, .selects RX2 yX2_needKey yX2_needKey, .initialized RX2, .code yX2_needKey cX2_needKey 2 none, .classLink RX2 87 "java/lang/IndexOutOfBoundsException", .initialized "java/lang/IndexOutOfBoundsException", .fieldLink RX2 16 "KeyCabinet" "plan" "LKeyCabinet$Plan;", .fieldLink RX2 41 "KeyCabinet$Plan" "keys" "I", .methodLink RX2 133 yX0_takeCopy, .instanceMethod yX0_takeCopy, .selects RX0 yX0_takeCopy yX0_takeCopy, .initialized RX0, .code yX0_takeCopy cX0_takeCopy 3 (some .int), .fieldLink RX0 33 "KeyCabinet$Ledger" "copies" "I", .fieldLink RX0 11 "KeyCabinet$Ledger" "keyOf" "[I", .fieldLink RX0 15 "KeyCabinet$Ledger" "stateOf" "[I"] ++ wsX20 ++ wsX00 ++ wsX10 ++ (vx_atS RX2 48 "java/lang/IllegalStateException" ["java/lang/RuntimeException", "java/lang/Exception"]).filter goodWord ++ (vx_atS RX2 91 "java/lang/IndexOutOfBoundsException" ["java/lang/RuntimeException", "java/lang/Exception"]).filter goodWord)
def wsX2_needCopy : List Cond := .code yX2_needCopy cX2_needCopy 2 none :: ([.classLink RX2 87 "java/lang/IndexOutOfBoundsException", .initialized "java/lang/IndexOutOfBoundsException", .fieldLink RX2 23 "KeyCabinet" "ledger" "LKeyCabinet$Ledger;", .fieldLink RX2 128 "KeyCabinet$Ledger" "copies" "I"] ++ wsX20 ++ wsX00 ++ (vx_atS RX2 91 "java/lang/IndexOutOfBoundsException" ["java/lang/RuntimeException", "java/lang/Exception"]).filter goodWord)
def wsX2_needPerson : List Cond := .code yX2_needPerson cX2_needPerson 2 none :: ([.classLink RX2 87 "java/lang/IndexOutOfBoundsException", .initialized "java/lang/IndexOutOfBoundsException"] ++ (vx_atS RX2 91 "java/lang/IndexOutOfBoundsException" ["java/lang/RuntimeException", "java/lang/Exception"]).filter goodWord)
def wsX2_needDays : List Cond := .code yX2_needDays cX2_needDays 2 none :: ([.classLink RX2 34 "java/lang/IllegalArgumentException", .initialized "java/lang/IllegalArgumentException"] ++ (vx_atS RX2 38 "java/lang/IllegalArgumentException" ["java/lang/RuntimeException", "java/lang/Exception"]).filter goodWord)
def wsX2_lend_r1 : List Cond := [Cond.classLink RX2 44 "java/lang/IllegalStateException", Cond.initialized "java/lang/IllegalStateException", Cond.fieldLink RX2 23 "KeyCabinet" "ledger" "LKeyCabinet$Ledger;", Cond.fieldLink RX2 7 "KeyCabinet" "day" "I", Cond.methodLink RX2 136 yX2_needCopy, Cond.instanceMethod yX2_needCopy, Cond.selects RX2 yX2_needCopy yX2_needCopy, Cond.initialized RX2, Cond.code yX2_needCopy cX2_needCopy 2 none, Cond.classLink RX2 87 "java/lang/IndexOutOfBoundsException", Cond.initialized "java/lang/IndexOutOfBoundsException", Cond.fieldLink RX2 128 "KeyCabinet$Ledger" "copies" "I", Cond.methodLink RX2 139 yX2_needPerson, Cond.instanceMethod yX2_needPerson, Cond.selects RX2 yX2_needPerson yX2_needPerson, Cond.code yX2_needPerson cX2_needPerson 2 none, Cond.methodLink RX2 142 yX2_needDays, Cond.instanceMethod yX2_needDays, Cond.selects RX2 yX2_needDays yX2_needDays, Cond.code yX2_needDays cX2_needDays 2 none, Cond.classLink RX2 34 "java/lang/IllegalArgumentException", Cond.initialized "java/lang/IllegalArgumentException", Cond.methodLink RX2 145 yX0_canBeLent, Cond.instanceMethod yX0_canBeLent]
def wsX2_lend_r2 : List Cond := [Cond.selects RX0 yX0_canBeLent yX0_canBeLent, Cond.initialized RX0, Cond.code yX0_canBeLent cX0_canBeLent 2 (some .boolean), Cond.fieldLink RX0 15 "KeyCabinet$Ledger" "stateOf" "[I", Cond.fieldLink RX0 18 "KeyCabinet$Ledger" "timesLent" "[I", Cond.methodLink RX2 150 yX0_startLoan, Cond.instanceMethod yX0_startLoan, Cond.selects RX0 yX0_startLoan yX0_startLoan, Cond.code yX0_startLoan cX0_startLoan 6 none, Cond.fieldLink RX0 21 "KeyCabinet$Ledger" "loanPerson" "[I", Cond.fieldLink RX0 24 "KeyCabinet$Ledger" "loanStart" "[I", Cond.fieldLink RX0 27 "KeyCabinet$Ledger" "loanDue" "[I", Cond.fieldLink RX0 30 "KeyCabinet$Ledger" "loanEnd" "[I", Cond.methodLink RX0 37 yX0_lastLoan, Cond.instanceMethod yX0_lastLoan, Cond.selects RX0 yX0_lastLoan yX0_lastLoan, Cond.code yX0_lastLoan cX0_lastLoan 2 (some .int)]
def wsX2_lend : List Cond := .code yX2_lend cX2_lend 5 (some .int) :: ((wsX2_lend_r1 ++ wsX2_lend_r2) ++ wsX20 ++ wsX00 ++ (vx_atS RX2 48 "java/lang/IllegalStateException" ["java/lang/RuntimeException", "java/lang/Exception"]).filter goodWord ++ (vx_atS RX2 91 "java/lang/IndexOutOfBoundsException" ["java/lang/RuntimeException", "java/lang/Exception"]).filter goodWord ++ (vx_atS RX2 38 "java/lang/IllegalArgumentException" ["java/lang/RuntimeException", "java/lang/Exception"]).filter goodWord)
def wsX2_giveBack_r1 : List Cond := [Cond.classLink RX2 44 "java/lang/IllegalStateException", Cond.initialized "java/lang/IllegalStateException", Cond.fieldLink RX2 23 "KeyCabinet" "ledger" "LKeyCabinet$Ledger;", Cond.fieldLink RX2 154 "KeyCabinet$Ledger" "stateOf" "[I", Cond.fieldLink RX2 7 "KeyCabinet" "day" "I", Cond.methodLink RX2 162 Lib.Math.max.name, Cond.static Lib.Math.max.name, Cond.initialized "java/lang/Math", Cond.code Lib.Math.max.name Lib.Math.max.code 2 (some .int), Cond.methodLink RX2 136 yX2_needCopy, Cond.instanceMethod yX2_needCopy, Cond.selects RX2 yX2_needCopy yX2_needCopy, Cond.initialized RX2, Cond.code yX2_needCopy cX2_needCopy 2 none, Cond.classLink RX2 87 "java/lang/IndexOutOfBoundsException", Cond.initialized "java/lang/IndexOutOfBoundsException", Cond.fieldLink RX2 128 "KeyCabinet$Ledger" "copies" "I", Cond.methodLink RX2 159 yX0_dueOf, Cond.instanceMethod yX0_dueOf, Cond.selects RX0 yX0_dueOf yX0_dueOf, Cond.initialized RX0, Cond.code yX0_dueOf cX0_dueOf 2 (some .int), Cond.fieldLink RX0 15 "KeyCabinet$Ledger" "stateOf" "[I", Cond.fieldLink RX0 27 "KeyCabinet$Ledger" "loanDue" "[I"]
def wsX2_giveBack_r2 : List Cond := [Cond.methodLink RX0 37 yX0_lastLoan, Cond.instanceMethod yX0_lastLoan, Cond.selects RX0 yX0_lastLoan yX0_lastLoan, Cond.code yX0_lastLoan cX0_lastLoan 2 (some .int), Cond.fieldLink RX0 18 "KeyCabinet$Ledger" "timesLent" "[I", Cond.methodLink RX2 167 yX0_move, Cond.instanceMethod yX0_move, Cond.selects RX0 yX0_move yX0_move, Cond.code yX0_move cX0_move 4 none, Cond.fieldLink RX0 30 "KeyCabinet$Ledger" "loanEnd" "[I"]
def wsX2_giveBack : List Cond := .code yX2_giveBack cX2_giveBack 3 (some .int) :: ((wsX2_giveBack_r1 ++ wsX2_giveBack_r2) ++ wsX20 ++ wsX00 ++ (vx_atS RX2 48 "java/lang/IllegalStateException" ["java/lang/RuntimeException", "java/lang/Exception"]).filter goodWord ++ (vx_atS RX2 91 "java/lang/IndexOutOfBoundsException" ["java/lang/RuntimeException", "java/lang/Exception"]).filter goodWord)
def wsX2_lose_r1 : List Cond := [Cond.classLink RX2 44 "java/lang/IllegalStateException", Cond.initialized "java/lang/IllegalStateException", Cond.fieldLink RX2 23 "KeyCabinet" "ledger" "LKeyCabinet$Ledger;", Cond.fieldLink RX2 154 "KeyCabinet$Ledger" "stateOf" "[I", Cond.fieldLink RX2 7 "KeyCabinet" "day" "I", Cond.fieldLink RX2 16 "KeyCabinet" "plan" "LKeyCabinet$Plan;", Cond.fieldLink RX2 173 "KeyCabinet$Ledger" "keyOf" "[I", Cond.methodLink RX2 136 yX2_needCopy, Cond.instanceMethod yX2_needCopy, Cond.selects RX2 yX2_needCopy yX2_needCopy, Cond.initialized RX2, Cond.code yX2_needCopy cX2_needCopy 2 none, Cond.classLink RX2 87 "java/lang/IndexOutOfBoundsException", Cond.initialized "java/lang/IndexOutOfBoundsException", Cond.fieldLink RX2 128 "KeyCabinet$Ledger" "copies" "I", Cond.methodLink RX2 167 yX0_move, Cond.instanceMethod yX0_move, Cond.selects RX0 yX0_move yX0_move, Cond.initialized RX0, Cond.code yX0_move cX0_move 4 none, Cond.fieldLink RX0 15 "KeyCabinet$Ledger" "stateOf" "[I", Cond.fieldLink RX0 30 "KeyCabinet$Ledger" "loanEnd" "[I", Cond.methodLink RX0 37 yX0_lastLoan, Cond.instanceMethod yX0_lastLoan]
def wsX2_lose_r2 : List Cond := [Cond.selects RX0 yX0_lastLoan yX0_lastLoan, Cond.code yX0_lastLoan cX0_lastLoan 2 (some .int), Cond.fieldLink RX0 18 "KeyCabinet$Ledger" "timesLent" "[I", Cond.methodLink RX2 103 yX1_doorsOf, Cond.instanceMethod yX1_doorsOf, Cond.selects RX1 yX1_doorsOf yX1_doorsOf, Cond.initialized RX1, Cond.code yX1_doorsOf cX1_doorsOf 4 (some .int), Cond.fieldLink RX1 31 "KeyCabinet$Plan" "doors" "I", Cond.methodLink RX1 61 yX1_keyOpens, Cond.instanceMethod yX1_keyOpens, Cond.selects RX1 yX1_keyOpens yX1_keyOpens, Cond.code yX1_keyOpens cX1_keyOpens 3 (some .boolean), Cond.fieldLink RX1 21 "KeyCabinet$Plan" "pinsOf" "[I", Cond.fieldLink RX1 15 "KeyCabinet$Plan" "teethOf" "[I", Cond.static yX2_contains, Cond.code yX2_contains cX2_contains 2 (some .boolean)]
def wsX2_lose : List Cond := .code yX2_lose cX2_lose 3 (some .int) :: ((wsX2_lose_r1 ++ wsX2_lose_r2) ++ wsX20 ++ wsX00 ++ wsX10 ++ (vx_atS RX2 48 "java/lang/IllegalStateException" ["java/lang/RuntimeException", "java/lang/Exception"]).filter goodWord ++ (vx_atS RX2 91 "java/lang/IndexOutOfBoundsException" ["java/lang/RuntimeException", "java/lang/Exception"]).filter goodWord)
def wsX2_doorsAtRisk_r1 : List Cond := [Cond.fieldLink RX2 16 "KeyCabinet" "plan" "LKeyCabinet$Plan;", Cond.fieldLink RX2 23 "KeyCabinet" "ledger" "LKeyCabinet$Ledger;", Cond.methodLink RX2 249 yX0_keysLost, Cond.instanceMethod yX0_keysLost, Cond.selects RX0 yX0_keysLost yX0_keysLost, Cond.initialized RX0, Cond.code yX0_keysLost cX0_keysLost 3 (some .int), Cond.fieldLink RX0 33 "KeyCabinet$Ledger" "copies" "I", Cond.fieldLink RX0 15 "KeyCabinet$Ledger" "stateOf" "[I", Cond.fieldLink RX0 11 "KeyCabinet$Ledger" "keyOf" "[I", Cond.methodLink RX2 246 yX1_doorsOfAll, Cond.instanceMethod yX1_doorsOfAll, Cond.selects RX1 yX1_doorsOfAll yX1_doorsOfAll, Cond.initialized RX1, Cond.code yX1_doorsOfAll cX1_doorsOfAll 4 (some .int), Cond.fieldLink RX1 27 "KeyCabinet$Plan" "keys" "I", Cond.methodLink RX1 64 yX1_doorsOf, Cond.instanceMethod yX1_doorsOf, Cond.selects RX1 yX1_doorsOf yX1_doorsOf, Cond.code yX1_doorsOf cX1_doorsOf 4 (some .int), Cond.fieldLink RX1 31 "KeyCabinet$Plan" "doors" "I", Cond.methodLink RX1 61 yX1_keyOpens, Cond.instanceMethod yX1_keyOpens, Cond.selects RX1 yX1_keyOpens yX1_keyOpens]
def wsX2_doorsAtRisk_r2 : List Cond := [Cond.code yX1_keyOpens cX1_keyOpens 3 (some .boolean), Cond.fieldLink RX1 21 "KeyCabinet$Plan" "pinsOf" "[I", Cond.fieldLink RX1 15 "KeyCabinet$Plan" "teethOf" "[I", Cond.static yX2_contains, Cond.initialized RX2, Cond.code yX2_contains cX2_contains 2 (some .boolean)]
def wsX2_doorsAtRisk : List Cond := .code yX2_doorsAtRisk cX2_doorsAtRisk 1 (some .int) :: ((wsX2_doorsAtRisk_r1 ++ wsX2_doorsAtRisk_r2) ++ wsX20 ++ wsX00 ++ wsX10)
def wsX2_find_r1 : List Cond := [Cond.classLink RX2 44 "java/lang/IllegalStateException", Cond.initialized "java/lang/IllegalStateException", Cond.fieldLink RX2 23 "KeyCabinet" "ledger" "LKeyCabinet$Ledger;", Cond.fieldLink RX2 154 "KeyCabinet$Ledger" "stateOf" "[I", Cond.fieldLink RX2 7 "KeyCabinet" "day" "I", Cond.methodLink RX2 136 yX2_needCopy, Cond.instanceMethod yX2_needCopy, Cond.selects RX2 yX2_needCopy yX2_needCopy, Cond.initialized RX2, Cond.code yX2_needCopy cX2_needCopy 2 none, Cond.classLink RX2 87 "java/lang/IndexOutOfBoundsException", Cond.initialized "java/lang/IndexOutOfBoundsException", Cond.fieldLink RX2 128 "KeyCabinet$Ledger" "copies" "I", Cond.methodLink RX2 167 yX0_move, Cond.instanceMethod yX0_move, Cond.selects RX0 yX0_move yX0_move, Cond.initialized RX0, Cond.code yX0_move cX0_move 4 none, Cond.fieldLink RX0 15 "KeyCabinet$Ledger" "stateOf" "[I", Cond.fieldLink RX0 30 "KeyCabinet$Ledger" "loanEnd" "[I", Cond.methodLink RX0 37 yX0_lastLoan, Cond.instanceMethod yX0_lastLoan, Cond.selects RX0 yX0_lastLoan yX0_lastLoan, Cond.code yX0_lastLoan cX0_lastLoan 2 (some .int)]
def wsX2_find_r2 : List Cond := [Cond.fieldLink RX0 18 "KeyCabinet$Ledger" "timesLent" "[I", Cond.methodLink RX2 178 yX2_doorsAtRisk, Cond.instanceMethod yX2_doorsAtRisk, Cond.selects RX2 yX2_doorsAtRisk yX2_doorsAtRisk, Cond.code yX2_doorsAtRisk cX2_doorsAtRisk 1 (some .int), Cond.fieldLink RX2 16 "KeyCabinet" "plan" "LKeyCabinet$Plan;", Cond.methodLink RX2 249 yX0_keysLost, Cond.instanceMethod yX0_keysLost, Cond.selects RX0 yX0_keysLost yX0_keysLost, Cond.code yX0_keysLost cX0_keysLost 3 (some .int), Cond.fieldLink RX0 33 "KeyCabinet$Ledger" "copies" "I", Cond.fieldLink RX0 11 "KeyCabinet$Ledger" "keyOf" "[I", Cond.methodLink RX2 246 yX1_doorsOfAll, Cond.instanceMethod yX1_doorsOfAll, Cond.selects RX1 yX1_doorsOfAll yX1_doorsOfAll, Cond.initialized RX1, Cond.code yX1_doorsOfAll cX1_doorsOfAll 4 (some .int), Cond.fieldLink RX1 27 "KeyCabinet$Plan" "keys" "I", Cond.methodLink RX1 64 yX1_doorsOf, Cond.instanceMethod yX1_doorsOf, Cond.selects RX1 yX1_doorsOf yX1_doorsOf, Cond.code yX1_doorsOf cX1_doorsOf 4 (some .int), Cond.fieldLink RX1 31 "KeyCabinet$Plan" "doors" "I", Cond.methodLink RX1 61 yX1_keyOpens]
def wsX2_find_r3 : List Cond := [Cond.instanceMethod yX1_keyOpens, Cond.selects RX1 yX1_keyOpens yX1_keyOpens, Cond.code yX1_keyOpens cX1_keyOpens 3 (some .boolean), Cond.fieldLink RX1 21 "KeyCabinet$Plan" "pinsOf" "[I", Cond.fieldLink RX1 15 "KeyCabinet$Plan" "teethOf" "[I", Cond.static yX2_contains, Cond.code yX2_contains cX2_contains 2 (some .boolean)]
def wsX2_find : List Cond := .code yX2_find cX2_find 2 (some .int) :: ((wsX2_find_r1 ++ (wsX2_find_r2 ++ wsX2_find_r3)) ++ wsX20 ++ wsX00 ++ wsX10 ++ (vx_atS RX2 48 "java/lang/IllegalStateException" ["java/lang/RuntimeException", "java/lang/Exception"]).filter goodWord ++ (vx_atS RX2 91 "java/lang/IndexOutOfBoundsException" ["java/lang/RuntimeException", "java/lang/Exception"]).filter goodWord)
def wsX2_pass : List Cond := .code yX2_pass cX2_pass 2 (some .int) :: ([.classLink RX2 44 "java/lang/IllegalStateException", .initialized "java/lang/IllegalStateException", .fieldLink RX2 7 "KeyCabinet" "day" "I", .methodLink RX2 142 yX2_needDays, .instanceMethod yX2_needDays, .selects RX2 yX2_needDays yX2_needDays, .initialized RX2, .code yX2_needDays cX2_needDays 2 none, .classLink RX2 34 "java/lang/IllegalArgumentException", .initialized "java/lang/IllegalArgumentException"] ++ wsX20 ++ (vx_atS RX2 48 "java/lang/IllegalStateException" ["java/lang/RuntimeException", "java/lang/Exception"]).filter goodWord ++ (vx_atS RX2 38 "java/lang/IllegalArgumentException" ["java/lang/RuntimeException", "java/lang/Exception"]).filter goodWord)
def wsX2_today : List Cond := .code yX2_today cX2_today 1 (some .int) :: ([.fieldLink RX2 7 "KeyCabinet" "day" "I"] ++ wsX20)
def wsX2_copyCount : List Cond := .code yX2_copyCount cX2_copyCount 1 (some .int) :: ([.fieldLink RX2 23 "KeyCabinet" "ledger" "LKeyCabinet$Ledger;", .fieldLink RX2 128 "KeyCabinet$Ledger" "copies" "I"] ++ wsX20 ++ wsX00)
def wsX2_copy_r1 : List Cond := [Cond.classLink RX2 87 "java/lang/IndexOutOfBoundsException", Cond.initialized "java/lang/IndexOutOfBoundsException", Cond.fieldLink RX2 23 "KeyCabinet" "ledger" "LKeyCabinet$Ledger;", Cond.fieldLink RX2 173 "KeyCabinet$Ledger" "keyOf" "[I", Cond.fieldLink RX2 154 "KeyCabinet$Ledger" "stateOf" "[I", Cond.fieldLink RX2 186 "KeyCabinet$Ledger" "timesLent" "[I", Cond.methodLink RX2 136 yX2_needCopy, Cond.instanceMethod yX2_needCopy, Cond.selects RX2 yX2_needCopy yX2_needCopy, Cond.initialized RX2, Cond.code yX2_needCopy cX2_needCopy 2 none, Cond.fieldLink RX2 128 "KeyCabinet$Ledger" "copies" "I", Cond.methodLink RX2 183 yX0_holderOf, Cond.instanceMethod yX0_holderOf, Cond.selects RX0 yX0_holderOf yX0_holderOf, Cond.initialized RX0, Cond.code yX0_holderOf cX0_holderOf 2 (some .int), Cond.fieldLink RX0 15 "KeyCabinet$Ledger" "stateOf" "[I", Cond.fieldLink RX0 21 "KeyCabinet$Ledger" "loanPerson" "[I", Cond.methodLink RX0 37 yX0_lastLoan, Cond.instanceMethod yX0_lastLoan, Cond.selects RX0 yX0_lastLoan yX0_lastLoan, Cond.code yX0_lastLoan cX0_lastLoan 2 (some .int), Cond.fieldLink RX0 18 "KeyCabinet$Ledger" "timesLent" "[I"]
def wsX2_copy_r2 : List Cond := [Cond.methodLink RX2 159 yX0_dueOf, Cond.instanceMethod yX0_dueOf, Cond.selects RX0 yX0_dueOf yX0_dueOf, Cond.code yX0_dueOf cX0_dueOf 2 (some .int), Cond.fieldLink RX0 27 "KeyCabinet$Ledger" "loanDue" "[I"]
def wsX2_copy : List Cond := .code yX2_copy cX2_copy 3 (some .int) :: ((wsX2_copy_r1 ++ wsX2_copy_r2) ++ wsX20 ++ wsX00 ++ (vx_atS RX2 91 "java/lang/IndexOutOfBoundsException" ["java/lang/RuntimeException", "java/lang/Exception"]).filter goodWord)
def wsX2_overdue : List Cond := .code yX2_overdue cX2_overdue 1 (some .int) :: ([.fieldLink RX2 23 "KeyCabinet" "ledger" "LKeyCabinet$Ledger;", .fieldLink RX2 7 "KeyCabinet" "day" "I", .methodLink RX2 191 yX0_copiesDueBefore, .instanceMethod yX0_copiesDueBefore, .selects RX0 yX0_copiesDueBefore yX0_copiesDueBefore, .initialized RX0, .code yX0_copiesDueBefore cX0_copiesDueBefore 4 (some .int), .fieldLink RX0 33 "KeyCabinet$Ledger" "copies" "I", .fieldLink RX0 15 "KeyCabinet$Ledger" "stateOf" "[I", .methodLink RX0 45 yX0_dueOf, .instanceMethod yX0_dueOf, .selects RX0 yX0_dueOf yX0_dueOf, .code yX0_dueOf cX0_dueOf 2 (some .int), .fieldLink RX0 27 "KeyCabinet$Ledger" "loanDue" "[I", .methodLink RX0 37 yX0_lastLoan, .instanceMethod yX0_lastLoan, .selects RX0 yX0_lastLoan yX0_lastLoan, .code yX0_lastLoan cX0_lastLoan 2 (some .int), .fieldLink RX0 18 "KeyCabinet$Ledger" "timesLent" "[I"] ++ wsX20 ++ wsX00)
def wsX2_holderAt : List Cond := .code yX2_holderAt cX2_holderAt 3 (some .int) :: ([.classLink RX2 34 "java/lang/IllegalArgumentException", .initialized "java/lang/IllegalArgumentException", .fieldLink RX2 7 "KeyCabinet" "day" "I", .fieldLink RX2 23 "KeyCabinet" "ledger" "LKeyCabinet$Ledger;", .methodLink RX2 136 yX2_needCopy, .instanceMethod yX2_needCopy, .selects RX2 yX2_needCopy yX2_needCopy, .initialized RX2, .code yX2_needCopy cX2_needCopy 2 none, .classLink RX2 87 "java/lang/IndexOutOfBoundsException", .initialized "java/lang/IndexOutOfBoundsException", .fieldLink RX2 128 "KeyCabinet$Ledger" "copies" "I", .methodLink RX2 196 yX0_holderOn, .instanceMethod yX0_holderOn, .selects RX0 yX0_holderOn yX0_holderOn, .initialized RX0, .code yX0_holderOn cX0_holderOn 5 (some .int), .fieldLink RX0 18 "KeyCabinet$Ledger" "timesLent" "[I", .fieldLink RX0 24 "KeyCabinet$Ledger" "loanStart" "[I", .fieldLink RX0 30 "KeyCabinet$Ledger" "loanEnd" "[I", .fieldLink RX0 21 "KeyCabinet$Ledger" "loanPerson" "[I"] ++ wsX20 ++ wsX00 ++ (vx_atS RX2 38 "java/lang/IllegalArgumentException" ["java/lang/RuntimeException", "java/lang/Exception"]).filter goodWord ++ (vx_atS RX2 91 "java/lang/IndexOutOfBoundsException" ["java/lang/RuntimeException", "java/lang/Exception"]).filter goodWord)
def wsX2_doorsReached_r1 : List Cond := [Cond.fieldLink RX2 16 "KeyCabinet" "plan" "LKeyCabinet$Plan;", Cond.fieldLink RX2 23 "KeyCabinet" "ledger" "LKeyCabinet$Ledger;", Cond.methodLink RX2 243 yX0_keysHeldBy, Cond.instanceMethod yX0_keysHeldBy, Cond.selects RX0 yX0_keysHeldBy yX0_keysHeldBy, Cond.initialized RX0, Cond.code yX0_keysHeldBy cX0_keysHeldBy 4 (some .int), Cond.fieldLink RX0 33 "KeyCabinet$Ledger" "copies" "I", Cond.fieldLink RX0 11 "KeyCabinet$Ledger" "keyOf" "[I", Cond.methodLink RX0 48 yX0_holderOf, Cond.instanceMethod yX0_holderOf, Cond.selects RX0 yX0_holderOf yX0_holderOf, Cond.code yX0_holderOf cX0_holderOf 2 (some .int), Cond.fieldLink RX0 15 "KeyCabinet$Ledger" "stateOf" "[I", Cond.fieldLink RX0 21 "KeyCabinet$Ledger" "loanPerson" "[I", Cond.methodLink RX0 37 yX0_lastLoan, Cond.instanceMethod yX0_lastLoan, Cond.selects RX0 yX0_lastLoan yX0_lastLoan, Cond.code yX0_lastLoan cX0_lastLoan 2 (some .int), Cond.fieldLink RX0 18 "KeyCabinet$Ledger" "timesLent" "[I", Cond.methodLink RX2 246 yX1_doorsOfAll, Cond.instanceMethod yX1_doorsOfAll, Cond.selects RX1 yX1_doorsOfAll yX1_doorsOfAll, Cond.initialized RX1]
def wsX2_doorsReached_r2 : List Cond := [Cond.code yX1_doorsOfAll cX1_doorsOfAll 4 (some .int), Cond.fieldLink RX1 27 "KeyCabinet$Plan" "keys" "I", Cond.methodLink RX1 64 yX1_doorsOf, Cond.instanceMethod yX1_doorsOf, Cond.selects RX1 yX1_doorsOf yX1_doorsOf, Cond.code yX1_doorsOf cX1_doorsOf 4 (some .int), Cond.fieldLink RX1 31 "KeyCabinet$Plan" "doors" "I", Cond.methodLink RX1 61 yX1_keyOpens, Cond.instanceMethod yX1_keyOpens, Cond.selects RX1 yX1_keyOpens yX1_keyOpens, Cond.code yX1_keyOpens cX1_keyOpens 3 (some .boolean), Cond.fieldLink RX1 21 "KeyCabinet$Plan" "pinsOf" "[I", Cond.fieldLink RX1 15 "KeyCabinet$Plan" "teethOf" "[I", Cond.static yX2_contains, Cond.initialized RX2, Cond.code yX2_contains cX2_contains 2 (some .boolean)]
def wsX2_doorsReached : List Cond := .code yX2_doorsReached cX2_doorsReached 2 (some .int) :: ((wsX2_doorsReached_r1 ++ wsX2_doorsReached_r2) ++ wsX20 ++ wsX00 ++ wsX10)
def wsX2_reach_r1 : List Cond := [Cond.methodLink RX2 139 yX2_needPerson, Cond.instanceMethod yX2_needPerson, Cond.selects RX2 yX2_needPerson yX2_needPerson, Cond.initialized RX2, Cond.code yX2_needPerson cX2_needPerson 2 none, Cond.classLink RX2 87 "java/lang/IndexOutOfBoundsException", Cond.initialized "java/lang/IndexOutOfBoundsException", Cond.methodLink RX2 199 yX2_doorsReached, Cond.instanceMethod yX2_doorsReached, Cond.selects RX2 yX2_doorsReached yX2_doorsReached, Cond.code yX2_doorsReached cX2_doorsReached 2 (some .int), Cond.fieldLink RX2 16 "KeyCabinet" "plan" "LKeyCabinet$Plan;", Cond.fieldLink RX2 23 "KeyCabinet" "ledger" "LKeyCabinet$Ledger;", Cond.methodLink RX2 243 yX0_keysHeldBy, Cond.instanceMethod yX0_keysHeldBy, Cond.selects RX0 yX0_keysHeldBy yX0_keysHeldBy, Cond.initialized RX0, Cond.code yX0_keysHeldBy cX0_keysHeldBy 4 (some .int), Cond.fieldLink RX0 33 "KeyCabinet$Ledger" "copies" "I", Cond.fieldLink RX0 11 "KeyCabinet$Ledger" "keyOf" "[I", Cond.methodLink RX0 48 yX0_holderOf, Cond.instanceMethod yX0_holderOf, Cond.selects RX0 yX0_holderOf yX0_holderOf, Cond.code yX0_holderOf cX0_holderOf 2 (some .int)]
def wsX2_reach_r2 : List Cond := [Cond.fieldLink RX0 15 "KeyCabinet$Ledger" "stateOf" "[I", Cond.fieldLink RX0 21 "KeyCabinet$Ledger" "loanPerson" "[I", Cond.methodLink RX0 37 yX0_lastLoan, Cond.instanceMethod yX0_lastLoan, Cond.selects RX0 yX0_lastLoan yX0_lastLoan, Cond.code yX0_lastLoan cX0_lastLoan 2 (some .int), Cond.fieldLink RX0 18 "KeyCabinet$Ledger" "timesLent" "[I", Cond.methodLink RX2 246 yX1_doorsOfAll, Cond.instanceMethod yX1_doorsOfAll, Cond.selects RX1 yX1_doorsOfAll yX1_doorsOfAll, Cond.initialized RX1, Cond.code yX1_doorsOfAll cX1_doorsOfAll 4 (some .int), Cond.fieldLink RX1 27 "KeyCabinet$Plan" "keys" "I", Cond.methodLink RX1 64 yX1_doorsOf, Cond.instanceMethod yX1_doorsOf, Cond.selects RX1 yX1_doorsOf yX1_doorsOf, Cond.code yX1_doorsOf cX1_doorsOf 4 (some .int), Cond.fieldLink RX1 31 "KeyCabinet$Plan" "doors" "I", Cond.methodLink RX1 61 yX1_keyOpens, Cond.instanceMethod yX1_keyOpens, Cond.selects RX1 yX1_keyOpens yX1_keyOpens, Cond.code yX1_keyOpens cX1_keyOpens 3 (some .boolean), Cond.fieldLink RX1 21 "KeyCabinet$Plan" "pinsOf" "[I", Cond.fieldLink RX1 15 "KeyCabinet$Plan" "teethOf" "[I"]
def wsX2_reach_r3 : List Cond := [Cond.static yX2_contains, Cond.code yX2_contains cX2_contains 2 (some .boolean)]
def wsX2_reach : List Cond := .code yX2_reach cX2_reach 2 (some .int) :: ((wsX2_reach_r1 ++ (wsX2_reach_r2 ++ wsX2_reach_r3)) ++ wsX20 ++ wsX00 ++ wsX10 ++ (vx_atS RX2 91 "java/lang/IndexOutOfBoundsException" ["java/lang/RuntimeException", "java/lang/Exception"]).filter goodWord)
def wsX2_risk_r1 : List Cond := [Cond.methodLink RX2 178 yX2_doorsAtRisk, Cond.instanceMethod yX2_doorsAtRisk, Cond.selects RX2 yX2_doorsAtRisk yX2_doorsAtRisk, Cond.initialized RX2, Cond.code yX2_doorsAtRisk cX2_doorsAtRisk 1 (some .int), Cond.fieldLink RX2 16 "KeyCabinet" "plan" "LKeyCabinet$Plan;", Cond.fieldLink RX2 23 "KeyCabinet" "ledger" "LKeyCabinet$Ledger;", Cond.methodLink RX2 249 yX0_keysLost, Cond.instanceMethod yX0_keysLost, Cond.selects RX0 yX0_keysLost yX0_keysLost, Cond.initialized RX0, Cond.code yX0_keysLost cX0_keysLost 3 (some .int), Cond.fieldLink RX0 33 "KeyCabinet$Ledger" "copies" "I", Cond.fieldLink RX0 15 "KeyCabinet$Ledger" "stateOf" "[I", Cond.fieldLink RX0 11 "KeyCabinet$Ledger" "keyOf" "[I", Cond.methodLink RX2 246 yX1_doorsOfAll, Cond.instanceMethod yX1_doorsOfAll, Cond.selects RX1 yX1_doorsOfAll yX1_doorsOfAll, Cond.initialized RX1, Cond.code yX1_doorsOfAll cX1_doorsOfAll 4 (some .int), Cond.fieldLink RX1 27 "KeyCabinet$Plan" "keys" "I", Cond.methodLink RX1 64 yX1_doorsOf, Cond.instanceMethod yX1_doorsOf, Cond.selects RX1 yX1_doorsOf yX1_doorsOf]
def wsX2_risk_r2 : List Cond := [Cond.code yX1_doorsOf cX1_doorsOf 4 (some .int), Cond.fieldLink RX1 31 "KeyCabinet$Plan" "doors" "I", Cond.methodLink RX1 61 yX1_keyOpens, Cond.instanceMethod yX1_keyOpens, Cond.selects RX1 yX1_keyOpens yX1_keyOpens, Cond.code yX1_keyOpens cX1_keyOpens 3 (some .boolean), Cond.fieldLink RX1 21 "KeyCabinet$Plan" "pinsOf" "[I", Cond.fieldLink RX1 15 "KeyCabinet$Plan" "teethOf" "[I", Cond.static yX2_contains, Cond.code yX2_contains cX2_contains 2 (some .boolean)]
def wsX2_risk : List Cond := .code yX2_risk cX2_risk 1 (some .int) :: ((wsX2_risk_r1 ++ wsX2_risk_r2) ++ wsX20 ++ wsX00 ++ wsX10)
def wsX2_doorsOpenedBy : List Cond := .code yX2_doorsOpenedBy cX2_doorsOpenedBy 4 (some .int) :: ([.fieldLink RX2 16 "KeyCabinet" "plan" "LKeyCabinet$Plan;", .fieldLink RX2 41 "KeyCabinet$Plan" "keys" "I", .fieldLink RX2 31 "KeyCabinet" "doorsOpened" "[I"] ++ wsX20 ++ wsX10)
def wsX2_copiesOf : List Cond := .code yX2_copiesOf cX2_copiesOf 4 (some .int) :: ([.fieldLink RX2 16 "KeyCabinet" "plan" "LKeyCabinet$Plan;", .fieldLink RX2 41 "KeyCabinet$Plan" "keys" "I", .fieldLink RX2 27 "KeyCabinet" "copyToLend" "[I"] ++ wsX20 ++ wsX10)
def wsX2_bestCopies : List Cond := .code yX2_bestCopies cX2_bestCopies 9 (some .int) :: ([.fieldLink RX2 16 "KeyCabinet" "plan" "LKeyCabinet$Plan;", .fieldLink RX2 41 "KeyCabinet$Plan" "keys" "I", .methodLink RX2 252 yX2_doorsOpenedBy, .instanceMethod yX2_doorsOpenedBy, .selects RX2 yX2_doorsOpenedBy yX2_doorsOpenedBy, .initialized RX2, .code yX2_doorsOpenedBy cX2_doorsOpenedBy 4 (some .int), .fieldLink RX2 31 "KeyCabinet" "doorsOpened" "[I", .methodLink RX2 113 yX2_contains, .static yX2_contains, .code yX2_contains cX2_contains 2 (some .boolean), .methodLink RX2 255 yX2_copiesOf, .instanceMethod yX2_copiesOf, .selects RX2 yX2_copiesOf yX2_copiesOf, .code yX2_copiesOf cX2_copiesOf 4 (some .int), .fieldLink RX2 27 "KeyCabinet" "copyToLend" "[I", .methodLink RX2 213 yJ6_bitCount_0f7a4, .static yJ6_bitCount_0f7a4, .initialized RJ6, .code yJ6_bitCount_0f7a4 cJ6_bitCount_0f7a4 1 (some .int), .constant RJ6 265 (1431655765), .constant RJ6 266 (858993459), .constant RJ6 267 (252645135)] ++ wsX20 ++ wsX10)
def wsX2_suggest_r1 : List Cond := [Cond.classLink RX2 34 "java/lang/IllegalArgumentException", Cond.initialized "java/lang/IllegalArgumentException", Cond.fieldLink RX2 16 "KeyCabinet" "plan" "LKeyCabinet$Plan;", Cond.fieldLink RX2 63 "KeyCabinet$Plan" "doors" "I", Cond.fieldLink RX2 41 "KeyCabinet$Plan" "keys" "I", Cond.fieldLink RX2 27 "KeyCabinet" "copyToLend" "[I", Cond.fieldLink RX2 23 "KeyCabinet" "ledger" "LKeyCabinet$Ledger;", Cond.fieldLink RX2 31 "KeyCabinet" "doorsOpened" "[I", Cond.methodLink RX2 139 yX2_needPerson, Cond.instanceMethod yX2_needPerson, Cond.selects RX2 yX2_needPerson yX2_needPerson, Cond.initialized RX2, Cond.code yX2_needPerson cX2_needPerson 2 none, Cond.classLink RX2 87 "java/lang/IndexOutOfBoundsException", Cond.initialized "java/lang/IndexOutOfBoundsException", Cond.methodLink RX2 202 yX2_isSetOf, Cond.static yX2_isSetOf, Cond.code yX2_isSetOf cX2_isSetOf 2 (some .boolean), Cond.methodLink RX2 207 yX0_firstToLend, Cond.instanceMethod yX0_firstToLend, Cond.selects RX0 yX0_firstToLend yX0_firstToLend, Cond.initialized RX0, Cond.code yX0_firstToLend cX0_firstToLend 3 (some .int), Cond.fieldLink RX0 33 "KeyCabinet$Ledger" "copies" "I"]
def wsX2_suggest_r2 : List Cond := [Cond.fieldLink RX0 11 "KeyCabinet$Ledger" "keyOf" "[I", Cond.methodLink RX0 51 yX0_canBeLent, Cond.instanceMethod yX0_canBeLent, Cond.selects RX0 yX0_canBeLent yX0_canBeLent, Cond.code yX0_canBeLent cX0_canBeLent 2 (some .boolean), Cond.fieldLink RX0 15 "KeyCabinet$Ledger" "stateOf" "[I", Cond.fieldLink RX0 18 "KeyCabinet$Ledger" "timesLent" "[I", Cond.methodLink RX2 103 yX1_doorsOf, Cond.instanceMethod yX1_doorsOf, Cond.selects RX1 yX1_doorsOf yX1_doorsOf, Cond.initialized RX1, Cond.code yX1_doorsOf cX1_doorsOf 4 (some .int), Cond.fieldLink RX1 31 "KeyCabinet$Plan" "doors" "I", Cond.methodLink RX1 61 yX1_keyOpens, Cond.instanceMethod yX1_keyOpens, Cond.selects RX1 yX1_keyOpens yX1_keyOpens, Cond.code yX1_keyOpens cX1_keyOpens 3 (some .boolean), Cond.fieldLink RX1 21 "KeyCabinet$Plan" "pinsOf" "[I", Cond.fieldLink RX1 15 "KeyCabinet$Plan" "teethOf" "[I", Cond.static yX2_contains, Cond.code yX2_contains cX2_contains 2 (some .boolean), Cond.methodLink RX2 199 yX2_doorsReached, Cond.instanceMethod yX2_doorsReached, Cond.selects RX2 yX2_doorsReached yX2_doorsReached]
def wsX2_suggest_r3 : List Cond := [Cond.code yX2_doorsReached cX2_doorsReached 2 (some .int), Cond.methodLink RX2 243 yX0_keysHeldBy, Cond.instanceMethod yX0_keysHeldBy, Cond.selects RX0 yX0_keysHeldBy yX0_keysHeldBy, Cond.code yX0_keysHeldBy cX0_keysHeldBy 4 (some .int), Cond.methodLink RX0 48 yX0_holderOf, Cond.instanceMethod yX0_holderOf, Cond.selects RX0 yX0_holderOf yX0_holderOf, Cond.code yX0_holderOf cX0_holderOf 2 (some .int), Cond.fieldLink RX0 21 "KeyCabinet$Ledger" "loanPerson" "[I", Cond.methodLink RX0 37 yX0_lastLoan, Cond.instanceMethod yX0_lastLoan, Cond.selects RX0 yX0_lastLoan yX0_lastLoan, Cond.code yX0_lastLoan cX0_lastLoan 2 (some .int), Cond.methodLink RX2 246 yX1_doorsOfAll, Cond.instanceMethod yX1_doorsOfAll, Cond.selects RX1 yX1_doorsOfAll yX1_doorsOfAll, Cond.code yX1_doorsOfAll cX1_doorsOfAll 4 (some .int), Cond.fieldLink RX1 27 "KeyCabinet$Plan" "keys" "I", Cond.methodLink RX1 64 yX1_doorsOf, Cond.methodLink RX2 210 yX2_bestCopies, Cond.instanceMethod yX2_bestCopies, Cond.selects RX2 yX2_bestCopies yX2_bestCopies, Cond.code yX2_bestCopies cX2_bestCopies 9 (some .int)]
def wsX2_suggest_r4 : List Cond := [Cond.methodLink RX2 252 yX2_doorsOpenedBy, Cond.instanceMethod yX2_doorsOpenedBy, Cond.selects RX2 yX2_doorsOpenedBy yX2_doorsOpenedBy, Cond.code yX2_doorsOpenedBy cX2_doorsOpenedBy 4 (some .int), Cond.methodLink RX2 113 yX2_contains, Cond.methodLink RX2 255 yX2_copiesOf, Cond.instanceMethod yX2_copiesOf, Cond.selects RX2 yX2_copiesOf yX2_copiesOf, Cond.code yX2_copiesOf cX2_copiesOf 4 (some .int), Cond.methodLink RX2 213 yJ6_bitCount_0f7a4, Cond.static yJ6_bitCount_0f7a4, Cond.initialized RJ6, Cond.code yJ6_bitCount_0f7a4 cJ6_bitCount_0f7a4 1 (some .int), Cond.constant RJ6 265 (1431655765), Cond.constant RJ6 266 (858993459), Cond.constant RJ6 267 (252645135)]
def wsX2_suggest : List Cond := .code yX2_suggest cX2_suggest 4 (some .int) :: ((wsX2_suggest_r1 ++ (wsX2_suggest_r2 ++ (wsX2_suggest_r3 ++ wsX2_suggest_r4))) ++ wsX20 ++ wsX10 ++ wsX00 ++ (vx_atS RX2 38 "java/lang/IllegalArgumentException" ["java/lang/RuntimeException", "java/lang/Exception"]).filter goodWord ++ (vx_atS RX2 91 "java/lang/IndexOutOfBoundsException" ["java/lang/RuntimeException", "java/lang/Exception"]).filter goodWord)
def wsX2_exposure_r1 : List Cond := [Cond.fieldLink RX2 16 "KeyCabinet" "plan" "LKeyCabinet$Plan;", Cond.fieldLink RX2 63 "KeyCabinet$Plan" "doors" "I", Cond.methodLink RX2 178 yX2_doorsAtRisk, Cond.instanceMethod yX2_doorsAtRisk, Cond.selects RX2 yX2_doorsAtRisk yX2_doorsAtRisk, Cond.initialized RX2, Cond.code yX2_doorsAtRisk cX2_doorsAtRisk 1 (some .int), Cond.fieldLink RX2 23 "KeyCabinet" "ledger" "LKeyCabinet$Ledger;", Cond.methodLink RX2 249 yX0_keysLost, Cond.instanceMethod yX0_keysLost, Cond.selects RX0 yX0_keysLost yX0_keysLost, Cond.initialized RX0, Cond.code yX0_keysLost cX0_keysLost 3 (some .int), Cond.fieldLink RX0 33 "KeyCabinet$Ledger" "copies" "I", Cond.fieldLink RX0 15 "KeyCabinet$Ledger" "stateOf" "[I", Cond.fieldLink RX0 11 "KeyCabinet$Ledger" "keyOf" "[I", Cond.methodLink RX2 246 yX1_doorsOfAll, Cond.instanceMethod yX1_doorsOfAll, Cond.selects RX1 yX1_doorsOfAll yX1_doorsOfAll, Cond.initialized RX1, Cond.code yX1_doorsOfAll cX1_doorsOfAll 4 (some .int), Cond.fieldLink RX1 27 "KeyCabinet$Plan" "keys" "I", Cond.methodLink RX1 64 yX1_doorsOf, Cond.instanceMethod yX1_doorsOf]
def wsX2_exposure_r2 : List Cond := [Cond.selects RX1 yX1_doorsOf yX1_doorsOf, Cond.code yX1_doorsOf cX1_doorsOf 4 (some .int), Cond.fieldLink RX1 31 "KeyCabinet$Plan" "doors" "I", Cond.methodLink RX1 61 yX1_keyOpens, Cond.instanceMethod yX1_keyOpens, Cond.selects RX1 yX1_keyOpens yX1_keyOpens, Cond.code yX1_keyOpens cX1_keyOpens 3 (some .boolean), Cond.fieldLink RX1 21 "KeyCabinet$Plan" "pinsOf" "[I", Cond.fieldLink RX1 15 "KeyCabinet$Plan" "teethOf" "[I", Cond.static yX2_contains, Cond.code yX2_contains cX2_contains 2 (some .boolean), Cond.methodLink RX2 199 yX2_doorsReached, Cond.instanceMethod yX2_doorsReached, Cond.selects RX2 yX2_doorsReached yX2_doorsReached, Cond.code yX2_doorsReached cX2_doorsReached 2 (some .int), Cond.methodLink RX2 243 yX0_keysHeldBy, Cond.instanceMethod yX0_keysHeldBy, Cond.selects RX0 yX0_keysHeldBy yX0_keysHeldBy, Cond.code yX0_keysHeldBy cX0_keysHeldBy 4 (some .int), Cond.methodLink RX0 48 yX0_holderOf, Cond.instanceMethod yX0_holderOf, Cond.selects RX0 yX0_holderOf yX0_holderOf, Cond.code yX0_holderOf cX0_holderOf 2 (some .int), Cond.fieldLink RX0 21 "KeyCabinet$Ledger" "loanPerson" "[I"]
def wsX2_exposure_r3 : List Cond := [Cond.methodLink RX0 37 yX0_lastLoan, Cond.instanceMethod yX0_lastLoan, Cond.selects RX0 yX0_lastLoan yX0_lastLoan, Cond.code yX0_lastLoan cX0_lastLoan 2 (some .int), Cond.fieldLink RX0 18 "KeyCabinet$Ledger" "timesLent" "[I", Cond.methodLink RX2 213 yJ6_bitCount_0f7a4, Cond.static yJ6_bitCount_0f7a4, Cond.initialized RJ6, Cond.code yJ6_bitCount_0f7a4 cJ6_bitCount_0f7a4 1 (some .int), Cond.constant RJ6 265 (1431655765), Cond.constant RJ6 266 (858993459), Cond.constant RJ6 267 (252645135)]
def wsX2_exposure : List Cond := .code yX2_exposure cX2_exposure 3 (some .double) :: ((wsX2_exposure_r1 ++ (wsX2_exposure_r2 ++ wsX2_exposure_r3)) ++ wsX20 ++ wsX10 ++ wsX00)
def wsX2_mix : List Cond := .code yX2_mix cX2_mix 4 (some .long) :: ([.constantLong RX2 258 (31)])
def wsX2_mixDoor : List Cond := .code yX2_mixDoor cX2_mixDoor 7 (some .long) :: ([.fieldLink RX2 16 "KeyCabinet" "plan" "LKeyCabinet$Plan;", .fieldLink RX2 74 "KeyCabinet$Plan" "rightsOf" "[I", .methodLink RX2 220 yX2_mix, .static yX2_mix, .initialized RX2, .code yX2_mix cX2_mix 4 (some .long), .constantLong RX2 258 (31), .methodLink RX2 92 yX1_pinsAt, .instanceMethod yX1_pinsAt, .selects RX1 yX1_pinsAt yX1_pinsAt, .initialized RX1, .code yX1_pinsAt cX1_pinsAt 3 (some .int), .fieldLink RX1 21 "KeyCabinet$Plan" "pinsOf" "[I"] ++ wsX20 ++ wsX10)
def wsX2_mixCopy_r1 : List Cond := [Cond.fieldLink RX2 23 "KeyCabinet" "ledger" "LKeyCabinet$Ledger;", Cond.fieldLink RX2 173 "KeyCabinet$Ledger" "keyOf" "[I", Cond.fieldLink RX2 154 "KeyCabinet$Ledger" "stateOf" "[I", Cond.fieldLink RX2 186 "KeyCabinet$Ledger" "timesLent" "[I", Cond.methodLink RX2 220 yX2_mix, Cond.static yX2_mix, Cond.initialized RX2, Cond.code yX2_mix cX2_mix 4 (some .long), Cond.constantLong RX2 258 (31), Cond.methodLink RX2 183 yX0_holderOf, Cond.instanceMethod yX0_holderOf, Cond.selects RX0 yX0_holderOf yX0_holderOf, Cond.initialized RX0, Cond.code yX0_holderOf cX0_holderOf 2 (some .int), Cond.fieldLink RX0 15 "KeyCabinet$Ledger" "stateOf" "[I", Cond.fieldLink RX0 21 "KeyCabinet$Ledger" "loanPerson" "[I", Cond.methodLink RX0 37 yX0_lastLoan, Cond.instanceMethod yX0_lastLoan, Cond.selects RX0 yX0_lastLoan yX0_lastLoan, Cond.code yX0_lastLoan cX0_lastLoan 2 (some .int), Cond.fieldLink RX0 18 "KeyCabinet$Ledger" "timesLent" "[I", Cond.methodLink RX2 159 yX0_dueOf, Cond.instanceMethod yX0_dueOf, Cond.selects RX0 yX0_dueOf yX0_dueOf]
def wsX2_mixCopy_r2 : List Cond := [Cond.code yX0_dueOf cX0_dueOf 2 (some .int), Cond.fieldLink RX0 27 "KeyCabinet$Ledger" "loanDue" "[I"]
def wsX2_mixCopy : List Cond := .code yX2_mixCopy cX2_mixCopy 6 (some .long) :: ((wsX2_mixCopy_r1 ++ wsX2_mixCopy_r2) ++ wsX20 ++ wsX00)
def wsX2_digest_r1 : List Cond := [Cond.constantLong RX2 218 (173), Cond.fieldLink RX2 16 "KeyCabinet" "plan" "LKeyCabinet$Plan;", Cond.fieldLink RX2 41 "KeyCabinet$Plan" "keys" "I", Cond.fieldLink RX2 84 "KeyCabinet$Plan" "codeOf" "[I", Cond.fieldLink RX2 63 "KeyCabinet$Plan" "doors" "I", Cond.fieldLink RX2 116 "KeyCabinet$Plan" "pinsMoved" "I", Cond.fieldLink RX2 7 "KeyCabinet" "day" "I", Cond.fieldLink RX2 23 "KeyCabinet" "ledger" "LKeyCabinet$Ledger;", Cond.fieldLink RX2 128 "KeyCabinet$Ledger" "copies" "I", Cond.methodLink RX2 220 yX2_mix, Cond.static yX2_mix, Cond.initialized RX2, Cond.code yX2_mix cX2_mix 4 (some .long), Cond.constantLong RX2 258 (31), Cond.methodLink RX2 224 yX2_mixDoor, Cond.instanceMethod yX2_mixDoor, Cond.selects RX2 yX2_mixDoor yX2_mixDoor, Cond.code yX2_mixDoor cX2_mixDoor 7 (some .long), Cond.fieldLink RX2 74 "KeyCabinet$Plan" "rightsOf" "[I", Cond.methodLink RX2 92 yX1_pinsAt, Cond.instanceMethod yX1_pinsAt, Cond.selects RX1 yX1_pinsAt yX1_pinsAt, Cond.initialized RX1, Cond.code yX1_pinsAt cX1_pinsAt 3 (some .int)]
def wsX2_digest_r2 : List Cond := [Cond.fieldLink RX1 21 "KeyCabinet$Plan" "pinsOf" "[I", Cond.methodLink RX2 228 yX2_mixCopy, Cond.instanceMethod yX2_mixCopy, Cond.selects RX2 yX2_mixCopy yX2_mixCopy, Cond.code yX2_mixCopy cX2_mixCopy 6 (some .long), Cond.fieldLink RX2 173 "KeyCabinet$Ledger" "keyOf" "[I", Cond.fieldLink RX2 154 "KeyCabinet$Ledger" "stateOf" "[I", Cond.fieldLink RX2 186 "KeyCabinet$Ledger" "timesLent" "[I", Cond.methodLink RX2 183 yX0_holderOf, Cond.instanceMethod yX0_holderOf, Cond.selects RX0 yX0_holderOf yX0_holderOf, Cond.initialized RX0, Cond.code yX0_holderOf cX0_holderOf 2 (some .int), Cond.fieldLink RX0 15 "KeyCabinet$Ledger" "stateOf" "[I", Cond.fieldLink RX0 21 "KeyCabinet$Ledger" "loanPerson" "[I", Cond.methodLink RX0 37 yX0_lastLoan, Cond.instanceMethod yX0_lastLoan, Cond.selects RX0 yX0_lastLoan yX0_lastLoan, Cond.code yX0_lastLoan cX0_lastLoan 2 (some .int), Cond.fieldLink RX0 18 "KeyCabinet$Ledger" "timesLent" "[I", Cond.methodLink RX2 159 yX0_dueOf, Cond.instanceMethod yX0_dueOf, Cond.selects RX0 yX0_dueOf yX0_dueOf, Cond.code yX0_dueOf cX0_dueOf 2 (some .int)]
def wsX2_digest_r3 : List Cond := [Cond.fieldLink RX0 27 "KeyCabinet$Ledger" "loanDue" "[I"]
def wsX2_digest : List Cond := .code yX2_digest cX2_digest 4 (some .long) :: ((wsX2_digest_r1 ++ (wsX2_digest_r2 ++ wsX2_digest_r3)) ++ wsX20 ++ wsX10 ++ wsX00)
def wsX3_init : List Cond := .code yX3_init cX3_init 1 none :: ([.methodLink RX3 1 objectInit, .instanceMethod objectInit, .code objectInit ⟨#[0xb1]⟩ 1 none, .arrayClass .int, .fieldLink RX3 9 "KeyCabinetModel" "codes" "[I", .fieldLink RX3 13 "KeyCabinetModel" "rights" "[I", .fieldLink RX3 16 "KeyCabinetModel" "copyKeys" "[I", .fieldLink RX3 19 "KeyCabinetModel" "states" "[I", .fieldLink RX3 22 "KeyCabinetModel" "dues" "[I", .fieldLink RX3 25 "KeyCabinetModel" "times" "[I", .fieldLink RX3 28 "KeyCabinetModel" "persons" "[I", .fieldLink RX3 31 "KeyCabinetModel" "begins" "[I", .fieldLink RX3 34 "KeyCabinetModel" "ends" "[I"] ++ wsX30)
def wsX3_thrown : List Cond := .code yX3_thrown cX3_thrown 1 (some .int) :: ([.fieldLink RX3 37 "KeyCabinetModel" "thrown" "I"] ++ wsX30)
def wsX3_fail : List Cond := .code yX3_fail cX3_fail 2 (some .int) :: ([.fieldLink RX3 37 "KeyCabinetModel" "thrown" "I"] ++ wsX30)
def wsX3_isKey : List Cond := .code yX3_isKey cX3_isKey 2 (some .boolean) :: ([.fieldLink RX3 41 "KeyCabinetModel" "keys" "I"] ++ wsX30)
def wsX3_isDoor : List Cond := .code yX3_isDoor cX3_isDoor 2 (some .boolean) :: ([.fieldLink RX3 44 "KeyCabinetModel" "doors" "I"] ++ wsX30)
def wsX3_isCopy : List Cond := .code yX3_isCopy cX3_isCopy 2 (some .boolean) :: ([.fieldLink RX3 47 "KeyCabinetModel" "copies" "I"] ++ wsX30)
def wsX3_isPerson : List Cond := .code yX3_isPerson cX3_isPerson 1 (some .boolean) :: ([])
def wsX3_areKeys : List Cond := .code yX3_areKeys cX3_areKeys 2 (some .boolean) :: ([.fieldLink RX3 41 "KeyCabinetModel" "keys" "I"] ++ wsX30)
def wsX3_has : List Cond := .code yX3_has cX3_has 2 (some .boolean) :: ([])
def wsX3_digit : List Cond := .code yX3_digit cX3_digit 2 (some .int) :: ([])
def wsX3_pinsOf : List Cond := .code yX3_pinsOf cX3_pinsOf 5 (some .int) :: ([.fieldLink RX3 41 "KeyCabinetModel" "keys" "I", .fieldLink RX3 13 "KeyCabinetModel" "rights" "[I", .fieldLink RX3 9 "KeyCabinetModel" "codes" "[I", .methodLink RX3 50 yX3_has, .static yX3_has, .initialized RX3, .code yX3_has cX3_has 2 (some .boolean), .methodLink RX3 54 yX3_digit, .static yX3_digit, .code yX3_digit cX3_digit 2 (some .int)] ++ wsX30)
def wsX3_allPins : List Cond := .code yX3_allPins cX3_allPins 4 (some .int) :: ([.methodLink RX3 58 yX3_pinsOf, .instanceMethod yX3_pinsOf, .selects RX3 yX3_pinsOf yX3_pinsOf, .initialized RX3, .code yX3_pinsOf cX3_pinsOf 5 (some .int), .fieldLink RX3 41 "KeyCabinetModel" "keys" "I", .fieldLink RX3 13 "KeyCabinetModel" "rights" "[I", .fieldLink RX3 9 "KeyCabinetModel" "codes" "[I", .methodLink RX3 50 yX3_has, .static yX3_has, .code yX3_has cX3_has 2 (some .boolean), .methodLink RX3 54 yX3_digit, .static yX3_digit, .code yX3_digit cX3_digit 2 (some .int)] ++ wsX30)
def wsX3_opensWith : List Cond := .code yX3_opensWith cX3_opensWith 5 (some .boolean) :: ([.methodLink RX3 58 yX3_pinsOf, .instanceMethod yX3_pinsOf, .selects RX3 yX3_pinsOf yX3_pinsOf, .initialized RX3, .code yX3_pinsOf cX3_pinsOf 5 (some .int), .fieldLink RX3 41 "KeyCabinetModel" "keys" "I", .fieldLink RX3 13 "KeyCabinetModel" "rights" "[I", .fieldLink RX3 9 "KeyCabinetModel" "codes" "[I", .methodLink RX3 50 yX3_has, .static yX3_has, .code yX3_has cX3_has 2 (some .boolean), .methodLink RX3 54 yX3_digit, .static yX3_digit, .code yX3_digit cX3_digit 2 (some .int)] ++ wsX30)
def wsX3_doorsOf : List Cond := .code yX3_doorsOf cX3_doorsOf 4 (some .int) :: ([.fieldLink RX3 44 "KeyCabinetModel" "doors" "I", .methodLink RX3 61 yX3_opensWith, .instanceMethod yX3_opensWith, .selects RX3 yX3_opensWith yX3_opensWith, .initialized RX3, .code yX3_opensWith cX3_opensWith 5 (some .boolean), .methodLink RX3 58 yX3_pinsOf, .instanceMethod yX3_pinsOf, .selects RX3 yX3_pinsOf yX3_pinsOf, .code yX3_pinsOf cX3_pinsOf 5 (some .int), .fieldLink RX3 41 "KeyCabinetModel" "keys" "I", .fieldLink RX3 13 "KeyCabinetModel" "rights" "[I", .fieldLink RX3 9 "KeyCabinetModel" "codes" "[I", .methodLink RX3 50 yX3_has, .static yX3_has, .code yX3_has cX3_has 2 (some .boolean), .methodLink RX3 54 yX3_digit, .static yX3_digit, .code yX3_digit cX3_digit 2 (some .int)] ++ wsX30)
def wsX3_strayCount : List Cond := .code yX3_strayCount cX3_strayCount 4 (some .int) :: ([.fieldLink RX3 41 "KeyCabinetModel" "keys" "I", .fieldLink RX3 44 "KeyCabinetModel" "doors" "I", .fieldLink RX3 9 "KeyCabinetModel" "codes" "[I", .fieldLink RX3 13 "KeyCabinetModel" "rights" "[I", .methodLink RX3 61 yX3_opensWith, .instanceMethod yX3_opensWith, .selects RX3 yX3_opensWith yX3_opensWith, .initialized RX3, .code yX3_opensWith cX3_opensWith 5 (some .boolean), .methodLink RX3 58 yX3_pinsOf, .instanceMethod yX3_pinsOf, .selects RX3 yX3_pinsOf yX3_pinsOf, .code yX3_pinsOf cX3_pinsOf 5 (some .int), .methodLink RX3 50 yX3_has, .static yX3_has, .code yX3_has cX3_has 2 (some .boolean), .methodLink RX3 54 yX3_digit, .static yX3_digit, .code yX3_digit cX3_digit 2 (some .int)] ++ wsX30)
def wsX3_addKey : List Cond := .code yX3_addKey cX3_addKey 3 (some .int) :: ([.fieldLink RX3 37 "KeyCabinetModel" "thrown" "I", .fieldLink RX3 41 "KeyCabinetModel" "keys" "I", .fieldLink RX3 9 "KeyCabinetModel" "codes" "[I", .methodLink RX3 64 yX3_fail, .instanceMethod yX3_fail, .selects RX3 yX3_fail yX3_fail, .initialized RX3, .code yX3_fail cX3_fail 2 (some .int)] ++ wsX30)
def wsX3_addDoor_r1 : List Cond := [Cond.fieldLink RX3 37 "KeyCabinetModel" "thrown" "I", Cond.fieldLink RX3 44 "KeyCabinetModel" "doors" "I", Cond.fieldLink RX3 13 "KeyCabinetModel" "rights" "[I", Cond.fieldLink RX3 72 "KeyCabinetModel" "work" "I", Cond.methodLink RX3 68 yX3_areKeys, Cond.instanceMethod yX3_areKeys, Cond.selects RX3 yX3_areKeys yX3_areKeys, Cond.initialized RX3, Cond.code yX3_areKeys cX3_areKeys 2 (some .boolean), Cond.fieldLink RX3 41 "KeyCabinetModel" "keys" "I", Cond.methodLink RX3 64 yX3_fail, Cond.instanceMethod yX3_fail, Cond.selects RX3 yX3_fail yX3_fail, Cond.code yX3_fail cX3_fail 2 (some .int), Cond.methodLink RX3 75 yX3_allPins, Cond.instanceMethod yX3_allPins, Cond.selects RX3 yX3_allPins yX3_allPins, Cond.code yX3_allPins cX3_allPins 4 (some .int), Cond.methodLink RX3 58 yX3_pinsOf, Cond.instanceMethod yX3_pinsOf, Cond.selects RX3 yX3_pinsOf yX3_pinsOf, Cond.code yX3_pinsOf cX3_pinsOf 5 (some .int), Cond.fieldLink RX3 9 "KeyCabinetModel" "codes" "[I", Cond.methodLink RX3 50 yX3_has]
def wsX3_addDoor_r2 : List Cond := [Cond.static yX3_has, Cond.code yX3_has cX3_has 2 (some .boolean), Cond.methodLink RX3 54 yX3_digit, Cond.static yX3_digit, Cond.code yX3_digit cX3_digit 2 (some .int), Cond.methodLink RX3 78 yJ6_bitCount_0f7a4, Cond.static yJ6_bitCount_0f7a4, Cond.initialized RJ6, Cond.code yJ6_bitCount_0f7a4 cJ6_bitCount_0f7a4 1 (some .int), Cond.constant RJ6 265 (1431655765), Cond.constant RJ6 266 (858993459), Cond.constant RJ6 267 (252645135)]
def wsX3_addDoor : List Cond := .code yX3_addDoor cX3_addDoor 2 (some .int) :: ((wsX3_addDoor_r1 ++ wsX3_addDoor_r2) ++ wsX30)
def wsX3_setRights_r1 : List Cond := [Cond.fieldLink RX3 37 "KeyCabinetModel" "thrown" "I", Cond.fieldLink RX3 13 "KeyCabinetModel" "rights" "[I", Cond.fieldLink RX3 72 "KeyCabinetModel" "work" "I", Cond.methodLink RX3 83 yX3_isDoor, Cond.instanceMethod yX3_isDoor, Cond.selects RX3 yX3_isDoor yX3_isDoor, Cond.initialized RX3, Cond.code yX3_isDoor cX3_isDoor 2 (some .boolean), Cond.fieldLink RX3 44 "KeyCabinetModel" "doors" "I", Cond.methodLink RX3 64 yX3_fail, Cond.instanceMethod yX3_fail, Cond.selects RX3 yX3_fail yX3_fail, Cond.code yX3_fail cX3_fail 2 (some .int), Cond.methodLink RX3 68 yX3_areKeys, Cond.instanceMethod yX3_areKeys, Cond.selects RX3 yX3_areKeys yX3_areKeys, Cond.code yX3_areKeys cX3_areKeys 2 (some .boolean), Cond.fieldLink RX3 41 "KeyCabinetModel" "keys" "I", Cond.methodLink RX3 75 yX3_allPins, Cond.instanceMethod yX3_allPins, Cond.selects RX3 yX3_allPins yX3_allPins, Cond.code yX3_allPins cX3_allPins 4 (some .int), Cond.methodLink RX3 58 yX3_pinsOf, Cond.instanceMethod yX3_pinsOf]
def wsX3_setRights_r2 : List Cond := [Cond.selects RX3 yX3_pinsOf yX3_pinsOf, Cond.code yX3_pinsOf cX3_pinsOf 5 (some .int), Cond.fieldLink RX3 9 "KeyCabinetModel" "codes" "[I", Cond.methodLink RX3 50 yX3_has, Cond.static yX3_has, Cond.code yX3_has cX3_has 2 (some .boolean), Cond.methodLink RX3 54 yX3_digit, Cond.static yX3_digit, Cond.code yX3_digit cX3_digit 2 (some .int), Cond.methodLink RX3 78 yJ6_bitCount_0f7a4, Cond.static yJ6_bitCount_0f7a4, Cond.initialized RJ6, Cond.code yJ6_bitCount_0f7a4 cJ6_bitCount_0f7a4 1 (some .int), Cond.constant RJ6 265 (1431655765), Cond.constant RJ6 266 (858993459), Cond.constant RJ6 267 (252645135)]
def wsX3_setRights : List Cond := .code yX3_setRights cX3_setRights 5 (some .int) :: ((wsX3_setRights_r1 ++ wsX3_setRights_r2) ++ wsX30)
def wsX3_keyCount : List Cond := .code yX3_keyCount cX3_keyCount 1 (some .int) :: ([.fieldLink RX3 37 "KeyCabinetModel" "thrown" "I", .fieldLink RX3 41 "KeyCabinetModel" "keys" "I"] ++ wsX30)
def wsX3_doorCount : List Cond := .code yX3_doorCount cX3_doorCount 1 (some .int) :: ([.fieldLink RX3 37 "KeyCabinetModel" "thrown" "I", .fieldLink RX3 44 "KeyCabinetModel" "doors" "I"] ++ wsX30)
def wsX3_code : List Cond := .code yX3_code cX3_code 2 (some .int) :: ([.fieldLink RX3 37 "KeyCabinetModel" "thrown" "I", .fieldLink RX3 9 "KeyCabinetModel" "codes" "[I", .methodLink RX3 86 yX3_isKey, .instanceMethod yX3_isKey, .selects RX3 yX3_isKey yX3_isKey, .initialized RX3, .code yX3_isKey cX3_isKey 2 (some .boolean), .fieldLink RX3 41 "KeyCabinetModel" "keys" "I", .methodLink RX3 64 yX3_fail, .instanceMethod yX3_fail, .selects RX3 yX3_fail yX3_fail, .code yX3_fail cX3_fail 2 (some .int)] ++ wsX30)
def wsX3_pins : List Cond := .code yX3_pins cX3_pins 3 (some .int) :: ([.fieldLink RX3 37 "KeyCabinetModel" "thrown" "I", .methodLink RX3 83 yX3_isDoor, .instanceMethod yX3_isDoor, .selects RX3 yX3_isDoor yX3_isDoor, .initialized RX3, .code yX3_isDoor cX3_isDoor 2 (some .boolean), .fieldLink RX3 44 "KeyCabinetModel" "doors" "I", .methodLink RX3 58 yX3_pinsOf, .instanceMethod yX3_pinsOf, .selects RX3 yX3_pinsOf yX3_pinsOf, .code yX3_pinsOf cX3_pinsOf 5 (some .int), .fieldLink RX3 41 "KeyCabinetModel" "keys" "I", .fieldLink RX3 13 "KeyCabinetModel" "rights" "[I", .fieldLink RX3 9 "KeyCabinetModel" "codes" "[I", .methodLink RX3 50 yX3_has, .static yX3_has, .code yX3_has cX3_has 2 (some .boolean), .methodLink RX3 54 yX3_digit, .static yX3_digit, .code yX3_digit cX3_digit 2 (some .int), .methodLink RX3 64 yX3_fail, .instanceMethod yX3_fail, .selects RX3 yX3_fail yX3_fail, .code yX3_fail cX3_fail 2 (some .int)] ++ wsX30)
def wsX3_opens_r1 : List Cond := [Cond.fieldLink RX3 37 "KeyCabinetModel" "thrown" "I", Cond.fieldLink RX3 9 "KeyCabinetModel" "codes" "[I", Cond.methodLink RX3 86 yX3_isKey, Cond.instanceMethod yX3_isKey, Cond.selects RX3 yX3_isKey yX3_isKey, Cond.initialized RX3, Cond.code yX3_isKey cX3_isKey 2 (some .boolean), Cond.fieldLink RX3 41 "KeyCabinetModel" "keys" "I", Cond.methodLink RX3 83 yX3_isDoor, Cond.instanceMethod yX3_isDoor, Cond.selects RX3 yX3_isDoor yX3_isDoor, Cond.code yX3_isDoor cX3_isDoor 2 (some .boolean), Cond.fieldLink RX3 44 "KeyCabinetModel" "doors" "I", Cond.methodLink RX3 61 yX3_opensWith, Cond.instanceMethod yX3_opensWith, Cond.selects RX3 yX3_opensWith yX3_opensWith, Cond.code yX3_opensWith cX3_opensWith 5 (some .boolean), Cond.methodLink RX3 58 yX3_pinsOf, Cond.instanceMethod yX3_pinsOf, Cond.selects RX3 yX3_pinsOf yX3_pinsOf, Cond.code yX3_pinsOf cX3_pinsOf 5 (some .int), Cond.fieldLink RX3 13 "KeyCabinetModel" "rights" "[I", Cond.methodLink RX3 50 yX3_has, Cond.static yX3_has]
def wsX3_opens_r2 : List Cond := [Cond.code yX3_has cX3_has 2 (some .boolean), Cond.methodLink RX3 54 yX3_digit, Cond.static yX3_digit, Cond.code yX3_digit cX3_digit 2 (some .int)]
def wsX3_opens : List Cond := .code yX3_opens cX3_opens 3 (some .boolean) :: ((wsX3_opens_r1 ++ wsX3_opens_r2) ++ wsX30)
def wsX3_openers_r1 : List Cond := [Cond.fieldLink RX3 37 "KeyCabinetModel" "thrown" "I", Cond.fieldLink RX3 41 "KeyCabinetModel" "keys" "I", Cond.fieldLink RX3 9 "KeyCabinetModel" "codes" "[I", Cond.methodLink RX3 83 yX3_isDoor, Cond.instanceMethod yX3_isDoor, Cond.selects RX3 yX3_isDoor yX3_isDoor, Cond.initialized RX3, Cond.code yX3_isDoor cX3_isDoor 2 (some .boolean), Cond.fieldLink RX3 44 "KeyCabinetModel" "doors" "I", Cond.methodLink RX3 64 yX3_fail, Cond.instanceMethod yX3_fail, Cond.selects RX3 yX3_fail yX3_fail, Cond.code yX3_fail cX3_fail 2 (some .int), Cond.methodLink RX3 61 yX3_opensWith, Cond.instanceMethod yX3_opensWith, Cond.selects RX3 yX3_opensWith yX3_opensWith, Cond.code yX3_opensWith cX3_opensWith 5 (some .boolean), Cond.methodLink RX3 58 yX3_pinsOf, Cond.instanceMethod yX3_pinsOf, Cond.selects RX3 yX3_pinsOf yX3_pinsOf, Cond.code yX3_pinsOf cX3_pinsOf 5 (some .int), Cond.fieldLink RX3 13 "KeyCabinetModel" "rights" "[I", Cond.methodLink RX3 50 yX3_has, Cond.static yX3_has]
def wsX3_openers_r2 : List Cond := [Cond.code yX3_has cX3_has 2 (some .boolean), Cond.methodLink RX3 54 yX3_digit, Cond.static yX3_digit, Cond.code yX3_digit cX3_digit 2 (some .int)]
def wsX3_openers : List Cond := .code yX3_openers cX3_openers 4 (some .int) :: ((wsX3_openers_r1 ++ wsX3_openers_r2) ++ wsX30)
def wsX3_doors_r1 : List Cond := [Cond.fieldLink RX3 37 "KeyCabinetModel" "thrown" "I", Cond.fieldLink RX3 9 "KeyCabinetModel" "codes" "[I", Cond.methodLink RX3 86 yX3_isKey, Cond.instanceMethod yX3_isKey, Cond.selects RX3 yX3_isKey yX3_isKey, Cond.initialized RX3, Cond.code yX3_isKey cX3_isKey 2 (some .boolean), Cond.fieldLink RX3 41 "KeyCabinetModel" "keys" "I", Cond.methodLink RX3 89 yX3_doorsOf, Cond.instanceMethod yX3_doorsOf, Cond.selects RX3 yX3_doorsOf yX3_doorsOf, Cond.code yX3_doorsOf cX3_doorsOf 4 (some .int), Cond.fieldLink RX3 44 "KeyCabinetModel" "doors" "I", Cond.methodLink RX3 61 yX3_opensWith, Cond.instanceMethod yX3_opensWith, Cond.selects RX3 yX3_opensWith yX3_opensWith, Cond.code yX3_opensWith cX3_opensWith 5 (some .boolean), Cond.methodLink RX3 58 yX3_pinsOf, Cond.instanceMethod yX3_pinsOf, Cond.selects RX3 yX3_pinsOf yX3_pinsOf, Cond.code yX3_pinsOf cX3_pinsOf 5 (some .int), Cond.fieldLink RX3 13 "KeyCabinetModel" "rights" "[I", Cond.methodLink RX3 50 yX3_has, Cond.static yX3_has]
def wsX3_doors_r2 : List Cond := [Cond.code yX3_has cX3_has 2 (some .boolean), Cond.methodLink RX3 54 yX3_digit, Cond.static yX3_digit, Cond.code yX3_digit cX3_digit 2 (some .int), Cond.methodLink RX3 64 yX3_fail, Cond.instanceMethod yX3_fail, Cond.selects RX3 yX3_fail yX3_fail, Cond.code yX3_fail cX3_fail 2 (some .int)]
def wsX3_doors : List Cond := .code yX3_doors cX3_doors 2 (some .int) :: ((wsX3_doors_r1 ++ wsX3_doors_r2) ++ wsX30)
def wsX3_strays : List Cond := .code yX3_strays cX3_strays 1 (some .int) :: ([.fieldLink RX3 37 "KeyCabinetModel" "thrown" "I", .methodLink RX3 92 yX3_strayCount, .instanceMethod yX3_strayCount, .selects RX3 yX3_strayCount yX3_strayCount, .initialized RX3, .code yX3_strayCount cX3_strayCount 4 (some .int), .fieldLink RX3 41 "KeyCabinetModel" "keys" "I", .fieldLink RX3 44 "KeyCabinetModel" "doors" "I", .fieldLink RX3 9 "KeyCabinetModel" "codes" "[I", .fieldLink RX3 13 "KeyCabinetModel" "rights" "[I", .methodLink RX3 61 yX3_opensWith, .instanceMethod yX3_opensWith, .selects RX3 yX3_opensWith yX3_opensWith, .code yX3_opensWith cX3_opensWith 5 (some .boolean), .methodLink RX3 58 yX3_pinsOf, .instanceMethod yX3_pinsOf, .selects RX3 yX3_pinsOf yX3_pinsOf, .code yX3_pinsOf cX3_pinsOf 5 (some .int), .methodLink RX3 50 yX3_has, .static yX3_has, .code yX3_has cX3_has 2 (some .boolean), .methodLink RX3 54 yX3_digit, .static yX3_digit, .code yX3_digit cX3_digit 2 (some .int)] ++ wsX30)
def wsX3_codes_r1 : List Cond := [Cond.fieldLink RX3 37 "KeyCabinetModel" "thrown" "I", Cond.methodLink RX3 83 yX3_isDoor, Cond.instanceMethod yX3_isDoor, Cond.selects RX3 yX3_isDoor yX3_isDoor, Cond.initialized RX3, Cond.code yX3_isDoor cX3_isDoor 2 (some .boolean), Cond.fieldLink RX3 44 "KeyCabinetModel" "doors" "I", Cond.methodLink RX3 64 yX3_fail, Cond.instanceMethod yX3_fail, Cond.selects RX3 yX3_fail yX3_fail, Cond.code yX3_fail cX3_fail 2 (some .int), Cond.methodLink RX3 61 yX3_opensWith, Cond.instanceMethod yX3_opensWith, Cond.selects RX3 yX3_opensWith yX3_opensWith, Cond.code yX3_opensWith cX3_opensWith 5 (some .boolean), Cond.methodLink RX3 58 yX3_pinsOf, Cond.instanceMethod yX3_pinsOf, Cond.selects RX3 yX3_pinsOf yX3_pinsOf, Cond.code yX3_pinsOf cX3_pinsOf 5 (some .int), Cond.fieldLink RX3 41 "KeyCabinetModel" "keys" "I", Cond.fieldLink RX3 13 "KeyCabinetModel" "rights" "[I", Cond.fieldLink RX3 9 "KeyCabinetModel" "codes" "[I", Cond.methodLink RX3 50 yX3_has, Cond.static yX3_has]
def wsX3_codes_r2 : List Cond := [Cond.code yX3_has cX3_has 2 (some .boolean), Cond.methodLink RX3 54 yX3_digit, Cond.static yX3_digit, Cond.code yX3_digit cX3_digit 2 (some .int)]
def wsX3_codes : List Cond := .code yX3_codes cX3_codes 4 (some .int) :: ((wsX3_codes_r1 ++ wsX3_codes_r2) ++ wsX30)
def wsX3_isAbove_r1 : List Cond := [Cond.fieldLink RX3 37 "KeyCabinetModel" "thrown" "I", Cond.fieldLink RX3 9 "KeyCabinetModel" "codes" "[I", Cond.methodLink RX3 86 yX3_isKey, Cond.instanceMethod yX3_isKey, Cond.selects RX3 yX3_isKey yX3_isKey, Cond.initialized RX3, Cond.code yX3_isKey cX3_isKey 2 (some .boolean), Cond.fieldLink RX3 41 "KeyCabinetModel" "keys" "I", Cond.methodLink RX3 89 yX3_doorsOf, Cond.instanceMethod yX3_doorsOf, Cond.selects RX3 yX3_doorsOf yX3_doorsOf, Cond.code yX3_doorsOf cX3_doorsOf 4 (some .int), Cond.fieldLink RX3 44 "KeyCabinetModel" "doors" "I", Cond.methodLink RX3 61 yX3_opensWith, Cond.instanceMethod yX3_opensWith, Cond.selects RX3 yX3_opensWith yX3_opensWith, Cond.code yX3_opensWith cX3_opensWith 5 (some .boolean), Cond.methodLink RX3 58 yX3_pinsOf, Cond.instanceMethod yX3_pinsOf, Cond.selects RX3 yX3_pinsOf yX3_pinsOf, Cond.code yX3_pinsOf cX3_pinsOf 5 (some .int), Cond.fieldLink RX3 13 "KeyCabinetModel" "rights" "[I", Cond.methodLink RX3 50 yX3_has, Cond.static yX3_has]
def wsX3_isAbove_r2 : List Cond := [Cond.code yX3_has cX3_has 2 (some .boolean), Cond.methodLink RX3 54 yX3_digit, Cond.static yX3_digit, Cond.code yX3_digit cX3_digit 2 (some .int)]
def wsX3_isAbove : List Cond := .code yX3_isAbove cX3_isAbove 5 (some .boolean) :: ((wsX3_isAbove_r1 ++ wsX3_isAbove_r2) ++ wsX30)
def wsX3_work : List Cond := .code yX3_work cX3_work 1 (some .int) :: ([.fieldLink RX3 37 "KeyCabinetModel" "thrown" "I", .fieldLink RX3 72 "KeyCabinetModel" "work" "I"] ++ wsX30)
def wsX3_stop : List Cond := .code yX3_stop cX3_stop 2 none :: ([.fieldLink RX3 19 "KeyCabinetModel" "states" "[I", .fieldLink RX3 34 "KeyCabinetModel" "ends" "[I", .fieldLink RX3 25 "KeyCabinetModel" "times" "[I", .fieldLink RX3 100 "KeyCabinetModel" "day" "I"] ++ wsX30)
def wsX3_replace_r1 : List Cond := [Cond.fieldLink RX3 37 "KeyCabinetModel" "thrown" "I", Cond.fieldLink RX3 9 "KeyCabinetModel" "codes" "[I", Cond.fieldLink RX3 44 "KeyCabinetModel" "doors" "I", Cond.arrayClass .int, Cond.fieldLink RX3 41 "KeyCabinetModel" "keys" "I", Cond.fieldLink RX3 72 "KeyCabinetModel" "work" "I", Cond.fieldLink RX3 47 "KeyCabinetModel" "copies" "I", Cond.fieldLink RX3 16 "KeyCabinetModel" "copyKeys" "[I", Cond.fieldLink RX3 19 "KeyCabinetModel" "states" "[I", Cond.methodLink RX3 86 yX3_isKey, Cond.instanceMethod yX3_isKey, Cond.selects RX3 yX3_isKey yX3_isKey, Cond.initialized RX3, Cond.code yX3_isKey cX3_isKey 2 (some .boolean), Cond.methodLink RX3 64 yX3_fail, Cond.instanceMethod yX3_fail, Cond.selects RX3 yX3_fail yX3_fail, Cond.code yX3_fail cX3_fail 2 (some .int), Cond.methodLink RX3 75 yX3_allPins, Cond.instanceMethod yX3_allPins, Cond.selects RX3 yX3_allPins yX3_allPins, Cond.code yX3_allPins cX3_allPins 4 (some .int), Cond.methodLink RX3 58 yX3_pinsOf, Cond.instanceMethod yX3_pinsOf]
def wsX3_replace_r2 : List Cond := [Cond.selects RX3 yX3_pinsOf yX3_pinsOf, Cond.code yX3_pinsOf cX3_pinsOf 5 (some .int), Cond.fieldLink RX3 13 "KeyCabinetModel" "rights" "[I", Cond.methodLink RX3 50 yX3_has, Cond.static yX3_has, Cond.code yX3_has cX3_has 2 (some .boolean), Cond.methodLink RX3 54 yX3_digit, Cond.static yX3_digit, Cond.code yX3_digit cX3_digit 2 (some .int), Cond.methodLink RX3 89 yX3_doorsOf, Cond.instanceMethod yX3_doorsOf, Cond.selects RX3 yX3_doorsOf yX3_doorsOf, Cond.code yX3_doorsOf cX3_doorsOf 4 (some .int), Cond.methodLink RX3 61 yX3_opensWith, Cond.instanceMethod yX3_opensWith, Cond.selects RX3 yX3_opensWith yX3_opensWith, Cond.code yX3_opensWith cX3_opensWith 5 (some .boolean), Cond.methodLink RX3 92 yX3_strayCount, Cond.instanceMethod yX3_strayCount, Cond.selects RX3 yX3_strayCount yX3_strayCount, Cond.code yX3_strayCount cX3_strayCount 4 (some .int), Cond.methodLink RX3 78 yJ6_bitCount_0f7a4, Cond.static yJ6_bitCount_0f7a4, Cond.initialized RJ6]
def wsX3_replace_r3 : List Cond := [Cond.code yJ6_bitCount_0f7a4 cJ6_bitCount_0f7a4 1 (some .int), Cond.constant RJ6 265 (1431655765), Cond.constant RJ6 266 (858993459), Cond.constant RJ6 267 (252645135), Cond.methodLink RX3 96 yX3_stop, Cond.instanceMethod yX3_stop, Cond.selects RX3 yX3_stop yX3_stop, Cond.code yX3_stop cX3_stop 2 none, Cond.fieldLink RX3 34 "KeyCabinetModel" "ends" "[I", Cond.fieldLink RX3 25 "KeyCabinetModel" "times" "[I", Cond.fieldLink RX3 100 "KeyCabinetModel" "day" "I"]
def wsX3_replace : List Cond := .code yX3_replace cX3_replace 12 (some .int) :: ((wsX3_replace_r1 ++ (wsX3_replace_r2 ++ wsX3_replace_r3)) ++ wsX30)
def wsX3_cut : List Cond := .code yX3_cut cX3_cut 2 (some .int) :: ([.fieldLink RX3 37 "KeyCabinetModel" "thrown" "I", .fieldLink RX3 47 "KeyCabinetModel" "copies" "I", .fieldLink RX3 16 "KeyCabinetModel" "copyKeys" "[I", .fieldLink RX3 19 "KeyCabinetModel" "states" "[I", .fieldLink RX3 25 "KeyCabinetModel" "times" "[I", .methodLink RX3 86 yX3_isKey, .instanceMethod yX3_isKey, .selects RX3 yX3_isKey yX3_isKey, .initialized RX3, .code yX3_isKey cX3_isKey 2 (some .boolean), .fieldLink RX3 41 "KeyCabinetModel" "keys" "I", .methodLink RX3 64 yX3_fail, .instanceMethod yX3_fail, .selects RX3 yX3_fail yX3_fail, .code yX3_fail cX3_fail 2 (some .int)] ++ wsX30)
def wsX3_lend : List Cond := .code yX3_lend cX3_lend 5 (some .int) :: ([.fieldLink RX3 37 "KeyCabinetModel" "thrown" "I", .fieldLink RX3 19 "KeyCabinetModel" "states" "[I", .fieldLink RX3 25 "KeyCabinetModel" "times" "[I", .fieldLink RX3 28 "KeyCabinetModel" "persons" "[I", .fieldLink RX3 31 "KeyCabinetModel" "begins" "[I", .fieldLink RX3 100 "KeyCabinetModel" "day" "I", .fieldLink RX3 34 "KeyCabinetModel" "ends" "[I", .fieldLink RX3 22 "KeyCabinetModel" "dues" "[I", .methodLink RX3 103 yX3_isCopy, .instanceMethod yX3_isCopy, .selects RX3 yX3_isCopy yX3_isCopy, .initialized RX3, .code yX3_isCopy cX3_isCopy 2 (some .boolean), .fieldLink RX3 47 "KeyCabinetModel" "copies" "I", .methodLink RX3 106 yX3_isPerson, .static yX3_isPerson, .code yX3_isPerson cX3_isPerson 1 (some .boolean), .methodLink RX3 64 yX3_fail, .instanceMethod yX3_fail, .selects RX3 yX3_fail yX3_fail, .code yX3_fail cX3_fail 2 (some .int)] ++ wsX30)
def wsX3_giveBack : List Cond := .code yX3_giveBack cX3_giveBack 2 (some .int) :: ([.fieldLink RX3 37 "KeyCabinetModel" "thrown" "I", .fieldLink RX3 19 "KeyCabinetModel" "states" "[I", .fieldLink RX3 100 "KeyCabinetModel" "day" "I", .fieldLink RX3 22 "KeyCabinetModel" "dues" "[I", .methodLink RX3 109 Lib.Math.max.name, .static Lib.Math.max.name, .initialized "java/lang/Math", .code Lib.Math.max.name Lib.Math.max.code 2 (some .int), .methodLink RX3 103 yX3_isCopy, .instanceMethod yX3_isCopy, .selects RX3 yX3_isCopy yX3_isCopy, .initialized RX3, .code yX3_isCopy cX3_isCopy 2 (some .boolean), .fieldLink RX3 47 "KeyCabinetModel" "copies" "I", .methodLink RX3 64 yX3_fail, .instanceMethod yX3_fail, .selects RX3 yX3_fail yX3_fail, .code yX3_fail cX3_fail 2 (some .int), .methodLink RX3 96 yX3_stop, .instanceMethod yX3_stop, .selects RX3 yX3_stop yX3_stop, .code yX3_stop cX3_stop 2 none, .fieldLink RX3 34 "KeyCabinetModel" "ends" "[I", .fieldLink RX3 25 "KeyCabinetModel" "times" "[I"] ++ wsX30)
def wsX3_riskyDoors_r1 : List Cond := [Cond.fieldLink RX3 47 "KeyCabinetModel" "copies" "I", Cond.fieldLink RX3 19 "KeyCabinetModel" "states" "[I", Cond.fieldLink RX3 9 "KeyCabinetModel" "codes" "[I", Cond.fieldLink RX3 16 "KeyCabinetModel" "copyKeys" "[I", Cond.methodLink RX3 89 yX3_doorsOf, Cond.instanceMethod yX3_doorsOf, Cond.selects RX3 yX3_doorsOf yX3_doorsOf, Cond.initialized RX3, Cond.code yX3_doorsOf cX3_doorsOf 4 (some .int), Cond.fieldLink RX3 44 "KeyCabinetModel" "doors" "I", Cond.methodLink RX3 61 yX3_opensWith, Cond.instanceMethod yX3_opensWith, Cond.selects RX3 yX3_opensWith yX3_opensWith, Cond.code yX3_opensWith cX3_opensWith 5 (some .boolean), Cond.methodLink RX3 58 yX3_pinsOf, Cond.instanceMethod yX3_pinsOf, Cond.selects RX3 yX3_pinsOf yX3_pinsOf, Cond.code yX3_pinsOf cX3_pinsOf 5 (some .int), Cond.fieldLink RX3 41 "KeyCabinetModel" "keys" "I", Cond.fieldLink RX3 13 "KeyCabinetModel" "rights" "[I", Cond.methodLink RX3 50 yX3_has, Cond.static yX3_has, Cond.code yX3_has cX3_has 2 (some .boolean), Cond.methodLink RX3 54 yX3_digit]
def wsX3_riskyDoors_r2 : List Cond := [Cond.static yX3_digit, Cond.code yX3_digit cX3_digit 2 (some .int)]
def wsX3_riskyDoors : List Cond := .code yX3_riskyDoors cX3_riskyDoors 3 (some .int) :: ((wsX3_riskyDoors_r1 ++ wsX3_riskyDoors_r2) ++ wsX30)
def wsX3_lose_r1 : List Cond := [Cond.fieldLink RX3 37 "KeyCabinetModel" "thrown" "I", Cond.fieldLink RX3 19 "KeyCabinetModel" "states" "[I", Cond.fieldLink RX3 9 "KeyCabinetModel" "codes" "[I", Cond.fieldLink RX3 16 "KeyCabinetModel" "copyKeys" "[I", Cond.methodLink RX3 103 yX3_isCopy, Cond.instanceMethod yX3_isCopy, Cond.selects RX3 yX3_isCopy yX3_isCopy, Cond.initialized RX3, Cond.code yX3_isCopy cX3_isCopy 2 (some .boolean), Cond.fieldLink RX3 47 "KeyCabinetModel" "copies" "I", Cond.methodLink RX3 64 yX3_fail, Cond.instanceMethod yX3_fail, Cond.selects RX3 yX3_fail yX3_fail, Cond.code yX3_fail cX3_fail 2 (some .int), Cond.methodLink RX3 96 yX3_stop, Cond.instanceMethod yX3_stop, Cond.selects RX3 yX3_stop yX3_stop, Cond.code yX3_stop cX3_stop 2 none, Cond.fieldLink RX3 34 "KeyCabinetModel" "ends" "[I", Cond.fieldLink RX3 25 "KeyCabinetModel" "times" "[I", Cond.fieldLink RX3 100 "KeyCabinetModel" "day" "I", Cond.methodLink RX3 89 yX3_doorsOf, Cond.instanceMethod yX3_doorsOf, Cond.selects RX3 yX3_doorsOf yX3_doorsOf]
def wsX3_lose_r2 : List Cond := [Cond.code yX3_doorsOf cX3_doorsOf 4 (some .int), Cond.fieldLink RX3 44 "KeyCabinetModel" "doors" "I", Cond.methodLink RX3 61 yX3_opensWith, Cond.instanceMethod yX3_opensWith, Cond.selects RX3 yX3_opensWith yX3_opensWith, Cond.code yX3_opensWith cX3_opensWith 5 (some .boolean), Cond.methodLink RX3 58 yX3_pinsOf, Cond.instanceMethod yX3_pinsOf, Cond.selects RX3 yX3_pinsOf yX3_pinsOf, Cond.code yX3_pinsOf cX3_pinsOf 5 (some .int), Cond.fieldLink RX3 41 "KeyCabinetModel" "keys" "I", Cond.fieldLink RX3 13 "KeyCabinetModel" "rights" "[I", Cond.methodLink RX3 50 yX3_has, Cond.static yX3_has, Cond.code yX3_has cX3_has 2 (some .boolean), Cond.methodLink RX3 54 yX3_digit, Cond.static yX3_digit, Cond.code yX3_digit cX3_digit 2 (some .int)]
def wsX3_lose : List Cond := .code yX3_lose cX3_lose 2 (some .int) :: ((wsX3_lose_r1 ++ wsX3_lose_r2) ++ wsX30)
def wsX3_find_r1 : List Cond := [Cond.fieldLink RX3 37 "KeyCabinetModel" "thrown" "I", Cond.fieldLink RX3 19 "KeyCabinetModel" "states" "[I", Cond.methodLink RX3 103 yX3_isCopy, Cond.instanceMethod yX3_isCopy, Cond.selects RX3 yX3_isCopy yX3_isCopy, Cond.initialized RX3, Cond.code yX3_isCopy cX3_isCopy 2 (some .boolean), Cond.fieldLink RX3 47 "KeyCabinetModel" "copies" "I", Cond.methodLink RX3 64 yX3_fail, Cond.instanceMethod yX3_fail, Cond.selects RX3 yX3_fail yX3_fail, Cond.code yX3_fail cX3_fail 2 (some .int), Cond.methodLink RX3 114 yX3_riskyDoors, Cond.instanceMethod yX3_riskyDoors, Cond.selects RX3 yX3_riskyDoors yX3_riskyDoors, Cond.code yX3_riskyDoors cX3_riskyDoors 3 (some .int), Cond.fieldLink RX3 9 "KeyCabinetModel" "codes" "[I", Cond.fieldLink RX3 16 "KeyCabinetModel" "copyKeys" "[I", Cond.methodLink RX3 89 yX3_doorsOf, Cond.instanceMethod yX3_doorsOf, Cond.selects RX3 yX3_doorsOf yX3_doorsOf, Cond.code yX3_doorsOf cX3_doorsOf 4 (some .int), Cond.fieldLink RX3 44 "KeyCabinetModel" "doors" "I", Cond.methodLink RX3 61 yX3_opensWith]
def wsX3_find_r2 : List Cond := [Cond.instanceMethod yX3_opensWith, Cond.selects RX3 yX3_opensWith yX3_opensWith, Cond.code yX3_opensWith cX3_opensWith 5 (some .boolean), Cond.methodLink RX3 58 yX3_pinsOf, Cond.instanceMethod yX3_pinsOf, Cond.selects RX3 yX3_pinsOf yX3_pinsOf, Cond.code yX3_pinsOf cX3_pinsOf 5 (some .int), Cond.fieldLink RX3 41 "KeyCabinetModel" "keys" "I", Cond.fieldLink RX3 13 "KeyCabinetModel" "rights" "[I", Cond.methodLink RX3 50 yX3_has, Cond.static yX3_has, Cond.code yX3_has cX3_has 2 (some .boolean), Cond.methodLink RX3 54 yX3_digit, Cond.static yX3_digit, Cond.code yX3_digit cX3_digit 2 (some .int)]
def wsX3_find : List Cond := .code yX3_find cX3_find 2 (some .int) :: ((wsX3_find_r1 ++ wsX3_find_r2) ++ wsX30)
def wsX3_pass : List Cond := .code yX3_pass cX3_pass 2 (some .int) :: ([.fieldLink RX3 37 "KeyCabinetModel" "thrown" "I", .fieldLink RX3 100 "KeyCabinetModel" "day" "I", .methodLink RX3 64 yX3_fail, .instanceMethod yX3_fail, .selects RX3 yX3_fail yX3_fail, .initialized RX3, .code yX3_fail cX3_fail 2 (some .int)] ++ wsX30)
def wsX3_today : List Cond := .code yX3_today cX3_today 1 (some .int) :: ([.fieldLink RX3 37 "KeyCabinetModel" "thrown" "I", .fieldLink RX3 100 "KeyCabinetModel" "day" "I"] ++ wsX30)
def wsX3_copyCount : List Cond := .code yX3_copyCount cX3_copyCount 1 (some .int) :: ([.fieldLink RX3 37 "KeyCabinetModel" "thrown" "I", .fieldLink RX3 47 "KeyCabinetModel" "copies" "I"] ++ wsX30)
def wsX3_told : List Cond := .code yX3_told cX3_told 4 (some .int) :: ([.fieldLink RX3 19 "KeyCabinetModel" "states" "[I", .fieldLink RX3 16 "KeyCabinetModel" "copyKeys" "[I", .fieldLink RX3 28 "KeyCabinetModel" "persons" "[I", .fieldLink RX3 25 "KeyCabinetModel" "times" "[I", .fieldLink RX3 22 "KeyCabinetModel" "dues" "[I"] ++ wsX30)
def wsX3_copy : List Cond := .code yX3_copy cX3_copy 3 (some .int) :: ([.fieldLink RX3 37 "KeyCabinetModel" "thrown" "I", .methodLink RX3 103 yX3_isCopy, .instanceMethod yX3_isCopy, .selects RX3 yX3_isCopy yX3_isCopy, .initialized RX3, .code yX3_isCopy cX3_isCopy 2 (some .boolean), .fieldLink RX3 47 "KeyCabinetModel" "copies" "I", .methodLink RX3 117 yX3_told, .instanceMethod yX3_told, .selects RX3 yX3_told yX3_told, .code yX3_told cX3_told 4 (some .int), .fieldLink RX3 19 "KeyCabinetModel" "states" "[I", .fieldLink RX3 16 "KeyCabinetModel" "copyKeys" "[I", .fieldLink RX3 28 "KeyCabinetModel" "persons" "[I", .fieldLink RX3 25 "KeyCabinetModel" "times" "[I", .fieldLink RX3 22 "KeyCabinetModel" "dues" "[I", .methodLink RX3 64 yX3_fail, .instanceMethod yX3_fail, .selects RX3 yX3_fail yX3_fail, .code yX3_fail cX3_fail 2 (some .int)] ++ wsX30)
def wsX3_overdue : List Cond := .code yX3_overdue cX3_overdue 3 (some .int) :: ([.fieldLink RX3 37 "KeyCabinetModel" "thrown" "I", .fieldLink RX3 47 "KeyCabinetModel" "copies" "I", .fieldLink RX3 19 "KeyCabinetModel" "states" "[I", .fieldLink RX3 100 "KeyCabinetModel" "day" "I", .fieldLink RX3 22 "KeyCabinetModel" "dues" "[I"] ++ wsX30)
def wsX3_holderAt : List Cond := .code yX3_holderAt cX3_holderAt 6 (some .int) :: ([.fieldLink RX3 37 "KeyCabinetModel" "thrown" "I", .fieldLink RX3 100 "KeyCabinetModel" "day" "I", .fieldLink RX3 25 "KeyCabinetModel" "times" "[I", .fieldLink RX3 31 "KeyCabinetModel" "begins" "[I", .fieldLink RX3 34 "KeyCabinetModel" "ends" "[I", .fieldLink RX3 28 "KeyCabinetModel" "persons" "[I", .methodLink RX3 103 yX3_isCopy, .instanceMethod yX3_isCopy, .selects RX3 yX3_isCopy yX3_isCopy, .initialized RX3, .code yX3_isCopy cX3_isCopy 2 (some .boolean), .fieldLink RX3 47 "KeyCabinetModel" "copies" "I", .methodLink RX3 64 yX3_fail, .instanceMethod yX3_fail, .selects RX3 yX3_fail yX3_fail, .code yX3_fail cX3_fail 2 (some .int)] ++ wsX30)
def wsX3_reachOf_r1 : List Cond := [Cond.fieldLink RX3 47 "KeyCabinetModel" "copies" "I", Cond.fieldLink RX3 19 "KeyCabinetModel" "states" "[I", Cond.fieldLink RX3 9 "KeyCabinetModel" "codes" "[I", Cond.fieldLink RX3 16 "KeyCabinetModel" "copyKeys" "[I", Cond.methodLink RX3 117 yX3_told, Cond.instanceMethod yX3_told, Cond.selects RX3 yX3_told yX3_told, Cond.initialized RX3, Cond.code yX3_told cX3_told 4 (some .int), Cond.fieldLink RX3 28 "KeyCabinetModel" "persons" "[I", Cond.fieldLink RX3 25 "KeyCabinetModel" "times" "[I", Cond.fieldLink RX3 22 "KeyCabinetModel" "dues" "[I", Cond.methodLink RX3 89 yX3_doorsOf, Cond.instanceMethod yX3_doorsOf, Cond.selects RX3 yX3_doorsOf yX3_doorsOf, Cond.code yX3_doorsOf cX3_doorsOf 4 (some .int), Cond.fieldLink RX3 44 "KeyCabinetModel" "doors" "I", Cond.methodLink RX3 61 yX3_opensWith, Cond.instanceMethod yX3_opensWith, Cond.selects RX3 yX3_opensWith yX3_opensWith, Cond.code yX3_opensWith cX3_opensWith 5 (some .boolean), Cond.methodLink RX3 58 yX3_pinsOf, Cond.instanceMethod yX3_pinsOf, Cond.selects RX3 yX3_pinsOf yX3_pinsOf]
def wsX3_reachOf_r2 : List Cond := [Cond.code yX3_pinsOf cX3_pinsOf 5 (some .int), Cond.fieldLink RX3 41 "KeyCabinetModel" "keys" "I", Cond.fieldLink RX3 13 "KeyCabinetModel" "rights" "[I", Cond.methodLink RX3 50 yX3_has, Cond.static yX3_has, Cond.code yX3_has cX3_has 2 (some .boolean), Cond.methodLink RX3 54 yX3_digit, Cond.static yX3_digit, Cond.code yX3_digit cX3_digit 2 (some .int)]
def wsX3_reachOf : List Cond := .code yX3_reachOf cX3_reachOf 4 (some .int) :: ((wsX3_reachOf_r1 ++ wsX3_reachOf_r2) ++ wsX30)
def wsX3_reach_r1 : List Cond := [Cond.fieldLink RX3 37 "KeyCabinetModel" "thrown" "I", Cond.methodLink RX3 106 yX3_isPerson, Cond.static yX3_isPerson, Cond.initialized RX3, Cond.code yX3_isPerson cX3_isPerson 1 (some .boolean), Cond.methodLink RX3 120 yX3_reachOf, Cond.instanceMethod yX3_reachOf, Cond.selects RX3 yX3_reachOf yX3_reachOf, Cond.code yX3_reachOf cX3_reachOf 4 (some .int), Cond.fieldLink RX3 47 "KeyCabinetModel" "copies" "I", Cond.fieldLink RX3 19 "KeyCabinetModel" "states" "[I", Cond.fieldLink RX3 9 "KeyCabinetModel" "codes" "[I", Cond.fieldLink RX3 16 "KeyCabinetModel" "copyKeys" "[I", Cond.methodLink RX3 117 yX3_told, Cond.instanceMethod yX3_told, Cond.selects RX3 yX3_told yX3_told, Cond.code yX3_told cX3_told 4 (some .int), Cond.fieldLink RX3 28 "KeyCabinetModel" "persons" "[I", Cond.fieldLink RX3 25 "KeyCabinetModel" "times" "[I", Cond.fieldLink RX3 22 "KeyCabinetModel" "dues" "[I", Cond.methodLink RX3 89 yX3_doorsOf, Cond.instanceMethod yX3_doorsOf, Cond.selects RX3 yX3_doorsOf yX3_doorsOf, Cond.code yX3_doorsOf cX3_doorsOf 4 (some .int)]
def wsX3_reach_r2 : List Cond := [Cond.fieldLink RX3 44 "KeyCabinetModel" "doors" "I", Cond.methodLink RX3 61 yX3_opensWith, Cond.instanceMethod yX3_opensWith, Cond.selects RX3 yX3_opensWith yX3_opensWith, Cond.code yX3_opensWith cX3_opensWith 5 (some .boolean), Cond.methodLink RX3 58 yX3_pinsOf, Cond.instanceMethod yX3_pinsOf, Cond.selects RX3 yX3_pinsOf yX3_pinsOf, Cond.code yX3_pinsOf cX3_pinsOf 5 (some .int), Cond.fieldLink RX3 41 "KeyCabinetModel" "keys" "I", Cond.fieldLink RX3 13 "KeyCabinetModel" "rights" "[I", Cond.methodLink RX3 50 yX3_has, Cond.static yX3_has, Cond.code yX3_has cX3_has 2 (some .boolean), Cond.methodLink RX3 54 yX3_digit, Cond.static yX3_digit, Cond.code yX3_digit cX3_digit 2 (some .int), Cond.methodLink RX3 64 yX3_fail, Cond.instanceMethod yX3_fail, Cond.selects RX3 yX3_fail yX3_fail, Cond.code yX3_fail cX3_fail 2 (some .int)]
def wsX3_reach : List Cond := .code yX3_reach cX3_reach 2 (some .int) :: ((wsX3_reach_r1 ++ wsX3_reach_r2) ++ wsX30)
def wsX3_risk_r1 : List Cond := [Cond.fieldLink RX3 37 "KeyCabinetModel" "thrown" "I", Cond.methodLink RX3 114 yX3_riskyDoors, Cond.instanceMethod yX3_riskyDoors, Cond.selects RX3 yX3_riskyDoors yX3_riskyDoors, Cond.initialized RX3, Cond.code yX3_riskyDoors cX3_riskyDoors 3 (some .int), Cond.fieldLink RX3 47 "KeyCabinetModel" "copies" "I", Cond.fieldLink RX3 19 "KeyCabinetModel" "states" "[I", Cond.fieldLink RX3 9 "KeyCabinetModel" "codes" "[I", Cond.fieldLink RX3 16 "KeyCabinetModel" "copyKeys" "[I", Cond.methodLink RX3 89 yX3_doorsOf, Cond.instanceMethod yX3_doorsOf, Cond.selects RX3 yX3_doorsOf yX3_doorsOf, Cond.code yX3_doorsOf cX3_doorsOf 4 (some .int), Cond.fieldLink RX3 44 "KeyCabinetModel" "doors" "I", Cond.methodLink RX3 61 yX3_opensWith, Cond.instanceMethod yX3_opensWith, Cond.selects RX3 yX3_opensWith yX3_opensWith, Cond.code yX3_opensWith cX3_opensWith 5 (some .boolean), Cond.methodLink RX3 58 yX3_pinsOf, Cond.instanceMethod yX3_pinsOf, Cond.selects RX3 yX3_pinsOf yX3_pinsOf, Cond.code yX3_pinsOf cX3_pinsOf 5 (some .int), Cond.fieldLink RX3 41 "KeyCabinetModel" "keys" "I"]
def wsX3_risk_r2 : List Cond := [Cond.fieldLink RX3 13 "KeyCabinetModel" "rights" "[I", Cond.methodLink RX3 50 yX3_has, Cond.static yX3_has, Cond.code yX3_has cX3_has 2 (some .boolean), Cond.methodLink RX3 54 yX3_digit, Cond.static yX3_digit, Cond.code yX3_digit cX3_digit 2 (some .int)]
def wsX3_risk : List Cond := .code yX3_risk cX3_risk 1 (some .int) :: ((wsX3_risk_r1 ++ wsX3_risk_r2) ++ wsX30)
def wsX3_suggest_r1 : List Cond := [Cond.fieldLink RX3 37 "KeyCabinetModel" "thrown" "I", Cond.fieldLink RX3 44 "KeyCabinetModel" "doors" "I", Cond.arrayClass .int, Cond.fieldLink RX3 47 "KeyCabinetModel" "copies" "I", Cond.fieldLink RX3 19 "KeyCabinetModel" "states" "[I", Cond.fieldLink RX3 25 "KeyCabinetModel" "times" "[I", Cond.fieldLink RX3 16 "KeyCabinetModel" "copyKeys" "[I", Cond.fieldLink RX3 41 "KeyCabinetModel" "keys" "I", Cond.fieldLink RX3 9 "KeyCabinetModel" "codes" "[I", Cond.methodLink RX3 106 yX3_isPerson, Cond.static yX3_isPerson, Cond.initialized RX3, Cond.code yX3_isPerson cX3_isPerson 1 (some .boolean), Cond.methodLink RX3 64 yX3_fail, Cond.instanceMethod yX3_fail, Cond.selects RX3 yX3_fail yX3_fail, Cond.code yX3_fail cX3_fail 2 (some .int), Cond.methodLink RX3 120 yX3_reachOf, Cond.instanceMethod yX3_reachOf, Cond.selects RX3 yX3_reachOf yX3_reachOf, Cond.code yX3_reachOf cX3_reachOf 4 (some .int), Cond.methodLink RX3 117 yX3_told, Cond.instanceMethod yX3_told, Cond.selects RX3 yX3_told yX3_told]
def wsX3_suggest_r2 : List Cond := [Cond.code yX3_told cX3_told 4 (some .int), Cond.fieldLink RX3 28 "KeyCabinetModel" "persons" "[I", Cond.fieldLink RX3 22 "KeyCabinetModel" "dues" "[I", Cond.methodLink RX3 89 yX3_doorsOf, Cond.instanceMethod yX3_doorsOf, Cond.selects RX3 yX3_doorsOf yX3_doorsOf, Cond.code yX3_doorsOf cX3_doorsOf 4 (some .int), Cond.methodLink RX3 61 yX3_opensWith, Cond.instanceMethod yX3_opensWith, Cond.selects RX3 yX3_opensWith yX3_opensWith, Cond.code yX3_opensWith cX3_opensWith 5 (some .boolean), Cond.methodLink RX3 58 yX3_pinsOf, Cond.instanceMethod yX3_pinsOf, Cond.selects RX3 yX3_pinsOf yX3_pinsOf, Cond.code yX3_pinsOf cX3_pinsOf 5 (some .int), Cond.fieldLink RX3 13 "KeyCabinetModel" "rights" "[I", Cond.methodLink RX3 50 yX3_has, Cond.static yX3_has, Cond.code yX3_has cX3_has 2 (some .boolean), Cond.methodLink RX3 54 yX3_digit, Cond.static yX3_digit, Cond.code yX3_digit cX3_digit 2 (some .int), Cond.methodLink RX3 78 yJ6_bitCount_0f7a4, Cond.static yJ6_bitCount_0f7a4]
def wsX3_suggest_r3 : List Cond := [Cond.initialized RJ6, Cond.code yJ6_bitCount_0f7a4 cJ6_bitCount_0f7a4 1 (some .int), Cond.constant RJ6 265 (1431655765), Cond.constant RJ6 266 (858993459), Cond.constant RJ6 267 (252645135)]
def wsX3_suggest : List Cond := .code yX3_suggest cX3_suggest 13 (some .int) :: ((wsX3_suggest_r1 ++ (wsX3_suggest_r2 ++ wsX3_suggest_r3)) ++ wsX30)
def wsX3_exposure_r1 : List Cond := [Cond.fieldLink RX3 37 "KeyCabinetModel" "thrown" "I", Cond.fieldLink RX3 44 "KeyCabinetModel" "doors" "I", Cond.methodLink RX3 114 yX3_riskyDoors, Cond.instanceMethod yX3_riskyDoors, Cond.selects RX3 yX3_riskyDoors yX3_riskyDoors, Cond.initialized RX3, Cond.code yX3_riskyDoors cX3_riskyDoors 3 (some .int), Cond.fieldLink RX3 47 "KeyCabinetModel" "copies" "I", Cond.fieldLink RX3 19 "KeyCabinetModel" "states" "[I", Cond.fieldLink RX3 9 "KeyCabinetModel" "codes" "[I", Cond.fieldLink RX3 16 "KeyCabinetModel" "copyKeys" "[I", Cond.methodLink RX3 89 yX3_doorsOf, Cond.instanceMethod yX3_doorsOf, Cond.selects RX3 yX3_doorsOf yX3_doorsOf, Cond.code yX3_doorsOf cX3_doorsOf 4 (some .int), Cond.methodLink RX3 61 yX3_opensWith, Cond.instanceMethod yX3_opensWith, Cond.selects RX3 yX3_opensWith yX3_opensWith, Cond.code yX3_opensWith cX3_opensWith 5 (some .boolean), Cond.methodLink RX3 58 yX3_pinsOf, Cond.instanceMethod yX3_pinsOf, Cond.selects RX3 yX3_pinsOf yX3_pinsOf, Cond.code yX3_pinsOf cX3_pinsOf 5 (some .int), Cond.fieldLink RX3 41 "KeyCabinetModel" "keys" "I"]
def wsX3_exposure_r2 : List Cond := [Cond.fieldLink RX3 13 "KeyCabinetModel" "rights" "[I", Cond.methodLink RX3 50 yX3_has, Cond.static yX3_has, Cond.code yX3_has cX3_has 2 (some .boolean), Cond.methodLink RX3 54 yX3_digit, Cond.static yX3_digit, Cond.code yX3_digit cX3_digit 2 (some .int), Cond.methodLink RX3 120 yX3_reachOf, Cond.instanceMethod yX3_reachOf, Cond.selects RX3 yX3_reachOf yX3_reachOf, Cond.code yX3_reachOf cX3_reachOf 4 (some .int), Cond.methodLink RX3 117 yX3_told, Cond.instanceMethod yX3_told, Cond.selects RX3 yX3_told yX3_told, Cond.code yX3_told cX3_told 4 (some .int), Cond.fieldLink RX3 28 "KeyCabinetModel" "persons" "[I", Cond.fieldLink RX3 25 "KeyCabinetModel" "times" "[I", Cond.fieldLink RX3 22 "KeyCabinetModel" "dues" "[I", Cond.methodLink RX3 78 yJ6_bitCount_0f7a4, Cond.static yJ6_bitCount_0f7a4, Cond.initialized RJ6, Cond.code yJ6_bitCount_0f7a4 cJ6_bitCount_0f7a4 1 (some .int), Cond.constant RJ6 265 (1431655765), Cond.constant RJ6 266 (858993459)]
def wsX3_exposure_r3 : List Cond := [Cond.constant RJ6 267 (252645135)]
def wsX3_exposure : List Cond := .code yX3_exposure cX3_exposure 3 (some .double) :: ((wsX3_exposure_r1 ++ (wsX3_exposure_r2 ++ wsX3_exposure_r3)) ++ wsX30)
def wsX3_digest_r1 : List Cond := [Cond.fieldLink RX3 37 "KeyCabinetModel" "thrown" "I", Cond.constantLong RX3 123 (5363), Cond.fieldLink RX3 41 "KeyCabinetModel" "keys" "I", Cond.constantLong RX3 125 (31), Cond.fieldLink RX3 9 "KeyCabinetModel" "codes" "[I", Cond.fieldLink RX3 44 "KeyCabinetModel" "doors" "I", Cond.fieldLink RX3 13 "KeyCabinetModel" "rights" "[I", Cond.fieldLink RX3 72 "KeyCabinetModel" "work" "I", Cond.fieldLink RX3 100 "KeyCabinetModel" "day" "I", Cond.fieldLink RX3 47 "KeyCabinetModel" "copies" "I", Cond.methodLink RX3 58 yX3_pinsOf, Cond.instanceMethod yX3_pinsOf, Cond.selects RX3 yX3_pinsOf yX3_pinsOf, Cond.initialized RX3, Cond.code yX3_pinsOf cX3_pinsOf 5 (some .int), Cond.methodLink RX3 50 yX3_has, Cond.static yX3_has, Cond.code yX3_has cX3_has 2 (some .boolean), Cond.methodLink RX3 54 yX3_digit, Cond.static yX3_digit, Cond.code yX3_digit cX3_digit 2 (some .int), Cond.methodLink RX3 117 yX3_told, Cond.instanceMethod yX3_told, Cond.selects RX3 yX3_told yX3_told]
def wsX3_digest_r2 : List Cond := [Cond.code yX3_told cX3_told 4 (some .int), Cond.fieldLink RX3 19 "KeyCabinetModel" "states" "[I", Cond.fieldLink RX3 16 "KeyCabinetModel" "copyKeys" "[I", Cond.fieldLink RX3 28 "KeyCabinetModel" "persons" "[I", Cond.fieldLink RX3 25 "KeyCabinetModel" "times" "[I", Cond.fieldLink RX3 22 "KeyCabinetModel" "dues" "[I"]
def wsX3_digest : List Cond := .code yX3_digest cX3_digest 5 (some .long) :: ((wsX3_digest_r1 ++ wsX3_digest_r2) ++ wsX30)
def wsJ9_max_7cf53 : List Cond := .code yJ9_max_7cf53 cJ9_max_7cf53 2 (some .int) :: ([])
def wsL_addKey_r1 : List Cond := [Cond.classLink RL 13 "java/lang/IllegalArgumentException", Cond.classLink RL 15 "java/lang/IllegalStateException", Cond.methodLink RL 7 yX2_addKey, Cond.instanceMethod yX2_addKey, Cond.selects RX2 yX2_addKey yX2_addKey, Cond.initialized RX2, Cond.code yX2_addKey cX2_addKey 2 (some .int), Cond.classLink RX2 34 "java/lang/IllegalArgumentException", Cond.initialized "java/lang/IllegalArgumentException", Cond.classLink RX2 44 "java/lang/IllegalStateException", Cond.initialized "java/lang/IllegalStateException", Cond.fieldLink RX2 16 "KeyCabinet" "plan" "LKeyCabinet$Plan;", Cond.fieldLink RX2 41 "KeyCabinet$Plan" "keys" "I", Cond.methodLink RX2 49 yX1_isTaken, Cond.instanceMethod yX1_isTaken, Cond.selects RX1 yX1_isTaken yX1_isTaken, Cond.initialized RX1, Cond.code yX1_isTaken cX1_isTaken 3 (some .boolean), Cond.fieldLink RX1 27 "KeyCabinet$Plan" "keys" "I", Cond.fieldLink RX1 11 "KeyCabinet$Plan" "codeOf" "[I", Cond.methodLink RX2 55 yX1_takeKey, Cond.instanceMethod yX1_takeKey, Cond.selects RX1 yX1_takeKey yX1_takeKey, Cond.code yX1_takeKey cX1_takeKey 3 (some .int)]
def wsL_addKey_r2 : List Cond := [Cond.fieldLink RX1 15 "KeyCabinet$Plan" "teethOf" "[I", Cond.methodLink RX1 37 yX1_teeth, Cond.static yX1_teeth, Cond.code yX1_teeth cX1_teeth 4 (some .int)]
def wsL_addKey : List Cond := .codeWith yL_addKey cL_addKey 4 (some .int) [(0, 9, 12, 13), (0, 9, 15, 15)] :: ((wsL_addKey_r1 ++ wsL_addKey_r2) ++ wsX20 ++ wsX10 ++ (vx_atS RX2 38 "java/lang/IllegalArgumentException" ["java/lang/RuntimeException", "java/lang/Exception"]).filter goodWord ++ (vx_atS RX2 48 "java/lang/IllegalStateException" ["java/lang/RuntimeException", "java/lang/Exception"]).filter goodWord)
def wsL_addDoor_r1 : List Cond := [Cond.classLink RL 13 "java/lang/IllegalArgumentException", Cond.classLink RL 15 "java/lang/IllegalStateException", Cond.methodLink RL 17 yX2_addDoor, Cond.instanceMethod yX2_addDoor, Cond.selects RX2 yX2_addDoor yX2_addDoor, Cond.initialized RX2, Cond.code yX2_addDoor cX2_addDoor 2 (some .int), Cond.classLink RX2 44 "java/lang/IllegalStateException", Cond.initialized "java/lang/IllegalStateException", Cond.fieldLink RX2 16 "KeyCabinet" "plan" "LKeyCabinet$Plan;", Cond.fieldLink RX2 63 "KeyCabinet$Plan" "doors" "I", Cond.methodLink RX2 59 yX2_needRights, Cond.instanceMethod yX2_needRights, Cond.selects RX2 yX2_needRights yX2_needRights, Cond.code yX2_needRights cX2_needRights 2 none, Cond.classLink RX2 34 "java/lang/IllegalArgumentException", Cond.initialized "java/lang/IllegalArgumentException", Cond.fieldLink RX2 41 "KeyCabinet$Plan" "keys" "I", Cond.methodLink RX2 202 yX2_isSetOf, Cond.static yX2_isSetOf, Cond.code yX2_isSetOf cX2_isSetOf 2 (some .boolean), Cond.methodLink RX2 68 yX1_takeDoor, Cond.instanceMethod yX1_takeDoor, Cond.selects RX1 yX1_takeDoor yX1_takeDoor]
def wsL_addDoor_r2 : List Cond := [Cond.initialized RX1, Cond.code yX1_takeDoor cX1_takeDoor 3 (some .int), Cond.fieldLink RX1 31 "KeyCabinet$Plan" "doors" "I", Cond.methodLink RX1 41 yX1_giveRights, Cond.instanceMethod yX1_giveRights, Cond.selects RX1 yX1_giveRights yX1_giveRights, Cond.code yX1_giveRights cX1_giveRights 3 none, Cond.fieldLink RX1 18 "KeyCabinet$Plan" "rightsOf" "[I", Cond.methodLink RX1 45 yX1_changePins, Cond.instanceMethod yX1_changePins, Cond.selects RX1 yX1_changePins yX1_changePins, Cond.code yX1_changePins cX1_changePins 3 none, Cond.fieldLink RX1 21 "KeyCabinet$Plan" "pinsOf" "[I", Cond.fieldLink RX1 34 "KeyCabinet$Plan" "pinsMoved" "I", Cond.methodLink RX1 49 yX1_pinsFor, Cond.instanceMethod yX1_pinsFor, Cond.selects RX1 yX1_pinsFor yX1_pinsFor, Cond.code yX1_pinsFor cX1_pinsFor 4 (some .int), Cond.fieldLink RX1 27 "KeyCabinet$Plan" "keys" "I", Cond.fieldLink RX1 15 "KeyCabinet$Plan" "teethOf" "[I", Cond.methodLink RX1 52 yJ6_bitCount_0f7a4, Cond.static yJ6_bitCount_0f7a4, Cond.initialized RJ6, Cond.code yJ6_bitCount_0f7a4 cJ6_bitCount_0f7a4 1 (some .int)]
def wsL_addDoor_r3 : List Cond := [Cond.constant RJ6 265 (1431655765), Cond.constant RJ6 266 (858993459), Cond.constant RJ6 267 (252645135)]
def wsL_addDoor : List Cond := .codeWith yL_addDoor cL_addDoor 4 (some .int) [(0, 9, 12, 13), (0, 9, 15, 15)] :: ((wsL_addDoor_r1 ++ (wsL_addDoor_r2 ++ wsL_addDoor_r3)) ++ wsX20 ++ wsX10 ++ (vx_atS RX2 48 "java/lang/IllegalStateException" ["java/lang/RuntimeException", "java/lang/Exception"]).filter goodWord ++ (vx_atS RX2 38 "java/lang/IllegalArgumentException" ["java/lang/RuntimeException", "java/lang/Exception"]).filter goodWord)
def wsL_setRights_r1 : List Cond := [Cond.classLink RL 24 "java/lang/IndexOutOfBoundsException", Cond.classLink RL 13 "java/lang/IllegalArgumentException", Cond.methodLink RL 20 yX2_setRights, Cond.instanceMethod yX2_setRights, Cond.selects RX2 yX2_setRights yX2_setRights, Cond.initialized RX2, Cond.code yX2_setRights cX2_setRights 4 (some .int), Cond.fieldLink RX2 16 "KeyCabinet" "plan" "LKeyCabinet$Plan;", Cond.fieldLink RX2 74 "KeyCabinet$Plan" "rightsOf" "[I", Cond.methodLink RX2 71 yX2_needDoor, Cond.instanceMethod yX2_needDoor, Cond.selects RX2 yX2_needDoor yX2_needDoor, Cond.code yX2_needDoor cX2_needDoor 2 none, Cond.classLink RX2 87 "java/lang/IndexOutOfBoundsException", Cond.initialized "java/lang/IndexOutOfBoundsException", Cond.fieldLink RX2 63 "KeyCabinet$Plan" "doors" "I", Cond.methodLink RX2 59 yX2_needRights, Cond.instanceMethod yX2_needRights, Cond.selects RX2 yX2_needRights yX2_needRights, Cond.code yX2_needRights cX2_needRights 2 none, Cond.classLink RX2 34 "java/lang/IllegalArgumentException", Cond.initialized "java/lang/IllegalArgumentException", Cond.fieldLink RX2 41 "KeyCabinet$Plan" "keys" "I", Cond.methodLink RX2 202 yX2_isSetOf]
def wsL_setRights_r2 : List Cond := [Cond.static yX2_isSetOf, Cond.code yX2_isSetOf cX2_isSetOf 2 (some .boolean), Cond.methodLink RX2 77 yX1_giveRights, Cond.instanceMethod yX1_giveRights, Cond.selects RX1 yX1_giveRights yX1_giveRights, Cond.initialized RX1, Cond.code yX1_giveRights cX1_giveRights 3 none, Cond.fieldLink RX1 18 "KeyCabinet$Plan" "rightsOf" "[I", Cond.methodLink RX1 45 yX1_changePins, Cond.instanceMethod yX1_changePins, Cond.selects RX1 yX1_changePins yX1_changePins, Cond.code yX1_changePins cX1_changePins 3 none, Cond.fieldLink RX1 21 "KeyCabinet$Plan" "pinsOf" "[I", Cond.fieldLink RX1 34 "KeyCabinet$Plan" "pinsMoved" "I", Cond.methodLink RX1 49 yX1_pinsFor, Cond.instanceMethod yX1_pinsFor, Cond.selects RX1 yX1_pinsFor yX1_pinsFor, Cond.code yX1_pinsFor cX1_pinsFor 4 (some .int), Cond.fieldLink RX1 27 "KeyCabinet$Plan" "keys" "I", Cond.fieldLink RX1 15 "KeyCabinet$Plan" "teethOf" "[I", Cond.methodLink RX1 52 yJ6_bitCount_0f7a4, Cond.static yJ6_bitCount_0f7a4, Cond.initialized RJ6, Cond.code yJ6_bitCount_0f7a4 cJ6_bitCount_0f7a4 1 (some .int)]
def wsL_setRights_r3 : List Cond := [Cond.constant RJ6 265 (1431655765), Cond.constant RJ6 266 (858993459), Cond.constant RJ6 267 (252645135)]
def wsL_setRights : List Cond := .codeWith yL_setRights cL_setRights 5 (some .int) [(0, 10, 13, 24), (0, 10, 17, 13)] :: ((wsL_setRights_r1 ++ (wsL_setRights_r2 ++ wsL_setRights_r3)) ++ wsX20 ++ wsX10 ++ (vx_atS RX2 91 "java/lang/IndexOutOfBoundsException" ["java/lang/RuntimeException", "java/lang/Exception"]).filter goodWord ++ (vx_atS RX2 38 "java/lang/IllegalArgumentException" ["java/lang/RuntimeException", "java/lang/Exception"]).filter goodWord)
def wsL_code : List Cond := .codeWith yL_code cL_code 4 (some .int) [(0, 9, 12, 24)] :: ([.classLink RL 24 "java/lang/IndexOutOfBoundsException", .methodLink RL 26 yX2_code, .instanceMethod yX2_code, .selects RX2 yX2_code yX2_code, .initialized RX2, .code yX2_code cX2_code 2 (some .int), .fieldLink RX2 16 "KeyCabinet" "plan" "LKeyCabinet$Plan;", .fieldLink RX2 84 "KeyCabinet$Plan" "codeOf" "[I", .methodLink RX2 81 yX2_needKey, .instanceMethod yX2_needKey, .selects RX2 yX2_needKey yX2_needKey, .code yX2_needKey cX2_needKey 2 none, .classLink RX2 87 "java/lang/IndexOutOfBoundsException", .initialized "java/lang/IndexOutOfBoundsException", .fieldLink RX2 41 "KeyCabinet$Plan" "keys" "I"] ++ wsX20 ++ wsX10 ++ (vx_atS RX2 91 "java/lang/IndexOutOfBoundsException" ["java/lang/RuntimeException", "java/lang/Exception"]).filter goodWord)
def wsL_pins : List Cond := .codeWith yL_pins cL_pins 5 (some .int) [(0, 10, 13, 24)] :: ([.classLink RL 24 "java/lang/IndexOutOfBoundsException", .methodLink RL 29 yX2_pins, .instanceMethod yX2_pins, .selects RX2 yX2_pins yX2_pins, .initialized RX2, .code yX2_pins cX2_pins 3 (some .int), .classLink RX2 87 "java/lang/IndexOutOfBoundsException", .initialized "java/lang/IndexOutOfBoundsException", .fieldLink RX2 16 "KeyCabinet" "plan" "LKeyCabinet$Plan;", .methodLink RX2 71 yX2_needDoor, .instanceMethod yX2_needDoor, .selects RX2 yX2_needDoor yX2_needDoor, .code yX2_needDoor cX2_needDoor 2 none, .fieldLink RX2 63 "KeyCabinet$Plan" "doors" "I", .methodLink RX2 92 yX1_pinsAt, .instanceMethod yX1_pinsAt, .selects RX1 yX1_pinsAt yX1_pinsAt, .initialized RX1, .code yX1_pinsAt cX1_pinsAt 3 (some .int), .fieldLink RX1 21 "KeyCabinet$Plan" "pinsOf" "[I"] ++ wsX20 ++ wsX10 ++ (vx_atS RX2 91 "java/lang/IndexOutOfBoundsException" ["java/lang/RuntimeException", "java/lang/Exception"]).filter goodWord)
def wsL_opens_r1 : List Cond := [Cond.classLink RL 24 "java/lang/IndexOutOfBoundsException", Cond.methodLink RL 32 yX2_opens, Cond.instanceMethod yX2_opens, Cond.selects RX2 yX2_opens yX2_opens, Cond.initialized RX2, Cond.code yX2_opens cX2_opens 3 (some .boolean), Cond.fieldLink RX2 16 "KeyCabinet" "plan" "LKeyCabinet$Plan;", Cond.methodLink RX2 81 yX2_needKey, Cond.instanceMethod yX2_needKey, Cond.selects RX2 yX2_needKey yX2_needKey, Cond.code yX2_needKey cX2_needKey 2 none, Cond.classLink RX2 87 "java/lang/IndexOutOfBoundsException", Cond.initialized "java/lang/IndexOutOfBoundsException", Cond.fieldLink RX2 41 "KeyCabinet$Plan" "keys" "I", Cond.methodLink RX2 71 yX2_needDoor, Cond.instanceMethod yX2_needDoor, Cond.selects RX2 yX2_needDoor yX2_needDoor, Cond.code yX2_needDoor cX2_needDoor 2 none, Cond.fieldLink RX2 63 "KeyCabinet$Plan" "doors" "I", Cond.methodLink RX2 96 yX1_keyOpens, Cond.instanceMethod yX1_keyOpens, Cond.selects RX1 yX1_keyOpens yX1_keyOpens, Cond.initialized RX1, Cond.code yX1_keyOpens cX1_keyOpens 3 (some .boolean)]
def wsL_opens_r2 : List Cond := [Cond.fieldLink RX1 21 "KeyCabinet$Plan" "pinsOf" "[I", Cond.fieldLink RX1 15 "KeyCabinet$Plan" "teethOf" "[I", Cond.static yX2_contains, Cond.code yX2_contains cX2_contains 2 (some .boolean)]
def wsL_opens : List Cond := .codeWith yL_opens cL_opens 5 (some .int) [(0, 17, 20, 24)] :: ((wsL_opens_r1 ++ wsL_opens_r2) ++ wsX20 ++ wsX10 ++ (vx_atS RX2 91 "java/lang/IndexOutOfBoundsException" ["java/lang/RuntimeException", "java/lang/Exception"]).filter goodWord)
def wsL_openers_r1 : List Cond := [Cond.classLink RL 24 "java/lang/IndexOutOfBoundsException", Cond.methodLink RL 36 yX2_openers, Cond.instanceMethod yX2_openers, Cond.selects RX2 yX2_openers yX2_openers, Cond.initialized RX2, Cond.code yX2_openers cX2_openers 2 (some .int), Cond.fieldLink RX2 16 "KeyCabinet" "plan" "LKeyCabinet$Plan;", Cond.methodLink RX2 71 yX2_needDoor, Cond.instanceMethod yX2_needDoor, Cond.selects RX2 yX2_needDoor yX2_needDoor, Cond.code yX2_needDoor cX2_needDoor 2 none, Cond.classLink RX2 87 "java/lang/IndexOutOfBoundsException", Cond.initialized "java/lang/IndexOutOfBoundsException", Cond.fieldLink RX2 63 "KeyCabinet$Plan" "doors" "I", Cond.methodLink RX2 100 yX1_openersOf, Cond.instanceMethod yX1_openersOf, Cond.selects RX1 yX1_openersOf yX1_openersOf, Cond.initialized RX1, Cond.code yX1_openersOf cX1_openersOf 4 (some .int), Cond.fieldLink RX1 27 "KeyCabinet$Plan" "keys" "I", Cond.methodLink RX1 61 yX1_keyOpens, Cond.instanceMethod yX1_keyOpens, Cond.selects RX1 yX1_keyOpens yX1_keyOpens, Cond.code yX1_keyOpens cX1_keyOpens 3 (some .boolean)]
def wsL_openers_r2 : List Cond := [Cond.fieldLink RX1 21 "KeyCabinet$Plan" "pinsOf" "[I", Cond.fieldLink RX1 15 "KeyCabinet$Plan" "teethOf" "[I", Cond.static yX2_contains, Cond.code yX2_contains cX2_contains 2 (some .boolean)]
def wsL_openers : List Cond := .codeWith yL_openers cL_openers 4 (some .int) [(0, 9, 12, 24)] :: ((wsL_openers_r1 ++ wsL_openers_r2) ++ wsX20 ++ wsX10 ++ (vx_atS RX2 91 "java/lang/IndexOutOfBoundsException" ["java/lang/RuntimeException", "java/lang/Exception"]).filter goodWord)
def wsL_doors_r1 : List Cond := [Cond.classLink RL 24 "java/lang/IndexOutOfBoundsException", Cond.methodLink RL 39 yX2_doors, Cond.instanceMethod yX2_doors, Cond.selects RX2 yX2_doors yX2_doors, Cond.initialized RX2, Cond.code yX2_doors cX2_doors 2 (some .int), Cond.fieldLink RX2 16 "KeyCabinet" "plan" "LKeyCabinet$Plan;", Cond.methodLink RX2 81 yX2_needKey, Cond.instanceMethod yX2_needKey, Cond.selects RX2 yX2_needKey yX2_needKey, Cond.code yX2_needKey cX2_needKey 2 none, Cond.classLink RX2 87 "java/lang/IndexOutOfBoundsException", Cond.initialized "java/lang/IndexOutOfBoundsException", Cond.fieldLink RX2 41 "KeyCabinet$Plan" "keys" "I", Cond.methodLink RX2 103 yX1_doorsOf, Cond.instanceMethod yX1_doorsOf, Cond.selects RX1 yX1_doorsOf yX1_doorsOf, Cond.initialized RX1, Cond.code yX1_doorsOf cX1_doorsOf 4 (some .int), Cond.fieldLink RX1 31 "KeyCabinet$Plan" "doors" "I", Cond.methodLink RX1 61 yX1_keyOpens, Cond.instanceMethod yX1_keyOpens, Cond.selects RX1 yX1_keyOpens yX1_keyOpens, Cond.code yX1_keyOpens cX1_keyOpens 3 (some .boolean)]
def wsL_doors_r2 : List Cond := [Cond.fieldLink RX1 21 "KeyCabinet$Plan" "pinsOf" "[I", Cond.fieldLink RX1 15 "KeyCabinet$Plan" "teethOf" "[I", Cond.static yX2_contains, Cond.code yX2_contains cX2_contains 2 (some .boolean)]
def wsL_doors : List Cond := .codeWith yL_doors cL_doors 4 (some .int) [(0, 9, 12, 24)] :: ((wsL_doors_r1 ++ wsL_doors_r2) ++ wsX20 ++ wsX10 ++ (vx_atS RX2 91 "java/lang/IndexOutOfBoundsException" ["java/lang/RuntimeException", "java/lang/Exception"]).filter goodWord)
def wsL_codes_r1 : List Cond := [Cond.classLink RL 24 "java/lang/IndexOutOfBoundsException", Cond.methodLink RL 42 yX2_codes, Cond.instanceMethod yX2_codes, Cond.selects RX2 yX2_codes yX2_codes, Cond.initialized RX2, Cond.code yX2_codes cX2_codes 2 (some .int), Cond.fieldLink RX2 16 "KeyCabinet" "plan" "LKeyCabinet$Plan;", Cond.methodLink RX2 71 yX2_needDoor, Cond.instanceMethod yX2_needDoor, Cond.selects RX2 yX2_needDoor yX2_needDoor, Cond.code yX2_needDoor cX2_needDoor 2 none, Cond.classLink RX2 87 "java/lang/IndexOutOfBoundsException", Cond.initialized "java/lang/IndexOutOfBoundsException", Cond.fieldLink RX2 63 "KeyCabinet$Plan" "doors" "I", Cond.methodLink RX2 110 yX1_countCodes, Cond.instanceMethod yX1_countCodes, Cond.selects RX1 yX1_countCodes yX1_countCodes, Cond.initialized RX1, Cond.code yX1_countCodes cX1_countCodes 4 (some .int), Cond.methodLink RX1 70 yX1_pinsAt, Cond.instanceMethod yX1_pinsAt, Cond.selects RX1 yX1_pinsAt yX1_pinsAt, Cond.code yX1_pinsAt cX1_pinsAt 3 (some .int), Cond.fieldLink RX1 21 "KeyCabinet$Plan" "pinsOf" "[I"]
def wsL_codes_r2 : List Cond := [Cond.methodLink RX1 52 yJ6_bitCount_0f7a4, Cond.static yJ6_bitCount_0f7a4, Cond.initialized RJ6, Cond.code yJ6_bitCount_0f7a4 cJ6_bitCount_0f7a4 1 (some .int), Cond.constant RJ6 265 (1431655765), Cond.constant RJ6 266 (858993459), Cond.constant RJ6 267 (252645135)]
def wsL_codes : List Cond := .codeWith yL_codes cL_codes 4 (some .int) [(0, 9, 12, 24)] :: ((wsL_codes_r1 ++ wsL_codes_r2) ++ wsX20 ++ wsX10 ++ (vx_atS RX2 91 "java/lang/IndexOutOfBoundsException" ["java/lang/RuntimeException", "java/lang/Exception"]).filter goodWord)
def wsL_isAbove_r1 : List Cond := [Cond.classLink RL 24 "java/lang/IndexOutOfBoundsException", Cond.methodLink RL 45 yX2_isAbove, Cond.instanceMethod yX2_isAbove, Cond.selects RX2 yX2_isAbove yX2_isAbove, Cond.initialized RX2, Cond.code yX2_isAbove cX2_isAbove 5 (some .boolean), Cond.fieldLink RX2 16 "KeyCabinet" "plan" "LKeyCabinet$Plan;", Cond.methodLink RX2 81 yX2_needKey, Cond.instanceMethod yX2_needKey, Cond.selects RX2 yX2_needKey yX2_needKey, Cond.code yX2_needKey cX2_needKey 2 none, Cond.classLink RX2 87 "java/lang/IndexOutOfBoundsException", Cond.initialized "java/lang/IndexOutOfBoundsException", Cond.fieldLink RX2 41 "KeyCabinet$Plan" "keys" "I", Cond.methodLink RX2 103 yX1_doorsOf, Cond.instanceMethod yX1_doorsOf, Cond.selects RX1 yX1_doorsOf yX1_doorsOf, Cond.initialized RX1, Cond.code yX1_doorsOf cX1_doorsOf 4 (some .int), Cond.fieldLink RX1 31 "KeyCabinet$Plan" "doors" "I", Cond.methodLink RX1 61 yX1_keyOpens, Cond.instanceMethod yX1_keyOpens, Cond.selects RX1 yX1_keyOpens yX1_keyOpens, Cond.code yX1_keyOpens cX1_keyOpens 3 (some .boolean)]
def wsL_isAbove_r2 : List Cond := [Cond.fieldLink RX1 21 "KeyCabinet$Plan" "pinsOf" "[I", Cond.fieldLink RX1 15 "KeyCabinet$Plan" "teethOf" "[I", Cond.static yX2_contains, Cond.code yX2_contains cX2_contains 2 (some .boolean), Cond.methodLink RX2 113 yX2_contains]
def wsL_isAbove : List Cond := .codeWith yL_isAbove cL_isAbove 5 (some .int) [(0, 17, 20, 24)] :: ((wsL_isAbove_r1 ++ wsL_isAbove_r2) ++ wsX20 ++ wsX10 ++ (vx_atS RX2 91 "java/lang/IndexOutOfBoundsException" ["java/lang/RuntimeException", "java/lang/Exception"]).filter goodWord)
def wsL_replace_r1 : List Cond := [Cond.classLink RL 24 "java/lang/IndexOutOfBoundsException", Cond.methodLink RL 48 yX2_replace, Cond.instanceMethod yX2_replace, Cond.selects RX2 yX2_replace yX2_replace, Cond.initialized RX2, Cond.code yX2_replace cX2_replace 3 (some .int), Cond.fieldLink RX2 16 "KeyCabinet" "plan" "LKeyCabinet$Plan;", Cond.fieldLink RX2 23 "KeyCabinet" "ledger" "LKeyCabinet$Ledger;", Cond.fieldLink RX2 7 "KeyCabinet" "day" "I", Cond.methodLink RX2 81 yX2_needKey, Cond.instanceMethod yX2_needKey, Cond.selects RX2 yX2_needKey yX2_needKey, Cond.code yX2_needKey cX2_needKey 2 none, Cond.classLink RX2 87 "java/lang/IndexOutOfBoundsException", Cond.initialized "java/lang/IndexOutOfBoundsException", Cond.fieldLink RX2 41 "KeyCabinet$Plan" "keys" "I", Cond.methodLink RX2 119 yX1_bestCodeFor, Cond.instanceMethod yX1_bestCodeFor, Cond.selects RX1 yX1_bestCodeFor yX1_bestCodeFor, Cond.initialized RX1, Cond.code yX1_bestCodeFor cX1_bestCodeFor 9 (some .int), Cond.fieldLink RX1 31 "KeyCabinet$Plan" "doors" "I", Cond.fieldLink RX1 24 "KeyCabinet$Plan" "pinsWithout" "[I", Cond.fieldLink RX1 18 "KeyCabinet$Plan" "rightsOf" "[I"]
def wsL_replace_r2 : List Cond := [Cond.methodLink RX1 49 yX1_pinsFor, Cond.instanceMethod yX1_pinsFor, Cond.selects RX1 yX1_pinsFor yX1_pinsFor, Cond.code yX1_pinsFor cX1_pinsFor 4 (some .int), Cond.fieldLink RX1 27 "KeyCabinet$Plan" "keys" "I", Cond.fieldLink RX1 15 "KeyCabinet$Plan" "teethOf" "[I", Cond.methodLink RX1 37 yX1_teeth, Cond.static yX1_teeth, Cond.code yX1_teeth cX1_teeth 4 (some .int), Cond.methodLink RX1 74 yX1_isTaken, Cond.instanceMethod yX1_isTaken, Cond.selects RX1 yX1_isTaken yX1_isTaken, Cond.code yX1_isTaken cX1_isTaken 3 (some .boolean), Cond.fieldLink RX1 11 "KeyCabinet$Plan" "codeOf" "[I", Cond.methodLink RX1 78 yX1_oldCodeOpens, Cond.instanceMethod yX1_oldCodeOpens, Cond.selects RX1 yX1_oldCodeOpens yX1_oldCodeOpens, Cond.code yX1_oldCodeOpens cX1_oldCodeOpens 4 (some .boolean), Cond.methodLink RX1 88 yX1_pinsWith, Cond.instanceMethod yX1_pinsWith, Cond.selects RX1 yX1_pinsWith yX1_pinsWith, Cond.code yX1_pinsWith cX1_pinsWith 5 (some .int), Cond.static yX2_contains, Cond.code yX2_contains cX2_contains 2 (some .boolean)]
def wsL_replace_r3 : List Cond := [Cond.methodLink RX1 81 yX1_straysWith, Cond.instanceMethod yX1_straysWith, Cond.selects RX1 yX1_straysWith yX1_straysWith, Cond.code yX1_straysWith cX1_straysWith 9 (some .int), Cond.methodLink RX1 85 yX1_workWith, Cond.instanceMethod yX1_workWith, Cond.selects RX1 yX1_workWith yX1_workWith, Cond.code yX1_workWith cX1_workWith 5 (some .int), Cond.fieldLink RX1 21 "KeyCabinet$Plan" "pinsOf" "[I", Cond.methodLink RX1 52 yJ6_bitCount_0f7a4, Cond.static yJ6_bitCount_0f7a4, Cond.initialized RJ6, Cond.code yJ6_bitCount_0f7a4 cJ6_bitCount_0f7a4 1 (some .int), Cond.constant RJ6 265 (1431655765), Cond.constant RJ6 266 (858993459), Cond.constant RJ6 267 (252645135), Cond.methodLink RX2 122 yX1_giveCode, Cond.instanceMethod yX1_giveCode, Cond.selects RX1 yX1_giveCode yX1_giveCode, Cond.code yX1_giveCode cX1_giveCode 4 none, Cond.methodLink RX1 45 yX1_changePins, Cond.instanceMethod yX1_changePins, Cond.selects RX1 yX1_changePins yX1_changePins, Cond.code yX1_changePins cX1_changePins 3 none]
def wsL_replace_r4 : List Cond := [Cond.fieldLink RX1 34 "KeyCabinet$Plan" "pinsMoved" "I", Cond.methodLink RX2 125 yX0_voidCopiesOf, Cond.instanceMethod yX0_voidCopiesOf, Cond.selects RX0 yX0_voidCopiesOf yX0_voidCopiesOf, Cond.initialized RX0, Cond.code yX0_voidCopiesOf cX0_voidCopiesOf 4 none, Cond.fieldLink RX0 33 "KeyCabinet$Ledger" "copies" "I", Cond.fieldLink RX0 11 "KeyCabinet$Ledger" "keyOf" "[I", Cond.methodLink RX0 41 yX0_move, Cond.instanceMethod yX0_move, Cond.selects RX0 yX0_move yX0_move, Cond.code yX0_move cX0_move 4 none, Cond.fieldLink RX0 15 "KeyCabinet$Ledger" "stateOf" "[I", Cond.fieldLink RX0 30 "KeyCabinet$Ledger" "loanEnd" "[I", Cond.methodLink RX0 37 yX0_lastLoan, Cond.instanceMethod yX0_lastLoan, Cond.selects RX0 yX0_lastLoan yX0_lastLoan, Cond.code yX0_lastLoan cX0_lastLoan 2 (some .int), Cond.fieldLink RX0 18 "KeyCabinet$Ledger" "timesLent" "[I"]
def wsL_replace : List Cond := .codeWith yL_replace cL_replace 4 (some .int) [(0, 9, 12, 24)] :: ((wsL_replace_r1 ++ (wsL_replace_r2 ++ (wsL_replace_r3 ++ wsL_replace_r4))) ++ wsX20 ++ wsX10 ++ wsX00 ++ (vx_atS RX2 91 "java/lang/IndexOutOfBoundsException" ["java/lang/RuntimeException", "java/lang/Exception"]).filter goodWord)
def wsL_cut_r1 : List Cond := [Cond.classLink RL 24 "java/lang/IndexOutOfBoundsException", Cond.classLink RL 15 "java/lang/IllegalStateException", Cond.methodLink RL 51 yX2_cut, Cond.instanceMethod yX2_cut, Cond.selects RX2 yX2_cut yX2_cut, Cond.initialized RX2, Cond.code yX2_cut cX2_cut 2 (some .int), Cond.classLink RX2 44 "java/lang/IllegalStateException", Cond.initialized "java/lang/IllegalStateException", Cond.fieldLink RX2 23 "KeyCabinet" "ledger" "LKeyCabinet$Ledger;", Cond.fieldLink RX2 128 "KeyCabinet$Ledger" "copies" "I", Cond.methodLink RX2 81 yX2_needKey, Cond.instanceMethod yX2_needKey, Cond.selects RX2 yX2_needKey yX2_needKey, Cond.code yX2_needKey cX2_needKey 2 none, Cond.classLink RX2 87 "java/lang/IndexOutOfBoundsException", Cond.initialized "java/lang/IndexOutOfBoundsException", Cond.fieldLink RX2 16 "KeyCabinet" "plan" "LKeyCabinet$Plan;", Cond.fieldLink RX2 41 "KeyCabinet$Plan" "keys" "I", Cond.methodLink RX2 133 yX0_takeCopy, Cond.instanceMethod yX0_takeCopy, Cond.selects RX0 yX0_takeCopy yX0_takeCopy, Cond.initialized RX0, Cond.code yX0_takeCopy cX0_takeCopy 3 (some .int)]
def wsL_cut_r2 : List Cond := [Cond.fieldLink RX0 33 "KeyCabinet$Ledger" "copies" "I", Cond.fieldLink RX0 11 "KeyCabinet$Ledger" "keyOf" "[I", Cond.fieldLink RX0 15 "KeyCabinet$Ledger" "stateOf" "[I"]
def wsL_cut : List Cond := .codeWith yL_cut cL_cut 4 (some .int) [(0, 9, 12, 24), (0, 9, 15, 15)] :: ((wsL_cut_r1 ++ wsL_cut_r2) ++ wsX20 ++ wsX00 ++ wsX10 ++ (vx_atS RX2 48 "java/lang/IllegalStateException" ["java/lang/RuntimeException", "java/lang/Exception"]).filter goodWord ++ (vx_atS RX2 91 "java/lang/IndexOutOfBoundsException" ["java/lang/RuntimeException", "java/lang/Exception"]).filter goodWord)
def wsL_lend_r1 : List Cond := [Cond.classLink RL 24 "java/lang/IndexOutOfBoundsException", Cond.classLink RL 13 "java/lang/IllegalArgumentException", Cond.classLink RL 15 "java/lang/IllegalStateException", Cond.methodLink RL 54 yX2_lend, Cond.instanceMethod yX2_lend, Cond.selects RX2 yX2_lend yX2_lend, Cond.initialized RX2, Cond.code yX2_lend cX2_lend 5 (some .int), Cond.classLink RX2 44 "java/lang/IllegalStateException", Cond.initialized "java/lang/IllegalStateException", Cond.fieldLink RX2 23 "KeyCabinet" "ledger" "LKeyCabinet$Ledger;", Cond.fieldLink RX2 7 "KeyCabinet" "day" "I", Cond.methodLink RX2 136 yX2_needCopy, Cond.instanceMethod yX2_needCopy, Cond.selects RX2 yX2_needCopy yX2_needCopy, Cond.code yX2_needCopy cX2_needCopy 2 none, Cond.classLink RX2 87 "java/lang/IndexOutOfBoundsException", Cond.initialized "java/lang/IndexOutOfBoundsException", Cond.fieldLink RX2 128 "KeyCabinet$Ledger" "copies" "I", Cond.methodLink RX2 139 yX2_needPerson, Cond.instanceMethod yX2_needPerson, Cond.selects RX2 yX2_needPerson yX2_needPerson, Cond.code yX2_needPerson cX2_needPerson 2 none, Cond.methodLink RX2 142 yX2_needDays]
def wsL_lend_r2 : List Cond := [Cond.instanceMethod yX2_needDays, Cond.selects RX2 yX2_needDays yX2_needDays, Cond.code yX2_needDays cX2_needDays 2 none, Cond.classLink RX2 34 "java/lang/IllegalArgumentException", Cond.initialized "java/lang/IllegalArgumentException", Cond.methodLink RX2 145 yX0_canBeLent, Cond.instanceMethod yX0_canBeLent, Cond.selects RX0 yX0_canBeLent yX0_canBeLent, Cond.initialized RX0, Cond.code yX0_canBeLent cX0_canBeLent 2 (some .boolean), Cond.fieldLink RX0 15 "KeyCabinet$Ledger" "stateOf" "[I", Cond.fieldLink RX0 18 "KeyCabinet$Ledger" "timesLent" "[I", Cond.methodLink RX2 150 yX0_startLoan, Cond.instanceMethod yX0_startLoan, Cond.selects RX0 yX0_startLoan yX0_startLoan, Cond.code yX0_startLoan cX0_startLoan 6 none, Cond.fieldLink RX0 21 "KeyCabinet$Ledger" "loanPerson" "[I", Cond.fieldLink RX0 24 "KeyCabinet$Ledger" "loanStart" "[I", Cond.fieldLink RX0 27 "KeyCabinet$Ledger" "loanDue" "[I", Cond.fieldLink RX0 30 "KeyCabinet$Ledger" "loanEnd" "[I", Cond.methodLink RX0 37 yX0_lastLoan, Cond.instanceMethod yX0_lastLoan, Cond.selects RX0 yX0_lastLoan yX0_lastLoan, Cond.code yX0_lastLoan cX0_lastLoan 2 (some .int)]
def wsL_lend : List Cond := .codeWith yL_lend cL_lend 6 (some .int) [(0, 12, 15, 24), (0, 12, 19, 13), (0, 12, 23, 15)] :: ((wsL_lend_r1 ++ wsL_lend_r2) ++ wsX20 ++ wsX00 ++ (vx_atS RX2 48 "java/lang/IllegalStateException" ["java/lang/RuntimeException", "java/lang/Exception"]).filter goodWord ++ (vx_atS RX2 91 "java/lang/IndexOutOfBoundsException" ["java/lang/RuntimeException", "java/lang/Exception"]).filter goodWord ++ (vx_atS RX2 38 "java/lang/IllegalArgumentException" ["java/lang/RuntimeException", "java/lang/Exception"]).filter goodWord)
def wsL_giveBack_r1 : List Cond := [Cond.classLink RL 24 "java/lang/IndexOutOfBoundsException", Cond.classLink RL 15 "java/lang/IllegalStateException", Cond.methodLink RL 58 yX2_giveBack, Cond.instanceMethod yX2_giveBack, Cond.selects RX2 yX2_giveBack yX2_giveBack, Cond.initialized RX2, Cond.code yX2_giveBack cX2_giveBack 3 (some .int), Cond.classLink RX2 44 "java/lang/IllegalStateException", Cond.initialized "java/lang/IllegalStateException", Cond.fieldLink RX2 23 "KeyCabinet" "ledger" "LKeyCabinet$Ledger;", Cond.fieldLink RX2 154 "KeyCabinet$Ledger" "stateOf" "[I", Cond.fieldLink RX2 7 "KeyCabinet" "day" "I", Cond.methodLink RX2 162 Lib.Math.max.name, Cond.static Lib.Math.max.name, Cond.initialized "java/lang/Math", Cond.code Lib.Math.max.name Lib.Math.max.code 2 (some .int), Cond.methodLink RX2 136 yX2_needCopy, Cond.instanceMethod yX2_needCopy, Cond.selects RX2 yX2_needCopy yX2_needCopy, Cond.code yX2_needCopy cX2_needCopy 2 none, Cond.classLink RX2 87 "java/lang/IndexOutOfBoundsException", Cond.initialized "java/lang/IndexOutOfBoundsException", Cond.fieldLink RX2 128 "KeyCabinet$Ledger" "copies" "I", Cond.methodLink RX2 159 yX0_dueOf]
def wsL_giveBack_r2 : List Cond := [Cond.instanceMethod yX0_dueOf, Cond.selects RX0 yX0_dueOf yX0_dueOf, Cond.initialized RX0, Cond.code yX0_dueOf cX0_dueOf 2 (some .int), Cond.fieldLink RX0 15 "KeyCabinet$Ledger" "stateOf" "[I", Cond.fieldLink RX0 27 "KeyCabinet$Ledger" "loanDue" "[I", Cond.methodLink RX0 37 yX0_lastLoan, Cond.instanceMethod yX0_lastLoan, Cond.selects RX0 yX0_lastLoan yX0_lastLoan, Cond.code yX0_lastLoan cX0_lastLoan 2 (some .int), Cond.fieldLink RX0 18 "KeyCabinet$Ledger" "timesLent" "[I", Cond.methodLink RX2 167 yX0_move, Cond.instanceMethod yX0_move, Cond.selects RX0 yX0_move yX0_move, Cond.code yX0_move cX0_move 4 none, Cond.fieldLink RX0 30 "KeyCabinet$Ledger" "loanEnd" "[I"]
def wsL_giveBack : List Cond := .codeWith yL_giveBack cL_giveBack 4 (some .int) [(0, 9, 12, 24), (0, 9, 15, 15)] :: ((wsL_giveBack_r1 ++ wsL_giveBack_r2) ++ wsX20 ++ wsX00 ++ (vx_atS RX2 48 "java/lang/IllegalStateException" ["java/lang/RuntimeException", "java/lang/Exception"]).filter goodWord ++ (vx_atS RX2 91 "java/lang/IndexOutOfBoundsException" ["java/lang/RuntimeException", "java/lang/Exception"]).filter goodWord)
def wsL_lose_r1 : List Cond := [Cond.classLink RL 24 "java/lang/IndexOutOfBoundsException", Cond.classLink RL 15 "java/lang/IllegalStateException", Cond.methodLink RL 61 yX2_lose, Cond.instanceMethod yX2_lose, Cond.selects RX2 yX2_lose yX2_lose, Cond.initialized RX2, Cond.code yX2_lose cX2_lose 3 (some .int), Cond.classLink RX2 44 "java/lang/IllegalStateException", Cond.initialized "java/lang/IllegalStateException", Cond.fieldLink RX2 23 "KeyCabinet" "ledger" "LKeyCabinet$Ledger;", Cond.fieldLink RX2 154 "KeyCabinet$Ledger" "stateOf" "[I", Cond.fieldLink RX2 7 "KeyCabinet" "day" "I", Cond.fieldLink RX2 16 "KeyCabinet" "plan" "LKeyCabinet$Plan;", Cond.fieldLink RX2 173 "KeyCabinet$Ledger" "keyOf" "[I", Cond.methodLink RX2 136 yX2_needCopy, Cond.instanceMethod yX2_needCopy, Cond.selects RX2 yX2_needCopy yX2_needCopy, Cond.code yX2_needCopy cX2_needCopy 2 none, Cond.classLink RX2 87 "java/lang/IndexOutOfBoundsException", Cond.initialized "java/lang/IndexOutOfBoundsException", Cond.fieldLink RX2 128 "KeyCabinet$Ledger" "copies" "I", Cond.methodLink RX2 167 yX0_move, Cond.instanceMethod yX0_move, Cond.selects RX0 yX0_move yX0_move]
def wsL_lose_r2 : List Cond := [Cond.initialized RX0, Cond.code yX0_move cX0_move 4 none, Cond.fieldLink RX0 15 "KeyCabinet$Ledger" "stateOf" "[I", Cond.fieldLink RX0 30 "KeyCabinet$Ledger" "loanEnd" "[I", Cond.methodLink RX0 37 yX0_lastLoan, Cond.instanceMethod yX0_lastLoan, Cond.selects RX0 yX0_lastLoan yX0_lastLoan, Cond.code yX0_lastLoan cX0_lastLoan 2 (some .int), Cond.fieldLink RX0 18 "KeyCabinet$Ledger" "timesLent" "[I", Cond.methodLink RX2 103 yX1_doorsOf, Cond.instanceMethod yX1_doorsOf, Cond.selects RX1 yX1_doorsOf yX1_doorsOf, Cond.initialized RX1, Cond.code yX1_doorsOf cX1_doorsOf 4 (some .int), Cond.fieldLink RX1 31 "KeyCabinet$Plan" "doors" "I", Cond.methodLink RX1 61 yX1_keyOpens, Cond.instanceMethod yX1_keyOpens, Cond.selects RX1 yX1_keyOpens yX1_keyOpens, Cond.code yX1_keyOpens cX1_keyOpens 3 (some .boolean), Cond.fieldLink RX1 21 "KeyCabinet$Plan" "pinsOf" "[I", Cond.fieldLink RX1 15 "KeyCabinet$Plan" "teethOf" "[I", Cond.static yX2_contains, Cond.code yX2_contains cX2_contains 2 (some .boolean)]
def wsL_lose : List Cond := .codeWith yL_lose cL_lose 4 (some .int) [(0, 9, 12, 24), (0, 9, 15, 15)] :: ((wsL_lose_r1 ++ wsL_lose_r2) ++ wsX20 ++ wsX00 ++ wsX10 ++ (vx_atS RX2 48 "java/lang/IllegalStateException" ["java/lang/RuntimeException", "java/lang/Exception"]).filter goodWord ++ (vx_atS RX2 91 "java/lang/IndexOutOfBoundsException" ["java/lang/RuntimeException", "java/lang/Exception"]).filter goodWord)
def wsL_find_r1 : List Cond := [Cond.classLink RL 24 "java/lang/IndexOutOfBoundsException", Cond.classLink RL 15 "java/lang/IllegalStateException", Cond.methodLink RL 64 yX2_find, Cond.instanceMethod yX2_find, Cond.selects RX2 yX2_find yX2_find, Cond.initialized RX2, Cond.code yX2_find cX2_find 2 (some .int), Cond.classLink RX2 44 "java/lang/IllegalStateException", Cond.initialized "java/lang/IllegalStateException", Cond.fieldLink RX2 23 "KeyCabinet" "ledger" "LKeyCabinet$Ledger;", Cond.fieldLink RX2 154 "KeyCabinet$Ledger" "stateOf" "[I", Cond.fieldLink RX2 7 "KeyCabinet" "day" "I", Cond.methodLink RX2 136 yX2_needCopy, Cond.instanceMethod yX2_needCopy, Cond.selects RX2 yX2_needCopy yX2_needCopy, Cond.code yX2_needCopy cX2_needCopy 2 none, Cond.classLink RX2 87 "java/lang/IndexOutOfBoundsException", Cond.initialized "java/lang/IndexOutOfBoundsException", Cond.fieldLink RX2 128 "KeyCabinet$Ledger" "copies" "I", Cond.methodLink RX2 167 yX0_move, Cond.instanceMethod yX0_move, Cond.selects RX0 yX0_move yX0_move, Cond.initialized RX0, Cond.code yX0_move cX0_move 4 none]
def wsL_find_r2 : List Cond := [Cond.fieldLink RX0 15 "KeyCabinet$Ledger" "stateOf" "[I", Cond.fieldLink RX0 30 "KeyCabinet$Ledger" "loanEnd" "[I", Cond.methodLink RX0 37 yX0_lastLoan, Cond.instanceMethod yX0_lastLoan, Cond.selects RX0 yX0_lastLoan yX0_lastLoan, Cond.code yX0_lastLoan cX0_lastLoan 2 (some .int), Cond.fieldLink RX0 18 "KeyCabinet$Ledger" "timesLent" "[I", Cond.methodLink RX2 178 yX2_doorsAtRisk, Cond.instanceMethod yX2_doorsAtRisk, Cond.selects RX2 yX2_doorsAtRisk yX2_doorsAtRisk, Cond.code yX2_doorsAtRisk cX2_doorsAtRisk 1 (some .int), Cond.fieldLink RX2 16 "KeyCabinet" "plan" "LKeyCabinet$Plan;", Cond.methodLink RX2 249 yX0_keysLost, Cond.instanceMethod yX0_keysLost, Cond.selects RX0 yX0_keysLost yX0_keysLost, Cond.code yX0_keysLost cX0_keysLost 3 (some .int), Cond.fieldLink RX0 33 "KeyCabinet$Ledger" "copies" "I", Cond.fieldLink RX0 11 "KeyCabinet$Ledger" "keyOf" "[I", Cond.methodLink RX2 246 yX1_doorsOfAll, Cond.instanceMethod yX1_doorsOfAll, Cond.selects RX1 yX1_doorsOfAll yX1_doorsOfAll, Cond.initialized RX1, Cond.code yX1_doorsOfAll cX1_doorsOfAll 4 (some .int), Cond.fieldLink RX1 27 "KeyCabinet$Plan" "keys" "I"]
def wsL_find_r3 : List Cond := [Cond.methodLink RX1 64 yX1_doorsOf, Cond.instanceMethod yX1_doorsOf, Cond.selects RX1 yX1_doorsOf yX1_doorsOf, Cond.code yX1_doorsOf cX1_doorsOf 4 (some .int), Cond.fieldLink RX1 31 "KeyCabinet$Plan" "doors" "I", Cond.methodLink RX1 61 yX1_keyOpens, Cond.instanceMethod yX1_keyOpens, Cond.selects RX1 yX1_keyOpens yX1_keyOpens, Cond.code yX1_keyOpens cX1_keyOpens 3 (some .boolean), Cond.fieldLink RX1 21 "KeyCabinet$Plan" "pinsOf" "[I", Cond.fieldLink RX1 15 "KeyCabinet$Plan" "teethOf" "[I", Cond.static yX2_contains, Cond.code yX2_contains cX2_contains 2 (some .boolean)]
def wsL_find : List Cond := .codeWith yL_find cL_find 4 (some .int) [(0, 9, 12, 24), (0, 9, 15, 15)] :: ((wsL_find_r1 ++ (wsL_find_r2 ++ wsL_find_r3)) ++ wsX20 ++ wsX00 ++ wsX10 ++ (vx_atS RX2 48 "java/lang/IllegalStateException" ["java/lang/RuntimeException", "java/lang/Exception"]).filter goodWord ++ (vx_atS RX2 91 "java/lang/IndexOutOfBoundsException" ["java/lang/RuntimeException", "java/lang/Exception"]).filter goodWord)
def wsL_pass : List Cond := .codeWith yL_pass cL_pass 4 (some .int) [(0, 9, 12, 13), (0, 9, 15, 15)] :: ([.classLink RL 13 "java/lang/IllegalArgumentException", .classLink RL 15 "java/lang/IllegalStateException", .methodLink RL 67 yX2_pass, .instanceMethod yX2_pass, .selects RX2 yX2_pass yX2_pass, .initialized RX2, .code yX2_pass cX2_pass 2 (some .int), .classLink RX2 44 "java/lang/IllegalStateException", .initialized "java/lang/IllegalStateException", .fieldLink RX2 7 "KeyCabinet" "day" "I", .methodLink RX2 142 yX2_needDays, .instanceMethod yX2_needDays, .selects RX2 yX2_needDays yX2_needDays, .code yX2_needDays cX2_needDays 2 none, .classLink RX2 34 "java/lang/IllegalArgumentException", .initialized "java/lang/IllegalArgumentException"] ++ wsX20 ++ (vx_atS RX2 48 "java/lang/IllegalStateException" ["java/lang/RuntimeException", "java/lang/Exception"]).filter goodWord ++ (vx_atS RX2 38 "java/lang/IllegalArgumentException" ["java/lang/RuntimeException", "java/lang/Exception"]).filter goodWord)
def wsL_copy_r1 : List Cond := [Cond.classLink RL 24 "java/lang/IndexOutOfBoundsException", Cond.methodLink RL 70 yX2_copy, Cond.instanceMethod yX2_copy, Cond.selects RX2 yX2_copy yX2_copy, Cond.initialized RX2, Cond.code yX2_copy cX2_copy 3 (some .int), Cond.classLink RX2 87 "java/lang/IndexOutOfBoundsException", Cond.initialized "java/lang/IndexOutOfBoundsException", Cond.fieldLink RX2 23 "KeyCabinet" "ledger" "LKeyCabinet$Ledger;", Cond.fieldLink RX2 173 "KeyCabinet$Ledger" "keyOf" "[I", Cond.fieldLink RX2 154 "KeyCabinet$Ledger" "stateOf" "[I", Cond.fieldLink RX2 186 "KeyCabinet$Ledger" "timesLent" "[I", Cond.methodLink RX2 136 yX2_needCopy, Cond.instanceMethod yX2_needCopy, Cond.selects RX2 yX2_needCopy yX2_needCopy, Cond.code yX2_needCopy cX2_needCopy 2 none, Cond.fieldLink RX2 128 "KeyCabinet$Ledger" "copies" "I", Cond.methodLink RX2 183 yX0_holderOf, Cond.instanceMethod yX0_holderOf, Cond.selects RX0 yX0_holderOf yX0_holderOf, Cond.initialized RX0, Cond.code yX0_holderOf cX0_holderOf 2 (some .int), Cond.fieldLink RX0 15 "KeyCabinet$Ledger" "stateOf" "[I", Cond.fieldLink RX0 21 "KeyCabinet$Ledger" "loanPerson" "[I"]
def wsL_copy_r2 : List Cond := [Cond.methodLink RX0 37 yX0_lastLoan, Cond.instanceMethod yX0_lastLoan, Cond.selects RX0 yX0_lastLoan yX0_lastLoan, Cond.code yX0_lastLoan cX0_lastLoan 2 (some .int), Cond.fieldLink RX0 18 "KeyCabinet$Ledger" "timesLent" "[I", Cond.methodLink RX2 159 yX0_dueOf, Cond.instanceMethod yX0_dueOf, Cond.selects RX0 yX0_dueOf yX0_dueOf, Cond.code yX0_dueOf cX0_dueOf 2 (some .int), Cond.fieldLink RX0 27 "KeyCabinet$Ledger" "loanDue" "[I"]
def wsL_copy : List Cond := .codeWith yL_copy cL_copy 5 (some .int) [(0, 10, 13, 24)] :: ((wsL_copy_r1 ++ wsL_copy_r2) ++ wsX20 ++ wsX00 ++ (vx_atS RX2 91 "java/lang/IndexOutOfBoundsException" ["java/lang/RuntimeException", "java/lang/Exception"]).filter goodWord)
def wsL_holderAt_r1 : List Cond := [Cond.classLink RL 24 "java/lang/IndexOutOfBoundsException", Cond.classLink RL 13 "java/lang/IllegalArgumentException", Cond.methodLink RL 73 yX2_holderAt, Cond.instanceMethod yX2_holderAt, Cond.selects RX2 yX2_holderAt yX2_holderAt, Cond.initialized RX2, Cond.code yX2_holderAt cX2_holderAt 3 (some .int), Cond.classLink RX2 34 "java/lang/IllegalArgumentException", Cond.initialized "java/lang/IllegalArgumentException", Cond.fieldLink RX2 7 "KeyCabinet" "day" "I", Cond.fieldLink RX2 23 "KeyCabinet" "ledger" "LKeyCabinet$Ledger;", Cond.methodLink RX2 136 yX2_needCopy, Cond.instanceMethod yX2_needCopy, Cond.selects RX2 yX2_needCopy yX2_needCopy, Cond.code yX2_needCopy cX2_needCopy 2 none, Cond.classLink RX2 87 "java/lang/IndexOutOfBoundsException", Cond.initialized "java/lang/IndexOutOfBoundsException", Cond.fieldLink RX2 128 "KeyCabinet$Ledger" "copies" "I", Cond.methodLink RX2 196 yX0_holderOn, Cond.instanceMethod yX0_holderOn, Cond.selects RX0 yX0_holderOn yX0_holderOn, Cond.initialized RX0, Cond.code yX0_holderOn cX0_holderOn 5 (some .int), Cond.fieldLink RX0 18 "KeyCabinet$Ledger" "timesLent" "[I"]
def wsL_holderAt_r2 : List Cond := [Cond.fieldLink RX0 24 "KeyCabinet$Ledger" "loanStart" "[I", Cond.fieldLink RX0 30 "KeyCabinet$Ledger" "loanEnd" "[I", Cond.fieldLink RX0 21 "KeyCabinet$Ledger" "loanPerson" "[I"]
def wsL_holderAt : List Cond := .codeWith yL_holderAt cL_holderAt 5 (some .int) [(0, 10, 13, 24), (0, 10, 17, 13)] :: ((wsL_holderAt_r1 ++ wsL_holderAt_r2) ++ wsX20 ++ wsX00 ++ (vx_atS RX2 38 "java/lang/IllegalArgumentException" ["java/lang/RuntimeException", "java/lang/Exception"]).filter goodWord ++ (vx_atS RX2 91 "java/lang/IndexOutOfBoundsException" ["java/lang/RuntimeException", "java/lang/Exception"]).filter goodWord)
def wsL_reach_r1 : List Cond := [Cond.classLink RL 24 "java/lang/IndexOutOfBoundsException", Cond.methodLink RL 76 yX2_reach, Cond.instanceMethod yX2_reach, Cond.selects RX2 yX2_reach yX2_reach, Cond.initialized RX2, Cond.code yX2_reach cX2_reach 2 (some .int), Cond.methodLink RX2 139 yX2_needPerson, Cond.instanceMethod yX2_needPerson, Cond.selects RX2 yX2_needPerson yX2_needPerson, Cond.code yX2_needPerson cX2_needPerson 2 none, Cond.classLink RX2 87 "java/lang/IndexOutOfBoundsException", Cond.initialized "java/lang/IndexOutOfBoundsException", Cond.methodLink RX2 199 yX2_doorsReached, Cond.instanceMethod yX2_doorsReached, Cond.selects RX2 yX2_doorsReached yX2_doorsReached, Cond.code yX2_doorsReached cX2_doorsReached 2 (some .int), Cond.fieldLink RX2 16 "KeyCabinet" "plan" "LKeyCabinet$Plan;", Cond.fieldLink RX2 23 "KeyCabinet" "ledger" "LKeyCabinet$Ledger;", Cond.methodLink RX2 243 yX0_keysHeldBy, Cond.instanceMethod yX0_keysHeldBy, Cond.selects RX0 yX0_keysHeldBy yX0_keysHeldBy, Cond.initialized RX0, Cond.code yX0_keysHeldBy cX0_keysHeldBy 4 (some .int), Cond.fieldLink RX0 33 "KeyCabinet$Ledger" "copies" "I"]
def wsL_reach_r2 : List Cond := [Cond.fieldLink RX0 11 "KeyCabinet$Ledger" "keyOf" "[I", Cond.methodLink RX0 48 yX0_holderOf, Cond.instanceMethod yX0_holderOf, Cond.selects RX0 yX0_holderOf yX0_holderOf, Cond.code yX0_holderOf cX0_holderOf 2 (some .int), Cond.fieldLink RX0 15 "KeyCabinet$Ledger" "stateOf" "[I", Cond.fieldLink RX0 21 "KeyCabinet$Ledger" "loanPerson" "[I", Cond.methodLink RX0 37 yX0_lastLoan, Cond.instanceMethod yX0_lastLoan, Cond.selects RX0 yX0_lastLoan yX0_lastLoan, Cond.code yX0_lastLoan cX0_lastLoan 2 (some .int), Cond.fieldLink RX0 18 "KeyCabinet$Ledger" "timesLent" "[I", Cond.methodLink RX2 246 yX1_doorsOfAll, Cond.instanceMethod yX1_doorsOfAll, Cond.selects RX1 yX1_doorsOfAll yX1_doorsOfAll, Cond.initialized RX1, Cond.code yX1_doorsOfAll cX1_doorsOfAll 4 (some .int), Cond.fieldLink RX1 27 "KeyCabinet$Plan" "keys" "I", Cond.methodLink RX1 64 yX1_doorsOf, Cond.instanceMethod yX1_doorsOf, Cond.selects RX1 yX1_doorsOf yX1_doorsOf, Cond.code yX1_doorsOf cX1_doorsOf 4 (some .int), Cond.fieldLink RX1 31 "KeyCabinet$Plan" "doors" "I", Cond.methodLink RX1 61 yX1_keyOpens]
def wsL_reach_r3 : List Cond := [Cond.instanceMethod yX1_keyOpens, Cond.selects RX1 yX1_keyOpens yX1_keyOpens, Cond.code yX1_keyOpens cX1_keyOpens 3 (some .boolean), Cond.fieldLink RX1 21 "KeyCabinet$Plan" "pinsOf" "[I", Cond.fieldLink RX1 15 "KeyCabinet$Plan" "teethOf" "[I", Cond.static yX2_contains, Cond.code yX2_contains cX2_contains 2 (some .boolean)]
def wsL_reach : List Cond := .codeWith yL_reach cL_reach 4 (some .int) [(0, 9, 12, 24)] :: ((wsL_reach_r1 ++ (wsL_reach_r2 ++ wsL_reach_r3)) ++ wsX20 ++ wsX00 ++ wsX10 ++ (vx_atS RX2 91 "java/lang/IndexOutOfBoundsException" ["java/lang/RuntimeException", "java/lang/Exception"]).filter goodWord)
def wsL_suggest_r1 : List Cond := [Cond.classLink RL 24 "java/lang/IndexOutOfBoundsException", Cond.classLink RL 13 "java/lang/IllegalArgumentException", Cond.methodLink RL 79 yX2_suggest, Cond.instanceMethod yX2_suggest, Cond.selects RX2 yX2_suggest yX2_suggest, Cond.initialized RX2, Cond.code yX2_suggest cX2_suggest 4 (some .int), Cond.classLink RX2 34 "java/lang/IllegalArgumentException", Cond.initialized "java/lang/IllegalArgumentException", Cond.fieldLink RX2 16 "KeyCabinet" "plan" "LKeyCabinet$Plan;", Cond.fieldLink RX2 63 "KeyCabinet$Plan" "doors" "I", Cond.fieldLink RX2 41 "KeyCabinet$Plan" "keys" "I", Cond.fieldLink RX2 27 "KeyCabinet" "copyToLend" "[I", Cond.fieldLink RX2 23 "KeyCabinet" "ledger" "LKeyCabinet$Ledger;", Cond.fieldLink RX2 31 "KeyCabinet" "doorsOpened" "[I", Cond.methodLink RX2 139 yX2_needPerson, Cond.instanceMethod yX2_needPerson, Cond.selects RX2 yX2_needPerson yX2_needPerson, Cond.code yX2_needPerson cX2_needPerson 2 none, Cond.classLink RX2 87 "java/lang/IndexOutOfBoundsException", Cond.initialized "java/lang/IndexOutOfBoundsException", Cond.methodLink RX2 202 yX2_isSetOf, Cond.static yX2_isSetOf, Cond.code yX2_isSetOf cX2_isSetOf 2 (some .boolean)]
def wsL_suggest_r2 : List Cond := [Cond.methodLink RX2 207 yX0_firstToLend, Cond.instanceMethod yX0_firstToLend, Cond.selects RX0 yX0_firstToLend yX0_firstToLend, Cond.initialized RX0, Cond.code yX0_firstToLend cX0_firstToLend 3 (some .int), Cond.fieldLink RX0 33 "KeyCabinet$Ledger" "copies" "I", Cond.fieldLink RX0 11 "KeyCabinet$Ledger" "keyOf" "[I", Cond.methodLink RX0 51 yX0_canBeLent, Cond.instanceMethod yX0_canBeLent, Cond.selects RX0 yX0_canBeLent yX0_canBeLent, Cond.code yX0_canBeLent cX0_canBeLent 2 (some .boolean), Cond.fieldLink RX0 15 "KeyCabinet$Ledger" "stateOf" "[I", Cond.fieldLink RX0 18 "KeyCabinet$Ledger" "timesLent" "[I", Cond.methodLink RX2 103 yX1_doorsOf, Cond.instanceMethod yX1_doorsOf, Cond.selects RX1 yX1_doorsOf yX1_doorsOf, Cond.initialized RX1, Cond.code yX1_doorsOf cX1_doorsOf 4 (some .int), Cond.fieldLink RX1 31 "KeyCabinet$Plan" "doors" "I", Cond.methodLink RX1 61 yX1_keyOpens, Cond.instanceMethod yX1_keyOpens, Cond.selects RX1 yX1_keyOpens yX1_keyOpens, Cond.code yX1_keyOpens cX1_keyOpens 3 (some .boolean), Cond.fieldLink RX1 21 "KeyCabinet$Plan" "pinsOf" "[I"]
def wsL_suggest_r3 : List Cond := [Cond.fieldLink RX1 15 "KeyCabinet$Plan" "teethOf" "[I", Cond.static yX2_contains, Cond.code yX2_contains cX2_contains 2 (some .boolean), Cond.methodLink RX2 199 yX2_doorsReached, Cond.instanceMethod yX2_doorsReached, Cond.selects RX2 yX2_doorsReached yX2_doorsReached, Cond.code yX2_doorsReached cX2_doorsReached 2 (some .int), Cond.methodLink RX2 243 yX0_keysHeldBy, Cond.instanceMethod yX0_keysHeldBy, Cond.selects RX0 yX0_keysHeldBy yX0_keysHeldBy, Cond.code yX0_keysHeldBy cX0_keysHeldBy 4 (some .int), Cond.methodLink RX0 48 yX0_holderOf, Cond.instanceMethod yX0_holderOf, Cond.selects RX0 yX0_holderOf yX0_holderOf, Cond.code yX0_holderOf cX0_holderOf 2 (some .int), Cond.fieldLink RX0 21 "KeyCabinet$Ledger" "loanPerson" "[I", Cond.methodLink RX0 37 yX0_lastLoan, Cond.instanceMethod yX0_lastLoan, Cond.selects RX0 yX0_lastLoan yX0_lastLoan, Cond.code yX0_lastLoan cX0_lastLoan 2 (some .int), Cond.methodLink RX2 246 yX1_doorsOfAll, Cond.instanceMethod yX1_doorsOfAll, Cond.selects RX1 yX1_doorsOfAll yX1_doorsOfAll, Cond.code yX1_doorsOfAll cX1_doorsOfAll 4 (some .int)]
def wsL_suggest_r4 : List Cond := [Cond.fieldLink RX1 27 "KeyCabinet$Plan" "keys" "I", Cond.methodLink RX1 64 yX1_doorsOf, Cond.methodLink RX2 210 yX2_bestCopies, Cond.instanceMethod yX2_bestCopies, Cond.selects RX2 yX2_bestCopies yX2_bestCopies, Cond.code yX2_bestCopies cX2_bestCopies 9 (some .int), Cond.methodLink RX2 252 yX2_doorsOpenedBy, Cond.instanceMethod yX2_doorsOpenedBy, Cond.selects RX2 yX2_doorsOpenedBy yX2_doorsOpenedBy, Cond.code yX2_doorsOpenedBy cX2_doorsOpenedBy 4 (some .int), Cond.methodLink RX2 113 yX2_contains, Cond.methodLink RX2 255 yX2_copiesOf, Cond.instanceMethod yX2_copiesOf, Cond.selects RX2 yX2_copiesOf yX2_copiesOf, Cond.code yX2_copiesOf cX2_copiesOf 4 (some .int), Cond.methodLink RX2 213 yJ6_bitCount_0f7a4, Cond.static yJ6_bitCount_0f7a4, Cond.initialized RJ6, Cond.code yJ6_bitCount_0f7a4 cJ6_bitCount_0f7a4 1 (some .int), Cond.constant RJ6 265 (1431655765), Cond.constant RJ6 266 (858993459), Cond.constant RJ6 267 (252645135)]
def wsL_suggest : List Cond := .codeWith yL_suggest cL_suggest 5 (some .int) [(0, 10, 13, 24), (0, 10, 17, 13)] :: ((wsL_suggest_r1 ++ (wsL_suggest_r2 ++ (wsL_suggest_r3 ++ wsL_suggest_r4))) ++ wsX20 ++ wsX10 ++ wsX00 ++ (vx_atS RX2 38 "java/lang/IllegalArgumentException" ["java/lang/RuntimeException", "java/lang/Exception"]).filter goodWord ++ (vx_atS RX2 91 "java/lang/IndexOutOfBoundsException" ["java/lang/RuntimeException", "java/lang/Exception"]).filter goodWord)
def wsL_law0_r1 : List Cond := [Cond.classLink RL 8 RX2, Cond.instantiable RX2 5, Cond.initialized RX2, Cond.classLink RL 83 RX3, Cond.instantiable RX3 15, Cond.initialized RX3, Cond.arrayClass .long, Cond.methodLink RL 82 yX2_init, Cond.instanceMethod yX2_init, Cond.code yX2_init cX2_init 1 none, Cond.methodLink RX2 1 objectInit, Cond.instanceMethod objectInit, Cond.code objectInit ⟨#[0xb1]⟩ 1 none, Cond.fieldLink RX2 7 "KeyCabinet" "day" "I", Cond.classLink RX2 13 RX1, Cond.instantiable RX1 8, Cond.initialized RX1, Cond.fieldLink RX2 16 "KeyCabinet" "plan" "LKeyCabinet$Plan;", Cond.classLink RX2 20 RX0, Cond.instantiable RX0 8, Cond.initialized RX0, Cond.fieldLink RX2 23 "KeyCabinet" "ledger" "LKeyCabinet$Ledger;", Cond.arrayClass .int, Cond.fieldLink RX2 27 "KeyCabinet" "copyToLend" "[I"]
def wsL_law0_r2 : List Cond := [Cond.fieldLink RX2 31 "KeyCabinet" "doorsOpened" "[I", Cond.instanceMethod yX1_init, Cond.code yX1_init cX1_init 1 none, Cond.methodLink RX1 3 objectInit, Cond.fieldLink RX1 11 "KeyCabinet$Plan" "codeOf" "[I", Cond.fieldLink RX1 15 "KeyCabinet$Plan" "teethOf" "[I", Cond.fieldLink RX1 18 "KeyCabinet$Plan" "rightsOf" "[I", Cond.fieldLink RX1 21 "KeyCabinet$Plan" "pinsOf" "[I", Cond.fieldLink RX1 24 "KeyCabinet$Plan" "pinsWithout" "[I", Cond.fieldLink RX1 27 "KeyCabinet$Plan" "keys" "I", Cond.fieldLink RX1 31 "KeyCabinet$Plan" "doors" "I", Cond.fieldLink RX1 34 "KeyCabinet$Plan" "pinsMoved" "I", Cond.instanceMethod yX0_init, Cond.code yX0_init cX0_init 1 none, Cond.methodLink RX0 3 objectInit, Cond.fieldLink RX0 11 "KeyCabinet$Ledger" "keyOf" "[I", Cond.fieldLink RX0 15 "KeyCabinet$Ledger" "stateOf" "[I", Cond.fieldLink RX0 18 "KeyCabinet$Ledger" "timesLent" "[I", Cond.fieldLink RX0 21 "KeyCabinet$Ledger" "loanPerson" "[I", Cond.fieldLink RX0 24 "KeyCabinet$Ledger" "loanStart" "[I", Cond.fieldLink RX0 27 "KeyCabinet$Ledger" "loanDue" "[I", Cond.fieldLink RX0 30 "KeyCabinet$Ledger" "loanEnd" "[I", Cond.fieldLink RX0 33 "KeyCabinet$Ledger" "copies" "I", Cond.methodLink RL 85 yX3_init]
def wsL_law0_r3 : List Cond := [Cond.instanceMethod yX3_init, Cond.code yX3_init cX3_init 1 none, Cond.methodLink RX3 1 objectInit, Cond.fieldLink RX3 9 "KeyCabinetModel" "codes" "[I", Cond.fieldLink RX3 13 "KeyCabinetModel" "rights" "[I", Cond.fieldLink RX3 16 "KeyCabinetModel" "copyKeys" "[I", Cond.fieldLink RX3 19 "KeyCabinetModel" "states" "[I", Cond.fieldLink RX3 22 "KeyCabinetModel" "dues" "[I", Cond.fieldLink RX3 25 "KeyCabinetModel" "times" "[I", Cond.fieldLink RX3 28 "KeyCabinetModel" "persons" "[I", Cond.fieldLink RX3 31 "KeyCabinetModel" "begins" "[I", Cond.fieldLink RX3 34 "KeyCabinetModel" "ends" "[I", Cond.methodLink RL 86 yL_addKey, Cond.static yL_addKey, Cond.initialized RL, Cond.codeWith yL_addKey cL_addKey 4 (some .int) [(0, 9, 12, 13), (0, 9, 15, 15)], Cond.classLink RL 13 "java/lang/IllegalArgumentException", Cond.classLink RL 15 "java/lang/IllegalStateException", Cond.methodLink RL 7 yX2_addKey, Cond.instanceMethod yX2_addKey, Cond.selects RX2 yX2_addKey yX2_addKey, Cond.code yX2_addKey cX2_addKey 2 (some .int), Cond.classLink RX2 34 "java/lang/IllegalArgumentException", Cond.initialized "java/lang/IllegalArgumentException"]
def wsL_law0_r4 : List Cond := [Cond.classLink RX2 44 "java/lang/IllegalStateException", Cond.initialized "java/lang/IllegalStateException", Cond.fieldLink RX2 41 "KeyCabinet$Plan" "keys" "I", Cond.methodLink RX2 49 yX1_isTaken, Cond.instanceMethod yX1_isTaken, Cond.selects RX1 yX1_isTaken yX1_isTaken, Cond.code yX1_isTaken cX1_isTaken 3 (some .boolean), Cond.methodLink RX2 55 yX1_takeKey, Cond.instanceMethod yX1_takeKey, Cond.selects RX1 yX1_takeKey yX1_takeKey, Cond.code yX1_takeKey cX1_takeKey 3 (some .int), Cond.methodLink RX1 37 yX1_teeth, Cond.static yX1_teeth, Cond.code yX1_teeth cX1_teeth 4 (some .int), Cond.methodLink RL 91 yX3_addKey, Cond.instanceMethod yX3_addKey, Cond.selects RX3 yX3_addKey yX3_addKey, Cond.code yX3_addKey cX3_addKey 3 (some .int), Cond.fieldLink RX3 37 "KeyCabinetModel" "thrown" "I", Cond.fieldLink RX3 41 "KeyCabinetModel" "keys" "I", Cond.methodLink RX3 64 yX3_fail, Cond.instanceMethod yX3_fail, Cond.selects RX3 yX3_fail yX3_fail, Cond.code yX3_fail cX3_fail 2 (some .int)]
def wsL_law0_r5 : List Cond := [Cond.methodLink RL 92 yX3_thrown, Cond.instanceMethod yX3_thrown, Cond.selects RX3 yX3_thrown yX3_thrown, Cond.code yX3_thrown cX3_thrown 1 (some .int), Cond.methodLink RL 96 yL_addDoor, Cond.static yL_addDoor, Cond.codeWith yL_addDoor cL_addDoor 4 (some .int) [(0, 9, 12, 13), (0, 9, 15, 15)], Cond.methodLink RL 17 yX2_addDoor, Cond.instanceMethod yX2_addDoor, Cond.selects RX2 yX2_addDoor yX2_addDoor, Cond.code yX2_addDoor cX2_addDoor 2 (some .int), Cond.fieldLink RX2 63 "KeyCabinet$Plan" "doors" "I", Cond.methodLink RX2 59 yX2_needRights, Cond.instanceMethod yX2_needRights, Cond.selects RX2 yX2_needRights yX2_needRights, Cond.code yX2_needRights cX2_needRights 2 none, Cond.methodLink RX2 202 yX2_isSetOf, Cond.static yX2_isSetOf, Cond.code yX2_isSetOf cX2_isSetOf 2 (some .boolean), Cond.methodLink RX2 68 yX1_takeDoor, Cond.instanceMethod yX1_takeDoor, Cond.selects RX1 yX1_takeDoor yX1_takeDoor, Cond.code yX1_takeDoor cX1_takeDoor 3 (some .int), Cond.methodLink RX1 41 yX1_giveRights]
def wsL_law0_r6 : List Cond := [Cond.instanceMethod yX1_giveRights, Cond.selects RX1 yX1_giveRights yX1_giveRights, Cond.code yX1_giveRights cX1_giveRights 3 none, Cond.methodLink RX1 45 yX1_changePins, Cond.instanceMethod yX1_changePins, Cond.selects RX1 yX1_changePins yX1_changePins, Cond.code yX1_changePins cX1_changePins 3 none, Cond.methodLink RX1 49 yX1_pinsFor, Cond.instanceMethod yX1_pinsFor, Cond.selects RX1 yX1_pinsFor yX1_pinsFor, Cond.code yX1_pinsFor cX1_pinsFor 4 (some .int), Cond.methodLink RX1 52 yJ6_bitCount_0f7a4, Cond.static yJ6_bitCount_0f7a4, Cond.initialized RJ6, Cond.code yJ6_bitCount_0f7a4 cJ6_bitCount_0f7a4 1 (some .int), Cond.constant RJ6 265 (1431655765), Cond.constant RJ6 266 (858993459), Cond.constant RJ6 267 (252645135), Cond.methodLink RL 98 yX3_addDoor, Cond.instanceMethod yX3_addDoor, Cond.selects RX3 yX3_addDoor yX3_addDoor, Cond.code yX3_addDoor cX3_addDoor 2 (some .int), Cond.fieldLink RX3 44 "KeyCabinetModel" "doors" "I", Cond.fieldLink RX3 72 "KeyCabinetModel" "work" "I"]
def wsL_law0_r7 : List Cond := [Cond.methodLink RX3 68 yX3_areKeys, Cond.instanceMethod yX3_areKeys, Cond.selects RX3 yX3_areKeys yX3_areKeys, Cond.code yX3_areKeys cX3_areKeys 2 (some .boolean), Cond.methodLink RX3 75 yX3_allPins, Cond.instanceMethod yX3_allPins, Cond.selects RX3 yX3_allPins yX3_allPins, Cond.code yX3_allPins cX3_allPins 4 (some .int), Cond.methodLink RX3 58 yX3_pinsOf, Cond.instanceMethod yX3_pinsOf, Cond.selects RX3 yX3_pinsOf yX3_pinsOf, Cond.code yX3_pinsOf cX3_pinsOf 5 (some .int), Cond.methodLink RX3 50 yX3_has, Cond.static yX3_has, Cond.code yX3_has cX3_has 2 (some .boolean), Cond.methodLink RX3 54 yX3_digit, Cond.static yX3_digit, Cond.code yX3_digit cX3_digit 2 (some .int), Cond.methodLink RX3 78 yJ6_bitCount_0f7a4, Cond.methodLink RL 99 yL_setRights, Cond.static yL_setRights, Cond.codeWith yL_setRights cL_setRights 5 (some .int) [(0, 10, 13, 24), (0, 10, 17, 13)], Cond.classLink RL 24 "java/lang/IndexOutOfBoundsException", Cond.methodLink RL 20 yX2_setRights]
def wsL_law0_r8 : List Cond := [Cond.instanceMethod yX2_setRights, Cond.selects RX2 yX2_setRights yX2_setRights, Cond.code yX2_setRights cX2_setRights 4 (some .int), Cond.fieldLink RX2 74 "KeyCabinet$Plan" "rightsOf" "[I", Cond.methodLink RX2 71 yX2_needDoor, Cond.instanceMethod yX2_needDoor, Cond.selects RX2 yX2_needDoor yX2_needDoor, Cond.code yX2_needDoor cX2_needDoor 2 none, Cond.classLink RX2 87 "java/lang/IndexOutOfBoundsException", Cond.initialized "java/lang/IndexOutOfBoundsException", Cond.methodLink RX2 77 yX1_giveRights, Cond.methodLink RL 102 yX3_setRights, Cond.instanceMethod yX3_setRights, Cond.selects RX3 yX3_setRights yX3_setRights, Cond.code yX3_setRights cX3_setRights 5 (some .int), Cond.methodLink RX3 83 yX3_isDoor, Cond.instanceMethod yX3_isDoor, Cond.selects RX3 yX3_isDoor yX3_isDoor, Cond.code yX3_isDoor cX3_isDoor 2 (some .boolean), Cond.methodLink RL 103 yX2_keyCount, Cond.instanceMethod yX2_keyCount, Cond.selects RX2 yX2_keyCount yX2_keyCount, Cond.code yX2_keyCount cX2_keyCount 1 (some .int), Cond.methodLink RL 106 yX3_keyCount]
def wsL_law0_r9 : List Cond := [Cond.instanceMethod yX3_keyCount, Cond.selects RX3 yX3_keyCount yX3_keyCount, Cond.code yX3_keyCount cX3_keyCount 1 (some .int), Cond.methodLink RL 107 yX2_doorCount, Cond.instanceMethod yX2_doorCount, Cond.selects RX2 yX2_doorCount yX2_doorCount, Cond.code yX2_doorCount cX2_doorCount 1 (some .int), Cond.methodLink RL 110 yX3_doorCount, Cond.instanceMethod yX3_doorCount, Cond.selects RX3 yX3_doorCount yX3_doorCount, Cond.code yX3_doorCount cX3_doorCount 1 (some .int), Cond.methodLink RL 111 yL_code, Cond.static yL_code, Cond.codeWith yL_code cL_code 4 (some .int) [(0, 9, 12, 24)], Cond.methodLink RL 26 yX2_code, Cond.instanceMethod yX2_code, Cond.selects RX2 yX2_code yX2_code, Cond.code yX2_code cX2_code 2 (some .int), Cond.fieldLink RX2 84 "KeyCabinet$Plan" "codeOf" "[I", Cond.methodLink RX2 81 yX2_needKey, Cond.instanceMethod yX2_needKey, Cond.selects RX2 yX2_needKey yX2_needKey, Cond.code yX2_needKey cX2_needKey 2 none, Cond.methodLink RL 113 yX3_code]
def wsL_law0_r10 : List Cond := [Cond.instanceMethod yX3_code, Cond.selects RX3 yX3_code yX3_code, Cond.code yX3_code cX3_code 2 (some .int), Cond.methodLink RX3 86 yX3_isKey, Cond.instanceMethod yX3_isKey, Cond.selects RX3 yX3_isKey yX3_isKey, Cond.code yX3_isKey cX3_isKey 2 (some .boolean), Cond.methodLink RL 114 yL_pins, Cond.static yL_pins, Cond.codeWith yL_pins cL_pins 5 (some .int) [(0, 10, 13, 24)], Cond.methodLink RL 29 yX2_pins, Cond.instanceMethod yX2_pins, Cond.selects RX2 yX2_pins yX2_pins, Cond.code yX2_pins cX2_pins 3 (some .int), Cond.methodLink RX2 92 yX1_pinsAt, Cond.instanceMethod yX1_pinsAt, Cond.selects RX1 yX1_pinsAt yX1_pinsAt, Cond.code yX1_pinsAt cX1_pinsAt 3 (some .int), Cond.methodLink RL 116 yX3_pins, Cond.instanceMethod yX3_pins, Cond.selects RX3 yX3_pins yX3_pins, Cond.code yX3_pins cX3_pins 3 (some .int), Cond.methodLink RL 117 yL_opens, Cond.static yL_opens]
def wsL_law0_r11 : List Cond := [Cond.codeWith yL_opens cL_opens 5 (some .int) [(0, 17, 20, 24)], Cond.methodLink RL 32 yX2_opens, Cond.instanceMethod yX2_opens, Cond.selects RX2 yX2_opens yX2_opens, Cond.code yX2_opens cX2_opens 3 (some .boolean), Cond.methodLink RX2 96 yX1_keyOpens, Cond.instanceMethod yX1_keyOpens, Cond.selects RX1 yX1_keyOpens yX1_keyOpens, Cond.code yX1_keyOpens cX1_keyOpens 3 (some .boolean), Cond.static yX2_contains, Cond.code yX2_contains cX2_contains 2 (some .boolean), Cond.methodLink RL 119 yX3_opens, Cond.instanceMethod yX3_opens, Cond.selects RX3 yX3_opens yX3_opens, Cond.code yX3_opens cX3_opens 3 (some .boolean), Cond.methodLink RX3 61 yX3_opensWith, Cond.instanceMethod yX3_opensWith, Cond.selects RX3 yX3_opensWith yX3_opensWith, Cond.code yX3_opensWith cX3_opensWith 5 (some .boolean), Cond.methodLink RL 120 yL_openers, Cond.static yL_openers, Cond.codeWith yL_openers cL_openers 4 (some .int) [(0, 9, 12, 24)], Cond.methodLink RL 36 yX2_openers, Cond.instanceMethod yX2_openers]
def wsL_law0_r12 : List Cond := [Cond.selects RX2 yX2_openers yX2_openers, Cond.code yX2_openers cX2_openers 2 (some .int), Cond.methodLink RX2 100 yX1_openersOf, Cond.instanceMethod yX1_openersOf, Cond.selects RX1 yX1_openersOf yX1_openersOf, Cond.code yX1_openersOf cX1_openersOf 4 (some .int), Cond.methodLink RX1 61 yX1_keyOpens, Cond.methodLink RL 122 yX3_openers, Cond.instanceMethod yX3_openers, Cond.selects RX3 yX3_openers yX3_openers, Cond.code yX3_openers cX3_openers 4 (some .int), Cond.methodLink RL 123 yL_doors, Cond.static yL_doors, Cond.codeWith yL_doors cL_doors 4 (some .int) [(0, 9, 12, 24)], Cond.methodLink RL 39 yX2_doors, Cond.instanceMethod yX2_doors, Cond.selects RX2 yX2_doors yX2_doors, Cond.code yX2_doors cX2_doors 2 (some .int), Cond.methodLink RX2 103 yX1_doorsOf, Cond.instanceMethod yX1_doorsOf, Cond.selects RX1 yX1_doorsOf yX1_doorsOf, Cond.code yX1_doorsOf cX1_doorsOf 4 (some .int), Cond.methodLink RL 125 yX3_doors, Cond.instanceMethod yX3_doors]
def wsL_law0_r13 : List Cond := [Cond.selects RX3 yX3_doors yX3_doors, Cond.code yX3_doors cX3_doors 2 (some .int), Cond.methodLink RX3 89 yX3_doorsOf, Cond.instanceMethod yX3_doorsOf, Cond.selects RX3 yX3_doorsOf yX3_doorsOf, Cond.code yX3_doorsOf cX3_doorsOf 4 (some .int), Cond.methodLink RL 126 yX2_strays, Cond.instanceMethod yX2_strays, Cond.selects RX2 yX2_strays yX2_strays, Cond.code yX2_strays cX2_strays 1 (some .int), Cond.methodLink RX2 106 yX1_countStrays, Cond.instanceMethod yX1_countStrays, Cond.selects RX1 yX1_countStrays yX1_countStrays, Cond.code yX1_countStrays cX1_countStrays 3 (some .int), Cond.methodLink RX1 67 yX1_openersOf, Cond.methodLink RL 129 yX3_strays, Cond.instanceMethod yX3_strays, Cond.selects RX3 yX3_strays yX3_strays, Cond.code yX3_strays cX3_strays 1 (some .int), Cond.methodLink RX3 92 yX3_strayCount, Cond.instanceMethod yX3_strayCount, Cond.selects RX3 yX3_strayCount yX3_strayCount, Cond.code yX3_strayCount cX3_strayCount 4 (some .int), Cond.methodLink RL 130 yL_codes]
def wsL_law0_r14 : List Cond := [Cond.static yL_codes, Cond.codeWith yL_codes cL_codes 4 (some .int) [(0, 9, 12, 24)], Cond.methodLink RL 42 yX2_codes, Cond.instanceMethod yX2_codes, Cond.selects RX2 yX2_codes yX2_codes, Cond.code yX2_codes cX2_codes 2 (some .int), Cond.methodLink RX2 110 yX1_countCodes, Cond.instanceMethod yX1_countCodes, Cond.selects RX1 yX1_countCodes yX1_countCodes, Cond.code yX1_countCodes cX1_countCodes 4 (some .int), Cond.methodLink RX1 70 yX1_pinsAt, Cond.methodLink RL 132 yX3_codes, Cond.instanceMethod yX3_codes, Cond.selects RX3 yX3_codes yX3_codes, Cond.code yX3_codes cX3_codes 4 (some .int), Cond.methodLink RL 133 yL_isAbove, Cond.static yL_isAbove, Cond.codeWith yL_isAbove cL_isAbove 5 (some .int) [(0, 17, 20, 24)], Cond.methodLink RL 45 yX2_isAbove, Cond.instanceMethod yX2_isAbove, Cond.selects RX2 yX2_isAbove yX2_isAbove, Cond.code yX2_isAbove cX2_isAbove 5 (some .boolean), Cond.methodLink RX2 113 yX2_contains, Cond.methodLink RL 135 yX3_isAbove]
def wsL_law0_r15 : List Cond := [Cond.instanceMethod yX3_isAbove, Cond.selects RX3 yX3_isAbove yX3_isAbove, Cond.code yX3_isAbove cX3_isAbove 5 (some .boolean), Cond.methodLink RL 136 yX2_work, Cond.instanceMethod yX2_work, Cond.selects RX2 yX2_work yX2_work, Cond.code yX2_work cX2_work 1 (some .int), Cond.fieldLink RX2 116 "KeyCabinet$Plan" "pinsMoved" "I", Cond.methodLink RL 139 yX3_work, Cond.instanceMethod yX3_work, Cond.selects RX3 yX3_work yX3_work, Cond.code yX3_work cX3_work 1 (some .int), Cond.methodLink RL 140 yL_replace, Cond.static yL_replace, Cond.codeWith yL_replace cL_replace 4 (some .int) [(0, 9, 12, 24)], Cond.methodLink RL 48 yX2_replace, Cond.instanceMethod yX2_replace, Cond.selects RX2 yX2_replace yX2_replace, Cond.code yX2_replace cX2_replace 3 (some .int), Cond.methodLink RX2 119 yX1_bestCodeFor, Cond.instanceMethod yX1_bestCodeFor, Cond.selects RX1 yX1_bestCodeFor yX1_bestCodeFor, Cond.code yX1_bestCodeFor cX1_bestCodeFor 9 (some .int), Cond.methodLink RX1 74 yX1_isTaken]
def wsL_law0_r16 : List Cond := [Cond.methodLink RX1 78 yX1_oldCodeOpens, Cond.instanceMethod yX1_oldCodeOpens, Cond.selects RX1 yX1_oldCodeOpens yX1_oldCodeOpens, Cond.code yX1_oldCodeOpens cX1_oldCodeOpens 4 (some .boolean), Cond.methodLink RX1 88 yX1_pinsWith, Cond.instanceMethod yX1_pinsWith, Cond.selects RX1 yX1_pinsWith yX1_pinsWith, Cond.code yX1_pinsWith cX1_pinsWith 5 (some .int), Cond.methodLink RX1 81 yX1_straysWith, Cond.instanceMethod yX1_straysWith, Cond.selects RX1 yX1_straysWith yX1_straysWith, Cond.code yX1_straysWith cX1_straysWith 9 (some .int), Cond.methodLink RX1 85 yX1_workWith, Cond.instanceMethod yX1_workWith, Cond.selects RX1 yX1_workWith yX1_workWith, Cond.code yX1_workWith cX1_workWith 5 (some .int), Cond.methodLink RX2 122 yX1_giveCode, Cond.instanceMethod yX1_giveCode, Cond.selects RX1 yX1_giveCode yX1_giveCode, Cond.code yX1_giveCode cX1_giveCode 4 none, Cond.methodLink RX2 125 yX0_voidCopiesOf, Cond.instanceMethod yX0_voidCopiesOf, Cond.selects RX0 yX0_voidCopiesOf yX0_voidCopiesOf, Cond.code yX0_voidCopiesOf cX0_voidCopiesOf 4 none]
def wsL_law0_r17 : List Cond := [Cond.methodLink RX0 41 yX0_move, Cond.instanceMethod yX0_move, Cond.selects RX0 yX0_move yX0_move, Cond.code yX0_move cX0_move 4 none, Cond.methodLink RX0 37 yX0_lastLoan, Cond.instanceMethod yX0_lastLoan, Cond.selects RX0 yX0_lastLoan yX0_lastLoan, Cond.code yX0_lastLoan cX0_lastLoan 2 (some .int), Cond.methodLink RL 142 yX3_replace, Cond.instanceMethod yX3_replace, Cond.selects RX3 yX3_replace yX3_replace, Cond.code yX3_replace cX3_replace 12 (some .int), Cond.fieldLink RX3 47 "KeyCabinetModel" "copies" "I", Cond.methodLink RX3 96 yX3_stop, Cond.instanceMethod yX3_stop, Cond.selects RX3 yX3_stop yX3_stop, Cond.code yX3_stop cX3_stop 2 none, Cond.fieldLink RX3 100 "KeyCabinetModel" "day" "I", Cond.methodLink RL 143 yL_cut, Cond.static yL_cut, Cond.codeWith yL_cut cL_cut 4 (some .int) [(0, 9, 12, 24), (0, 9, 15, 15)], Cond.methodLink RL 51 yX2_cut, Cond.instanceMethod yX2_cut, Cond.selects RX2 yX2_cut yX2_cut]
def wsL_law0_r18 : List Cond := [Cond.code yX2_cut cX2_cut 2 (some .int), Cond.fieldLink RX2 128 "KeyCabinet$Ledger" "copies" "I", Cond.methodLink RX2 133 yX0_takeCopy, Cond.instanceMethod yX0_takeCopy, Cond.selects RX0 yX0_takeCopy yX0_takeCopy, Cond.code yX0_takeCopy cX0_takeCopy 3 (some .int), Cond.methodLink RL 145 yX3_cut, Cond.instanceMethod yX3_cut, Cond.selects RX3 yX3_cut yX3_cut, Cond.code yX3_cut cX3_cut 2 (some .int), Cond.methodLink RL 146 yL_lend, Cond.static yL_lend, Cond.codeWith yL_lend cL_lend 6 (some .int) [(0, 12, 15, 24), (0, 12, 19, 13), (0, 12, 23, 15)], Cond.methodLink RL 54 yX2_lend, Cond.instanceMethod yX2_lend, Cond.selects RX2 yX2_lend yX2_lend, Cond.code yX2_lend cX2_lend 5 (some .int), Cond.methodLink RX2 136 yX2_needCopy, Cond.instanceMethod yX2_needCopy, Cond.selects RX2 yX2_needCopy yX2_needCopy, Cond.code yX2_needCopy cX2_needCopy 2 none, Cond.methodLink RX2 139 yX2_needPerson, Cond.instanceMethod yX2_needPerson, Cond.selects RX2 yX2_needPerson yX2_needPerson]
def wsL_law0_r19 : List Cond := [Cond.code yX2_needPerson cX2_needPerson 2 none, Cond.methodLink RX2 142 yX2_needDays, Cond.instanceMethod yX2_needDays, Cond.selects RX2 yX2_needDays yX2_needDays, Cond.code yX2_needDays cX2_needDays 2 none, Cond.methodLink RX2 145 yX0_canBeLent, Cond.instanceMethod yX0_canBeLent, Cond.selects RX0 yX0_canBeLent yX0_canBeLent, Cond.code yX0_canBeLent cX0_canBeLent 2 (some .boolean), Cond.methodLink RX2 150 yX0_startLoan, Cond.instanceMethod yX0_startLoan, Cond.selects RX0 yX0_startLoan yX0_startLoan, Cond.code yX0_startLoan cX0_startLoan 6 none, Cond.methodLink RL 149 yX3_lend, Cond.instanceMethod yX3_lend, Cond.selects RX3 yX3_lend yX3_lend, Cond.code yX3_lend cX3_lend 5 (some .int), Cond.methodLink RX3 103 yX3_isCopy, Cond.instanceMethod yX3_isCopy, Cond.selects RX3 yX3_isCopy yX3_isCopy, Cond.code yX3_isCopy cX3_isCopy 2 (some .boolean), Cond.methodLink RX3 106 yX3_isPerson, Cond.static yX3_isPerson, Cond.code yX3_isPerson cX3_isPerson 1 (some .boolean)]
def wsL_law0_r20 : List Cond := [Cond.methodLink RL 150 yL_giveBack, Cond.static yL_giveBack, Cond.codeWith yL_giveBack cL_giveBack 4 (some .int) [(0, 9, 12, 24), (0, 9, 15, 15)], Cond.methodLink RL 58 yX2_giveBack, Cond.instanceMethod yX2_giveBack, Cond.selects RX2 yX2_giveBack yX2_giveBack, Cond.code yX2_giveBack cX2_giveBack 3 (some .int), Cond.fieldLink RX2 154 "KeyCabinet$Ledger" "stateOf" "[I", Cond.methodLink RX2 162 Lib.Math.max.name, Cond.static Lib.Math.max.name, Cond.initialized "java/lang/Math", Cond.code Lib.Math.max.name Lib.Math.max.code 2 (some .int), Cond.methodLink RX2 159 yX0_dueOf, Cond.instanceMethod yX0_dueOf, Cond.selects RX0 yX0_dueOf yX0_dueOf, Cond.code yX0_dueOf cX0_dueOf 2 (some .int), Cond.methodLink RX2 167 yX0_move, Cond.methodLink RL 152 yX3_giveBack, Cond.instanceMethod yX3_giveBack, Cond.selects RX3 yX3_giveBack yX3_giveBack, Cond.code yX3_giveBack cX3_giveBack 2 (some .int), Cond.methodLink RX3 109 Lib.Math.max.name, Cond.methodLink RL 153 yL_lose, Cond.static yL_lose]
def wsL_law0_r21 : List Cond := [Cond.codeWith yL_lose cL_lose 4 (some .int) [(0, 9, 12, 24), (0, 9, 15, 15)], Cond.methodLink RL 61 yX2_lose, Cond.instanceMethod yX2_lose, Cond.selects RX2 yX2_lose yX2_lose, Cond.code yX2_lose cX2_lose 3 (some .int), Cond.fieldLink RX2 173 "KeyCabinet$Ledger" "keyOf" "[I", Cond.methodLink RL 155 yX3_lose, Cond.instanceMethod yX3_lose, Cond.selects RX3 yX3_lose yX3_lose, Cond.code yX3_lose cX3_lose 2 (some .int), Cond.methodLink RL 156 yL_find, Cond.static yL_find, Cond.codeWith yL_find cL_find 4 (some .int) [(0, 9, 12, 24), (0, 9, 15, 15)], Cond.methodLink RL 64 yX2_find, Cond.instanceMethod yX2_find, Cond.selects RX2 yX2_find yX2_find, Cond.code yX2_find cX2_find 2 (some .int), Cond.methodLink RX2 178 yX2_doorsAtRisk, Cond.instanceMethod yX2_doorsAtRisk, Cond.selects RX2 yX2_doorsAtRisk yX2_doorsAtRisk, Cond.code yX2_doorsAtRisk cX2_doorsAtRisk 1 (some .int), Cond.methodLink RX2 249 yX0_keysLost, Cond.instanceMethod yX0_keysLost, Cond.selects RX0 yX0_keysLost yX0_keysLost]
def wsL_law0_r22 : List Cond := [Cond.code yX0_keysLost cX0_keysLost 3 (some .int), Cond.methodLink RX2 246 yX1_doorsOfAll, Cond.instanceMethod yX1_doorsOfAll, Cond.selects RX1 yX1_doorsOfAll yX1_doorsOfAll, Cond.code yX1_doorsOfAll cX1_doorsOfAll 4 (some .int), Cond.methodLink RX1 64 yX1_doorsOf, Cond.methodLink RL 158 yX3_find, Cond.instanceMethod yX3_find, Cond.selects RX3 yX3_find yX3_find, Cond.code yX3_find cX3_find 2 (some .int), Cond.methodLink RX3 114 yX3_riskyDoors, Cond.instanceMethod yX3_riskyDoors, Cond.selects RX3 yX3_riskyDoors yX3_riskyDoors, Cond.code yX3_riskyDoors cX3_riskyDoors 3 (some .int), Cond.methodLink RL 159 yL_pass, Cond.static yL_pass, Cond.codeWith yL_pass cL_pass 4 (some .int) [(0, 9, 12, 13), (0, 9, 15, 15)], Cond.methodLink RL 67 yX2_pass, Cond.instanceMethod yX2_pass, Cond.selects RX2 yX2_pass yX2_pass, Cond.code yX2_pass cX2_pass 2 (some .int), Cond.methodLink RL 161 yX3_pass, Cond.instanceMethod yX3_pass, Cond.selects RX3 yX3_pass yX3_pass]
def wsL_law0_r23 : List Cond := [Cond.code yX3_pass cX3_pass 2 (some .int), Cond.methodLink RL 162 yX2_today, Cond.instanceMethod yX2_today, Cond.selects RX2 yX2_today yX2_today, Cond.code yX2_today cX2_today 1 (some .int), Cond.methodLink RL 165 yX3_today, Cond.instanceMethod yX3_today, Cond.selects RX3 yX3_today yX3_today, Cond.code yX3_today cX3_today 1 (some .int), Cond.methodLink RL 166 yX2_copyCount, Cond.instanceMethod yX2_copyCount, Cond.selects RX2 yX2_copyCount yX2_copyCount, Cond.code yX2_copyCount cX2_copyCount 1 (some .int), Cond.methodLink RL 169 yX3_copyCount, Cond.instanceMethod yX3_copyCount, Cond.selects RX3 yX3_copyCount yX3_copyCount, Cond.code yX3_copyCount cX3_copyCount 1 (some .int), Cond.methodLink RL 170 yL_copy, Cond.static yL_copy, Cond.codeWith yL_copy cL_copy 5 (some .int) [(0, 10, 13, 24)], Cond.methodLink RL 70 yX2_copy, Cond.instanceMethod yX2_copy, Cond.selects RX2 yX2_copy yX2_copy, Cond.code yX2_copy cX2_copy 3 (some .int)]
def wsL_law0_r24 : List Cond := [Cond.fieldLink RX2 186 "KeyCabinet$Ledger" "timesLent" "[I", Cond.methodLink RX2 183 yX0_holderOf, Cond.instanceMethod yX0_holderOf, Cond.selects RX0 yX0_holderOf yX0_holderOf, Cond.code yX0_holderOf cX0_holderOf 2 (some .int), Cond.methodLink RL 172 yX3_copy, Cond.instanceMethod yX3_copy, Cond.selects RX3 yX3_copy yX3_copy, Cond.code yX3_copy cX3_copy 3 (some .int), Cond.methodLink RX3 117 yX3_told, Cond.instanceMethod yX3_told, Cond.selects RX3 yX3_told yX3_told, Cond.code yX3_told cX3_told 4 (some .int), Cond.methodLink RL 173 yX2_overdue, Cond.instanceMethod yX2_overdue, Cond.selects RX2 yX2_overdue yX2_overdue, Cond.code yX2_overdue cX2_overdue 1 (some .int), Cond.methodLink RX2 191 yX0_copiesDueBefore, Cond.instanceMethod yX0_copiesDueBefore, Cond.selects RX0 yX0_copiesDueBefore yX0_copiesDueBefore, Cond.code yX0_copiesDueBefore cX0_copiesDueBefore 4 (some .int), Cond.methodLink RX0 45 yX0_dueOf, Cond.methodLink RL 176 yX3_overdue, Cond.instanceMethod yX3_overdue]
def wsL_law0_r25 : List Cond := [Cond.selects RX3 yX3_overdue yX3_overdue, Cond.code yX3_overdue cX3_overdue 3 (some .int), Cond.methodLink RL 177 yL_holderAt, Cond.static yL_holderAt, Cond.codeWith yL_holderAt cL_holderAt 5 (some .int) [(0, 10, 13, 24), (0, 10, 17, 13)], Cond.methodLink RL 73 yX2_holderAt, Cond.instanceMethod yX2_holderAt, Cond.selects RX2 yX2_holderAt yX2_holderAt, Cond.code yX2_holderAt cX2_holderAt 3 (some .int), Cond.methodLink RX2 196 yX0_holderOn, Cond.instanceMethod yX0_holderOn, Cond.selects RX0 yX0_holderOn yX0_holderOn, Cond.code yX0_holderOn cX0_holderOn 5 (some .int), Cond.methodLink RL 179 yX3_holderAt, Cond.instanceMethod yX3_holderAt, Cond.selects RX3 yX3_holderAt yX3_holderAt, Cond.code yX3_holderAt cX3_holderAt 6 (some .int), Cond.methodLink RL 180 yL_reach, Cond.static yL_reach, Cond.codeWith yL_reach cL_reach 4 (some .int) [(0, 9, 12, 24)], Cond.methodLink RL 76 yX2_reach, Cond.instanceMethod yX2_reach, Cond.selects RX2 yX2_reach yX2_reach, Cond.code yX2_reach cX2_reach 2 (some .int)]
def wsL_law0_r26 : List Cond := [Cond.methodLink RX2 199 yX2_doorsReached, Cond.instanceMethod yX2_doorsReached, Cond.selects RX2 yX2_doorsReached yX2_doorsReached, Cond.code yX2_doorsReached cX2_doorsReached 2 (some .int), Cond.methodLink RX2 243 yX0_keysHeldBy, Cond.instanceMethod yX0_keysHeldBy, Cond.selects RX0 yX0_keysHeldBy yX0_keysHeldBy, Cond.code yX0_keysHeldBy cX0_keysHeldBy 4 (some .int), Cond.methodLink RX0 48 yX0_holderOf, Cond.methodLink RL 182 yX3_reach, Cond.instanceMethod yX3_reach, Cond.selects RX3 yX3_reach yX3_reach, Cond.code yX3_reach cX3_reach 2 (some .int), Cond.methodLink RX3 120 yX3_reachOf, Cond.instanceMethod yX3_reachOf, Cond.selects RX3 yX3_reachOf yX3_reachOf, Cond.code yX3_reachOf cX3_reachOf 4 (some .int), Cond.methodLink RL 183 yX2_risk, Cond.instanceMethod yX2_risk, Cond.selects RX2 yX2_risk yX2_risk, Cond.code yX2_risk cX2_risk 1 (some .int), Cond.methodLink RL 186 yX3_risk, Cond.instanceMethod yX3_risk, Cond.selects RX3 yX3_risk yX3_risk]
def wsL_law0_r27 : List Cond := [Cond.code yX3_risk cX3_risk 1 (some .int), Cond.methodLink RL 187 yL_suggest, Cond.static yL_suggest, Cond.codeWith yL_suggest cL_suggest 5 (some .int) [(0, 10, 13, 24), (0, 10, 17, 13)], Cond.methodLink RL 79 yX2_suggest, Cond.instanceMethod yX2_suggest, Cond.selects RX2 yX2_suggest yX2_suggest, Cond.code yX2_suggest cX2_suggest 4 (some .int), Cond.methodLink RX2 207 yX0_firstToLend, Cond.instanceMethod yX0_firstToLend, Cond.selects RX0 yX0_firstToLend yX0_firstToLend, Cond.code yX0_firstToLend cX0_firstToLend 3 (some .int), Cond.methodLink RX0 51 yX0_canBeLent, Cond.methodLink RX2 210 yX2_bestCopies, Cond.instanceMethod yX2_bestCopies, Cond.selects RX2 yX2_bestCopies yX2_bestCopies, Cond.code yX2_bestCopies cX2_bestCopies 9 (some .int), Cond.methodLink RX2 252 yX2_doorsOpenedBy, Cond.instanceMethod yX2_doorsOpenedBy, Cond.selects RX2 yX2_doorsOpenedBy yX2_doorsOpenedBy, Cond.code yX2_doorsOpenedBy cX2_doorsOpenedBy 4 (some .int), Cond.methodLink RX2 255 yX2_copiesOf, Cond.instanceMethod yX2_copiesOf, Cond.selects RX2 yX2_copiesOf yX2_copiesOf]
def wsL_law0_r28 : List Cond := [Cond.code yX2_copiesOf cX2_copiesOf 4 (some .int), Cond.methodLink RX2 213 yJ6_bitCount_0f7a4, Cond.methodLink RL 189 yX3_suggest, Cond.instanceMethod yX3_suggest, Cond.selects RX3 yX3_suggest yX3_suggest, Cond.code yX3_suggest cX3_suggest 13 (some .int), Cond.methodLink RL 190 yX2_exposure, Cond.instanceMethod yX2_exposure, Cond.selects RX2 yX2_exposure yX2_exposure, Cond.code yX2_exposure cX2_exposure 3 (some .double), Cond.methodLink RL 194 yX3_exposure, Cond.instanceMethod yX3_exposure, Cond.selects RX3 yX3_exposure yX3_exposure, Cond.code yX3_exposure cX3_exposure 3 (some .double), Cond.methodLink RL 195 yX2_digest, Cond.instanceMethod yX2_digest, Cond.selects RX2 yX2_digest yX2_digest, Cond.code yX2_digest cX2_digest 4 (some .long), Cond.constantLong RX2 218 (173), Cond.methodLink RX2 220 yX2_mix, Cond.static yX2_mix, Cond.code yX2_mix cX2_mix 4 (some .long), Cond.constantLong RX2 258 (31), Cond.methodLink RX2 224 yX2_mixDoor]
def wsL_law0_r29 : List Cond := [Cond.instanceMethod yX2_mixDoor, Cond.selects RX2 yX2_mixDoor yX2_mixDoor, Cond.code yX2_mixDoor cX2_mixDoor 7 (some .long), Cond.methodLink RX2 228 yX2_mixCopy, Cond.instanceMethod yX2_mixCopy, Cond.selects RX2 yX2_mixCopy yX2_mixCopy, Cond.code yX2_mixCopy cX2_mixCopy 6 (some .long), Cond.methodLink RL 199 yX3_digest, Cond.instanceMethod yX3_digest, Cond.selects RX3 yX3_digest yX3_digest, Cond.code yX3_digest cX3_digest 5 (some .long), Cond.constantLong RX3 123 (5363), Cond.constantLong RX3 125 (31)]
def wsL_law0 : List Cond := (wsL_law0_r1 ++ (wsL_law0_r2 ++ (wsL_law0_r3 ++ (wsL_law0_r4 ++ (wsL_law0_r5 ++ (wsL_law0_r6 ++ (wsL_law0_r7 ++ (wsL_law0_r8 ++ (wsL_law0_r9 ++ (wsL_law0_r10 ++ (wsL_law0_r11 ++ (wsL_law0_r12 ++ (wsL_law0_r13 ++ (wsL_law0_r14 ++ (wsL_law0_r15 ++ (wsL_law0_r16 ++ (wsL_law0_r17 ++ (wsL_law0_r18 ++ (wsL_law0_r19 ++ (wsL_law0_r20 ++ (wsL_law0_r21 ++ (wsL_law0_r22 ++ (wsL_law0_r23 ++ (wsL_law0_r24 ++ (wsL_law0_r25 ++ (wsL_law0_r26 ++ (wsL_law0_r27 ++ (wsL_law0_r28 ++ wsL_law0_r29)))))))))))))))))))))))))))) ++ wsX20 ++ wsX30 ++ wsX10 ++ wsX00 ++ ([] : List Cond)
def wsL_law : List Cond := wsL_law0 ++ (vx_atS RX2 38 "java/lang/IllegalArgumentException" ["java/lang/RuntimeException", "java/lang/Exception"]).filter goodWord ++ (vx_atS RX2 48 "java/lang/IllegalStateException" ["java/lang/RuntimeException", "java/lang/Exception"]).filter goodWord ++ (vx_atS RX2 91 "java/lang/IndexOutOfBoundsException" ["java/lang/RuntimeException", "java/lang/Exception"]).filter goodWord
end
section
set_option maxRecDepth 20000 in
theorem in_wsL_law0_r1 : ∀ w ∈ wsL_law0_r1, w ∈ lw_tbl := fun w h => (goodIn_r wsL_law0_r1 [41, 42, 29, 659, 660, 32, 908, 43, 44, 45, 46, 47, 48, 125, 49, 50, 30, 121, 86, 87, 31, 122, 85, 123] (by decide +kernel) (by decide +kernel) w h).1
set_option maxRecDepth 20000 in
theorem in_wsL_law0_r2 : ∀ w ∈ wsL_law0_r2, w ∈ lw_tbl := fun w h => (goodIn_r wsL_law0_r2 [124, 52, 53, 54, 55, 57, 58, 60, 61, 62, 64, 66, 89, 90, 91, 92, 94, 96, 98, 99, 100, 101, 102, 661] (by decide +kernel) (by decide +kernel) w h).1
set_option maxRecDepth 20000 in
theorem in_wsL_law0_r3 : ∀ w ∈ wsL_law0_r3, w ∈ lw_tbl := fun w h => (goodIn_r wsL_law0_r3 [662, 663, 664, 667, 669, 673, 674, 675, 676, 677, 678, 679, 258, 259, 28, 260, 261, 262, 263, 264, 265, 266, 267, 36] (by decide +kernel) (by decide +kernel) w h).1
set_option maxRecDepth 20000 in
theorem in_wsL_law0_r4 : ∀ w ∈ wsL_law0_r4, w ∈ lw_tbl := fun w h => (goodIn_r wsL_law0_r4 [335, 37, 63, 351, 352, 353, 354, 356, 357, 358, 359, 360, 361, 362, 715, 716, 717, 718, 665, 666, 719, 721, 14, 722] (by decide +kernel) (by decide +kernel) w h).1
set_option maxRecDepth 20000 in
theorem in_wsL_law0_r5 : ∀ w ∈ wsL_law0_r5, w ∈ lw_tbl := fun w h => (goodIn_r wsL_law0_r5 [711, 712, 713, 714, 363, 364, 365, 366, 367, 368, 369, 65, 370, 372, 5, 373, 374, 375, 376, 379, 380, 381, 382, 383] (by decide +kernel) (by decide +kernel) w h).1
set_option maxRecDepth 20000 in
theorem in_wsL_law0_r6 : ∀ w ∈ wsL_law0_r6, w ∈ lw_tbl := fun w h => (goodIn_r wsL_law0_r6 [384, 385, 386, 387, 388, 389, 390, 391, 392, 393, 394, 164, 165, 38, 166, 167, 168, 169, 723, 724, 725, 726, 668, 670] (by decide +kernel) (by decide +kernel) w h).1
set_option maxRecDepth 20000 in
theorem in_wsL_law0_r7 : ∀ w ∈ wsL_law0_r7, w ∈ lw_tbl := fun w h => (goodIn_r wsL_law0_r7 [727, 729, 15, 730, 731, 733, 16, 734, 735, 737, 17, 738, 739, 740, 741, 742, 743, 744, 745, 395, 396, 397, 398, 399] (by decide +kernel) (by decide +kernel) w h).1
set_option maxRecDepth 20000 in
theorem in_wsL_law0_r8 : ∀ w ∈ wsL_law0_r8, w ∈ lw_tbl := fun w h => (goodIn_r wsL_law0_r8 [400, 401, 402, 59, 403, 405, 6, 406, 407, 39, 423, 746, 747, 748, 749, 750, 752, 18, 753, 137, 138, 139, 140, 754] (by decide +kernel) (by decide +kernel) w h).1
set_option maxRecDepth 20000 in
theorem in_wsL_law0_r9 : ∀ w ∈ wsL_law0_r9, w ∈ lw_tbl := fun w h => (goodIn_r wsL_law0_r9 [755, 756, 757, 141, 142, 143, 144, 758, 759, 760, 761, 424, 425, 426, 427, 428, 429, 430, 56, 431, 433, 7, 434, 762] (by decide +kernel) (by decide +kernel) w h).1
set_option maxRecDepth 20000 in
theorem in_wsL_law0_r10 : ∀ w ∈ wsL_law0_r10, w ∈ lw_tbl := fun w h => (goodIn_r wsL_law0_r10 [763, 764, 765, 766, 768, 19, 769, 436, 437, 438, 439, 440, 441, 442, 248, 249, 250, 251, 770, 771, 772, 773, 444, 445] (by decide +kernel) (by decide +kernel) w h).1
set_option maxRecDepth 20000 in
theorem in_wsL_law0_r11 : ∀ w ∈ wsL_law0_r11, w ∈ lw_tbl := fun w h => (goodIn_r wsL_law0_r11 [446, 447, 448, 449, 450, 451, 158, 159, 160, 162, 163, 774, 775, 776, 777, 778, 780, 20, 781, 452, 453, 454, 455, 456] (by decide +kernel) (by decide +kernel) w h).1
set_option maxRecDepth 20000 in
theorem in_wsL_law0_r12 : ∀ w ∈ wsL_law0_r12, w ∈ lw_tbl := fun w h => (goodIn_r wsL_law0_r12 [457, 458, 459, 154, 155, 156, 157, 782, 783, 784, 785, 460, 461, 462, 463, 464, 465, 466, 467, 215, 216, 217, 786, 787] (by decide +kernel) (by decide +kernel) w h).1
set_option maxRecDepth 20000 in
theorem in_wsL_law0_r13 : ∀ w ∈ wsL_law0_r13, w ∈ lw_tbl := fun w h => (goodIn_r wsL_law0_r13 [788, 789, 790, 792, 21, 793, 145, 146, 147, 148, 149, 150, 151, 152, 153, 794, 795, 796, 797, 798, 800, 22, 801, 468] (by decide +kernel) (by decide +kernel) w h).1
set_option maxRecDepth 20000 in
theorem in_wsL_law0_r14 : ∀ w ∈ wsL_law0_r14, w ∈ lw_tbl := fun w h => (goodIn_r wsL_law0_r14 [469, 470, 471, 472, 473, 474, 475, 476, 477, 478, 479, 802, 803, 804, 805, 480, 481, 482, 483, 484, 485, 486, 487, 806] (by decide +kernel) (by decide +kernel) w h).1
set_option maxRecDepth 20000 in
theorem in_wsL_law0_r15 : ∀ w ∈ wsL_law0_r15, w ∈ lw_tbl := fun w h => (goodIn_r wsL_law0_r15 [807, 808, 809, 170, 171, 172, 173, 67, 810, 811, 812, 813, 488, 489, 490, 491, 492, 493, 494, 495, 496, 497, 498, 499] (by decide +kernel) (by decide +kernel) w h).1
set_option maxRecDepth 20000 in
theorem in_wsL_law0_r16 : ∀ w ∈ wsL_law0_r16, w ∈ lw_tbl := fun w h => (goodIn_r wsL_law0_r16 [500, 501, 502, 503, 504, 505, 506, 507, 508, 509, 510, 511, 512, 513, 514, 515, 516, 517, 518, 519, 520, 521, 522, 523] (by decide +kernel) (by decide +kernel) w h).1
set_option maxRecDepth 20000 in
theorem in_wsL_law0_r17 : ∀ w ∈ wsL_law0_r17, w ∈ lw_tbl := fun w h => (goodIn_r wsL_law0_r17 [524, 525, 526, 527, 194, 195, 196, 197, 814, 815, 816, 817, 672, 818, 820, 23, 821, 671, 528, 529, 530, 531, 532, 533] (by decide +kernel) (by decide +kernel) w h).1
set_option maxRecDepth 20000 in
theorem in_wsL_law0_r18 : ∀ w ∈ wsL_law0_r18, w ∈ lw_tbl := fun w h => (goodIn_r wsL_law0_r18 [534, 103, 536, 537, 538, 539, 822, 823, 824, 825, 540, 541, 542, 543, 544, 545, 546, 547, 549, 8, 550, 552, 554, 9] (by decide +kernel) (by decide +kernel) w h).1
set_option maxRecDepth 20000 in
theorem in_wsL_law0_r19 : ∀ w ∈ wsL_law0_r19, w ∈ lw_tbl := fun w h => (goodIn_r wsL_law0_r19 [555, 557, 559, 10, 560, 562, 563, 564, 565, 567, 568, 569, 570, 826, 827, 828, 829, 830, 832, 24, 833, 834, 835, 836] (by decide +kernel) (by decide +kernel) w h).1
set_option maxRecDepth 20000 in
theorem in_wsL_law0_r20 : ∀ w ∈ wsL_law0_r20, w ∈ lw_tbl := fun w h => (goodIn_r wsL_law0_r20 [571, 572, 573, 574, 575, 576, 577, 95, 579, 580, 40, 581, 257, 191, 192, 193, 582, 837, 838, 839, 840, 841, 583, 584] (by decide +kernel) (by decide +kernel) w h).1
set_option maxRecDepth 20000 in
theorem in_wsL_law0_r21 : ∀ w ∈ wsL_law0_r21, w ∈ lw_tbl := fun w h => (goodIn_r wsL_law0_r21 [585, 586, 587, 588, 589, 93, 842, 843, 844, 845, 591, 592, 593, 594, 595, 596, 597, 202, 204, 0, 205, 206, 207, 208] (by decide +kernel) (by decide +kernel) w h).1
set_option maxRecDepth 20000 in
theorem in_wsL_law0_r22 : ∀ w ∈ wsL_law0_r22, w ∈ lw_tbl := fun w h => (goodIn_r wsL_law0_r22 [209, 210, 211, 212, 213, 214, 846, 847, 848, 849, 850, 852, 25, 853, 599, 600, 601, 602, 603, 604, 605, 854, 855, 856] (by decide +kernel) (by decide +kernel) w h).1
set_option maxRecDepth 20000 in
theorem in_wsL_law0_r23 : ∀ w ∈ wsL_law0_r23, w ∈ lw_tbl := fun w h => (goodIn_r wsL_law0_r23 [857, 174, 175, 176, 177, 858, 859, 860, 861, 178, 179, 180, 181, 862, 863, 864, 865, 607, 608, 609, 610, 611, 612, 613] (by decide +kernel) (by decide +kernel) w h).1
set_option maxRecDepth 20000 in
theorem in_wsL_law0_r24 : ∀ w ∈ wsL_law0_r24, w ∈ lw_tbl := fun w h => (goodIn_r wsL_law0_r24 [97, 256, 231, 232, 233, 866, 867, 868, 869, 870, 872, 26, 873, 182, 183, 184, 185, 186, 187, 188, 189, 190, 874, 875] (by decide +kernel) (by decide +kernel) w h).1
set_option maxRecDepth 20000 in
theorem in_wsL_law0_r25 : ∀ w ∈ wsL_law0_r25, w ∈ lw_tbl := fun w h => (goodIn_r wsL_law0_r25 [876, 877, 615, 616, 617, 618, 619, 620, 621, 623, 624, 625, 626, 878, 879, 880, 881, 627, 628, 629, 630, 631, 632, 633] (by decide +kernel) (by decide +kernel) w h).1
set_option maxRecDepth 20000 in
theorem in_wsL_law0_r26 : ∀ w ∈ wsL_law0_r26, w ∈ lw_tbl := fun w h => (goodIn_r wsL_law0_r26 [222, 224, 1, 225, 226, 227, 228, 229, 230, 882, 883, 884, 885, 886, 888, 27, 889, 198, 199, 200, 201, 890, 891, 892] (by decide +kernel) (by decide +kernel) w h).1
set_option maxRecDepth 20000 in
theorem in_wsL_law0_r27 : ∀ w ∈ wsL_law0_r27, w ∈ lw_tbl := fun w h => (goodIn_r wsL_law0_r27 [893, 634, 635, 636, 637, 638, 639, 640, 642, 643, 644, 645, 646, 647, 649, 11, 650, 651, 653, 12, 654, 655, 657, 13] (by decide +kernel) (by decide +kernel) w h).1
set_option maxRecDepth 20000 in
theorem in_wsL_law0_r28 : ∀ w ∈ wsL_law0_r28, w ∈ lw_tbl := fun w h => (goodIn_r wsL_law0_r28 [658, 234, 894, 895, 896, 897, 218, 219, 220, 221, 898, 899, 900, 901, 235, 236, 237, 238, 239, 240, 241, 242, 243, 244] (by decide +kernel) (by decide +kernel) w h).1
set_option maxRecDepth 20000 in
theorem in_wsL_law0_r29 : ∀ w ∈ wsL_law0_r29, w ∈ lw_tbl := fun w h => (goodIn_r wsL_law0_r29 [246, 2, 247, 252, 254, 3, 255, 902, 903, 904, 905, 906, 907] (by decide +kernel) (by decide +kernel) w h).1
set_option maxRecDepth 20000 in
theorem in_wsX20 : ∀ w ∈ wsX20, w ∈ lw_tbl := fun w h => (goodIn_r wsX20 [126, 128, 130, 132, 134] (by decide +kernel) (by decide +kernel) w h).1
set_option maxRecDepth 20000 in
theorem in_wsX30 : ∀ w ∈ wsX30, w ∈ lw_tbl := fun w h => (goodIn_r wsX30 [680, 682, 684, 686, 688, 690, 692, 694, 696, 698, 700, 702, 704, 706, 708] (by decide +kernel) (by decide +kernel) w h).1
set_option maxRecDepth 20000 in
theorem in_wsX10 : ∀ w ∈ wsX10, w ∈ lw_tbl := fun w h => (goodIn_r wsX10 [68, 70, 72, 74, 76, 78, 80, 82] (by decide +kernel) (by decide +kernel) w h).1
set_option maxRecDepth 20000 in
theorem in_wsX00 : ∀ w ∈ wsX00, w ∈ lw_tbl := fun w h => (goodIn_r wsX00 [104, 106, 108, 110, 112, 114, 116, 118] (by decide +kernel) (by decide +kernel) w h).1
theorem wsL_law_in0 : ∀ w ∈ wsL_law0, w ∈ lw_tbl := fun w h => (List.mem_append.mp h).elim (fun h => (List.mem_append.mp h).elim (fun h => (List.mem_append.mp h).elim (fun h => (List.mem_append.mp h).elim (fun h => (List.mem_append.mp h).elim (fun h => (List.mem_append.mp h).elim (fun h => in_wsL_law0_r1 w h) (fun h => (List.mem_append.mp h).elim (fun h => in_wsL_law0_r2 w h) (fun h => (List.mem_append.mp h).elim (fun h => in_wsL_law0_r3 w h) (fun h => (List.mem_append.mp h).elim (fun h => in_wsL_law0_r4 w h) (fun h => (List.mem_append.mp h).elim (fun h => in_wsL_law0_r5 w h) (fun h => (List.mem_append.mp h).elim (fun h => in_wsL_law0_r6 w h) (fun h => (List.mem_append.mp h).elim (fun h => in_wsL_law0_r7 w h) (fun h => (List.mem_append.mp h).elim (fun h => in_wsL_law0_r8 w h) (fun h => (List.mem_append.mp h).elim (fun h => in_wsL_law0_r9 w h) (fun h => (List.mem_append.mp h).elim (fun h => in_wsL_law0_r10 w h) (fun h => (List.mem_append.mp h).elim (fun h => in_wsL_law0_r11 w h) (fun h => (List.mem_append.mp h).elim (fun h => in_wsL_law0_r12 w h) (fun h => (List.mem_append.mp h).elim (fun h => in_wsL_law0_r13 w h) (fun h => (List.mem_append.mp h).elim (fun h => in_wsL_law0_r14 w h) (fun h => (List.mem_append.mp h).elim (fun h => in_wsL_law0_r15 w h) (fun h => (List.mem_append.mp h).elim (fun h => in_wsL_law0_r16 w h) (fun h => (List.mem_append.mp h).elim (fun h => in_wsL_law0_r17 w h) (fun h => (List.mem_append.mp h).elim (fun h => in_wsL_law0_r18 w h) (fun h => (List.mem_append.mp h).elim (fun h => in_wsL_law0_r19 w h) (fun h => (List.mem_append.mp h).elim (fun h => in_wsL_law0_r20 w h) (fun h => (List.mem_append.mp h).elim (fun h => in_wsL_law0_r21 w h) (fun h => (List.mem_append.mp h).elim (fun h => in_wsL_law0_r22 w h) (fun h => (List.mem_append.mp h).elim (fun h => in_wsL_law0_r23 w h) (fun h => (List.mem_append.mp h).elim (fun h => in_wsL_law0_r24 w h) (fun h => (List.mem_append.mp h).elim (fun h => in_wsL_law0_r25 w h) (fun h => (List.mem_append.mp h).elim (fun h => in_wsL_law0_r26 w h) (fun h => (List.mem_append.mp h).elim (fun h => in_wsL_law0_r27 w h) (fun h => (List.mem_append.mp h).elim (fun h => in_wsL_law0_r28 w h) (fun h => in_wsL_law0_r29 w h))))))))))))))))))))))))))))) (fun h => in_wsX20 w h)) (fun h => in_wsX30 w h)) (fun h => in_wsX10 w h)) (fun h => in_wsX00 w h)) (fun h => absurd h List.not_mem_nil)
theorem wsL_law_x0 : ∀ w ∈ (vx_atS RX2 38 "java/lang/IllegalArgumentException" ["java/lang/RuntimeException", "java/lang/Exception"]).filter goodWord, w ∈ lw_tbl := by decide +kernel
theorem wsL_law_x1 : ∀ w ∈ (vx_atS RX2 48 "java/lang/IllegalStateException" ["java/lang/RuntimeException", "java/lang/Exception"]).filter goodWord, w ∈ lw_tbl := by decide +kernel
theorem wsL_law_x2 : ∀ w ∈ (vx_atS RX2 91 "java/lang/IndexOutOfBoundsException" ["java/lang/RuntimeException", "java/lang/Exception"]).filter goodWord, w ∈ lw_tbl := by decide +kernel
theorem wsL_law_in : ∀ w ∈ wsL_law, w ∈ lw_tbl := fun w h => (List.mem_append.mp h).elim (fun h => (List.mem_append.mp h).elim (fun h => (List.mem_append.mp h).elim (fun h => wsL_law_in0 w h) (fun h => wsL_law_x0 w h)) (fun h => wsL_law_x1 w h)) (fun h => wsL_law_x2 w h)
theorem inlX0 : ∀ w ∈ wsX00, w ∈ wsL_law := fun _ h => List.mem_append_left _ (List.mem_append_left _ (List.mem_append_left _ (List.mem_append_left _ (List.mem_append_right _ h))))
theorem inX0 : ∀ w ∈ wsX00, w ∈ lw_tbl := fun w h => wsL_law_in w (inlX0 w h)
theorem inlX1 : ∀ w ∈ wsX10, w ∈ wsL_law := fun _ h => List.mem_append_left _ (List.mem_append_left _ (List.mem_append_left _ (List.mem_append_left _ (List.mem_append_left _ (List.mem_append_right _ h)))))
theorem inX1 : ∀ w ∈ wsX10, w ∈ lw_tbl := fun w h => wsL_law_in w (inlX1 w h)
theorem inlX2 : ∀ w ∈ wsX20, w ∈ wsL_law := fun _ h => List.mem_append_left _ (List.mem_append_left _ (List.mem_append_left _ (List.mem_append_left _ (List.mem_append_left _ (List.mem_append_left _ (List.mem_append_left _ (List.mem_append_right _ h)))))))
theorem inX2 : ∀ w ∈ wsX20, w ∈ lw_tbl := fun w h => wsL_law_in w (inlX2 w h)
theorem inlX3 : ∀ w ∈ wsX30, w ∈ wsL_law := fun _ h => List.mem_append_left _ (List.mem_append_left _ (List.mem_append_left _ (List.mem_append_left _ (List.mem_append_left _ (List.mem_append_left _ (List.mem_append_right _ h))))))
theorem inX3 : ∀ w ∈ wsX30, w ∈ lw_tbl := fun w h => wsL_law_in w (inlX3 w h)
theorem inJ6 : ∀ w ∈ wsJ60, w ∈ lw_tbl := by decide +kernel
theorem inJ9 : ∀ w ∈ wsJ90, w ∈ lw_tbl := by decide +kernel
theorem inJ0 : ∀ w ∈ wsJ00, w ∈ lw_tbl := by decide +kernel
end
section
theorem dX0_init_0 : decode cX0_init 0 = .ok (.aload_n 0, 1) := by decide +kernel
theorem dX0_init_1 : decode cX0_init 1 = .ok (.invokespecial 3, 3) := by decide +kernel
theorem dX0_init_4 : decode cX0_init 4 = .ok (.aload_n 0, 1) := by decide +kernel
theorem dX0_init_5 : decode cX0_init 5 = .ok (.bipush 24, 2) := by decide +kernel
theorem dX0_init_7 : decode cX0_init 7 = .ok (.newarray .int, 2) := by decide +kernel
theorem dX0_init_9 : decode cX0_init 9 = .ok (.putfield 11, 3) := by decide +kernel
theorem dX0_init_12 : decode cX0_init 12 = .ok (.aload_n 0, 1) := by decide +kernel
theorem dX0_init_13 : decode cX0_init 13 = .ok (.bipush 24, 2) := by decide +kernel
theorem dX0_init_15 : decode cX0_init 15 = .ok (.newarray .int, 2) := by decide +kernel
theorem dX0_init_17 : decode cX0_init 17 = .ok (.putfield 15, 3) := by decide +kernel
theorem dX0_init_20 : decode cX0_init 20 = .ok (.aload_n 0, 1) := by decide +kernel
theorem dX0_init_21 : decode cX0_init 21 = .ok (.bipush 24, 2) := by decide +kernel
theorem dX0_init_23 : decode cX0_init 23 = .ok (.newarray .int, 2) := by decide +kernel
theorem dX0_init_25 : decode cX0_init 25 = .ok (.putfield 18, 3) := by decide +kernel
theorem dX0_init_28 : decode cX0_init 28 = .ok (.aload_n 0, 1) := by decide +kernel
theorem dX0_init_29 : decode cX0_init 29 = .ok (.sipush 216, 3) := by decide +kernel
theorem dX0_init_32 : decode cX0_init 32 = .ok (.newarray .int, 2) := by decide +kernel
theorem dX0_init_34 : decode cX0_init 34 = .ok (.putfield 21, 3) := by decide +kernel
theorem dX0_init_37 : decode cX0_init 37 = .ok (.aload_n 0, 1) := by decide +kernel
theorem dX0_init_38 : decode cX0_init 38 = .ok (.sipush 216, 3) := by decide +kernel
theorem dX0_init_41 : decode cX0_init 41 = .ok (.newarray .int, 2) := by decide +kernel
theorem dX0_init_43 : decode cX0_init 43 = .ok (.putfield 24, 3) := by decide +kernel
theorem dX0_init_46 : decode cX0_init 46 = .ok (.aload_n 0, 1) := by decide +kernel
theorem dX0_init_47 : decode cX0_init 47 = .ok (.sipush 216, 3) := by decide +kernel
theorem dX0_init_50 : decode cX0_init 50 = .ok (.newarray .int, 2) := by decide +kernel
theorem dX0_init_52 : decode cX0_init 52 = .ok (.putfield 27, 3) := by decide +kernel
theorem dX0_init_55 : decode cX0_init 55 = .ok (.aload_n 0, 1) := by decide +kernel
theorem dX0_init_56 : decode cX0_init 56 = .ok (.sipush 216, 3) := by decide +kernel
theorem dX0_init_59 : decode cX0_init 59 = .ok (.newarray .int, 2) := by decide +kernel
theorem dX0_init_61 : decode cX0_init 61 = .ok (.putfield 30, 3) := by decide +kernel
theorem dX0_init_64 : decode cX0_init 64 = .ok (.aload_n 0, 1) := by decide +kernel
theorem dX0_init_65 : decode cX0_init 65 = .ok (.iconst 0, 1) := by decide +kernel
theorem dX0_init_66 : decode cX0_init 66 = .ok (.putfield 33, 3) := by decide +kernel
theorem dX0_init_69 : decode cX0_init 69 = .ok (.return_, 1) := by decide +kernel
theorem dX0_takeCopy_0 : decode cX0_takeCopy 0 = .ok (.aload_n 0, 1) := by decide +kernel
theorem dX0_takeCopy_1 : decode cX0_takeCopy 1 = .ok (.getfield 33, 3) := by decide +kernel
theorem dX0_takeCopy_4 : decode cX0_takeCopy 4 = .ok (.istore_n 2, 1) := by decide +kernel
theorem dX0_takeCopy_5 : decode cX0_takeCopy 5 = .ok (.aload_n 0, 1) := by decide +kernel
theorem dX0_takeCopy_6 : decode cX0_takeCopy 6 = .ok (.getfield 11, 3) := by decide +kernel
theorem dX0_takeCopy_9 : decode cX0_takeCopy 9 = .ok (.iload_n 2, 1) := by decide +kernel
theorem dX0_takeCopy_10 : decode cX0_takeCopy 10 = .ok (.iload_n 1, 1) := by decide +kernel
theorem dX0_takeCopy_11 : decode cX0_takeCopy 11 = .ok (.iastore, 1) := by decide +kernel
theorem dX0_takeCopy_12 : decode cX0_takeCopy 12 = .ok (.aload_n 0, 1) := by decide +kernel
theorem dX0_takeCopy_13 : decode cX0_takeCopy 13 = .ok (.getfield 15, 3) := by decide +kernel
theorem dX0_takeCopy_16 : decode cX0_takeCopy 16 = .ok (.iload_n 2, 1) := by decide +kernel
theorem dX0_takeCopy_17 : decode cX0_takeCopy 17 = .ok (.iconst 0, 1) := by decide +kernel
theorem dX0_takeCopy_18 : decode cX0_takeCopy 18 = .ok (.iastore, 1) := by decide +kernel
theorem dX0_takeCopy_19 : decode cX0_takeCopy 19 = .ok (.aload_n 0, 1) := by decide +kernel
theorem dX0_takeCopy_20 : decode cX0_takeCopy 20 = .ok (.dup, 1) := by decide +kernel
theorem dX0_takeCopy_21 : decode cX0_takeCopy 21 = .ok (.getfield 33, 3) := by decide +kernel
theorem dX0_takeCopy_24 : decode cX0_takeCopy 24 = .ok (.iconst 1, 1) := by decide +kernel
theorem dX0_takeCopy_25 : decode cX0_takeCopy 25 = .ok (.iadd, 1) := by decide +kernel
theorem dX0_takeCopy_26 : decode cX0_takeCopy 26 = .ok (.putfield 33, 3) := by decide +kernel
theorem dX0_takeCopy_29 : decode cX0_takeCopy 29 = .ok (.iload_n 2, 1) := by decide +kernel
theorem dX0_takeCopy_30 : decode cX0_takeCopy 30 = .ok (.ireturn, 1) := by decide +kernel
theorem dX0_canBeLent_0 : decode cX0_canBeLent 0 = .ok (.aload_n 0, 1) := by decide +kernel
theorem dX0_canBeLent_1 : decode cX0_canBeLent 1 = .ok (.getfield 15, 3) := by decide +kernel
theorem dX0_canBeLent_4 : decode cX0_canBeLent 4 = .ok (.iload_n 1, 1) := by decide +kernel
theorem dX0_canBeLent_5 : decode cX0_canBeLent 5 = .ok (.iaload, 1) := by decide +kernel
theorem dX0_canBeLent_6 : decode cX0_canBeLent 6 = .ok (.ifCond .ne 18, 3) := by decide +kernel
theorem dX0_canBeLent_9 : decode cX0_canBeLent 9 = .ok (.aload_n 0, 1) := by decide +kernel
theorem dX0_canBeLent_10 : decode cX0_canBeLent 10 = .ok (.getfield 18, 3) := by decide +kernel
theorem dX0_canBeLent_13 : decode cX0_canBeLent 13 = .ok (.iload_n 1, 1) := by decide +kernel
theorem dX0_canBeLent_14 : decode cX0_canBeLent 14 = .ok (.iaload, 1) := by decide +kernel
theorem dX0_canBeLent_15 : decode cX0_canBeLent 15 = .ok (.bipush 9, 2) := by decide +kernel
theorem dX0_canBeLent_17 : decode cX0_canBeLent 17 = .ok (.if_icmp .ge 7, 3) := by decide +kernel
theorem dX0_canBeLent_20 : decode cX0_canBeLent 20 = .ok (.iconst 1, 1) := by decide +kernel
theorem dX0_canBeLent_21 : decode cX0_canBeLent 21 = .ok (.goto 4, 3) := by decide +kernel
theorem dX0_canBeLent_24 : decode cX0_canBeLent 24 = .ok (.iconst 0, 1) := by decide +kernel
theorem dX0_canBeLent_25 : decode cX0_canBeLent 25 = .ok (.ireturn, 1) := by decide +kernel
set_option maxRecDepth 20000 in
theorem ggX0_startLoan_X0_lastLoan : GoodIn wsX0_startLoan wsX0_lastLoan := goodIn_r _ [11, 1, 12, 13, 14, 15, 16, 17, 18, 19] (by decide +kernel) (by decide +kernel)
set_option maxRecDepth 20000 in
theorem gX0_startLoan_X0_lastLoan : GoodIn wsX0_startLoan (wsV RX0 37 RX0 yX0_lastLoan wsX0_lastLoan) := goodIn_app (goodIn_of _ (by decide +kernel)) ggX0_startLoan_X0_lastLoan
theorem dX0_startLoan_0 : decode cX0_startLoan 0 = .ok (.aload_n 0, 1) := by decide +kernel
theorem dX0_startLoan_1 : decode cX0_startLoan 1 = .ok (.getfield 18, 3) := by decide +kernel
theorem dX0_startLoan_4 : decode cX0_startLoan 4 = .ok (.iload_n 1, 1) := by decide +kernel
theorem dX0_startLoan_5 : decode cX0_startLoan 5 = .ok (.dup2, 1) := by decide +kernel
theorem dX0_startLoan_6 : decode cX0_startLoan 6 = .ok (.iaload, 1) := by decide +kernel
theorem dX0_startLoan_7 : decode cX0_startLoan 7 = .ok (.iconst 1, 1) := by decide +kernel
theorem dX0_startLoan_8 : decode cX0_startLoan 8 = .ok (.iadd, 1) := by decide +kernel
theorem dX0_startLoan_9 : decode cX0_startLoan 9 = .ok (.iastore, 1) := by decide +kernel
theorem dX0_startLoan_10 : decode cX0_startLoan 10 = .ok (.aload_n 0, 1) := by decide +kernel
theorem dX0_startLoan_11 : decode cX0_startLoan 11 = .ok (.getfield 15, 3) := by decide +kernel
theorem dX0_startLoan_14 : decode cX0_startLoan 14 = .ok (.iload_n 1, 1) := by decide +kernel
theorem dX0_startLoan_15 : decode cX0_startLoan 15 = .ok (.iconst 1, 1) := by decide +kernel
theorem dX0_startLoan_16 : decode cX0_startLoan 16 = .ok (.iastore, 1) := by decide +kernel
theorem dX0_startLoan_17 : decode cX0_startLoan 17 = .ok (.aload_n 0, 1) := by decide +kernel
theorem dX0_startLoan_18 : decode cX0_startLoan 18 = .ok (.iload_n 1, 1) := by decide +kernel
theorem dX0_startLoan_19 : decode cX0_startLoan 19 = .ok (.invokevirtual 37, 3) := by decide +kernel
theorem dX0_startLoan_22 : decode cX0_startLoan 22 = .ok (.istore 5, 2) := by decide +kernel
theorem dX0_startLoan_24 : decode cX0_startLoan 24 = .ok (.aload_n 0, 1) := by decide +kernel
theorem dX0_startLoan_25 : decode cX0_startLoan 25 = .ok (.getfield 21, 3) := by decide +kernel
theorem dX0_startLoan_28 : decode cX0_startLoan 28 = .ok (.iload 5, 2) := by decide +kernel
theorem dX0_startLoan_30 : decode cX0_startLoan 30 = .ok (.iload_n 2, 1) := by decide +kernel
theorem dX0_startLoan_31 : decode cX0_startLoan 31 = .ok (.iastore, 1) := by decide +kernel
theorem dX0_startLoan_32 : decode cX0_startLoan 32 = .ok (.aload_n 0, 1) := by decide +kernel
theorem dX0_startLoan_33 : decode cX0_startLoan 33 = .ok (.getfield 24, 3) := by decide +kernel
theorem dX0_startLoan_36 : decode cX0_startLoan 36 = .ok (.iload 5, 2) := by decide +kernel
theorem dX0_startLoan_38 : decode cX0_startLoan 38 = .ok (.iload_n 3, 1) := by decide +kernel
theorem dX0_startLoan_39 : decode cX0_startLoan 39 = .ok (.iastore, 1) := by decide +kernel
theorem dX0_startLoan_40 : decode cX0_startLoan 40 = .ok (.aload_n 0, 1) := by decide +kernel
theorem dX0_startLoan_41 : decode cX0_startLoan 41 = .ok (.getfield 27, 3) := by decide +kernel
theorem dX0_startLoan_44 : decode cX0_startLoan 44 = .ok (.iload 5, 2) := by decide +kernel
theorem dX0_startLoan_46 : decode cX0_startLoan 46 = .ok (.iload 4, 2) := by decide +kernel
theorem dX0_startLoan_48 : decode cX0_startLoan 48 = .ok (.iastore, 1) := by decide +kernel
theorem dX0_startLoan_49 : decode cX0_startLoan 49 = .ok (.aload_n 0, 1) := by decide +kernel
theorem dX0_startLoan_50 : decode cX0_startLoan 50 = .ok (.getfield 30, 3) := by decide +kernel
theorem dX0_startLoan_53 : decode cX0_startLoan 53 = .ok (.iload 5, 2) := by decide +kernel
theorem dX0_startLoan_55 : decode cX0_startLoan 55 = .ok (.sipush 10000, 3) := by decide +kernel
theorem dX0_startLoan_58 : decode cX0_startLoan 58 = .ok (.iastore, 1) := by decide +kernel
theorem dX0_startLoan_59 : decode cX0_startLoan 59 = .ok (.return_, 1) := by decide +kernel
set_option maxRecDepth 20000 in
theorem ggX0_move_X0_lastLoan : GoodIn wsX0_move wsX0_lastLoan := goodIn_r _ [7, 8, 9, 10, 11, 12, 13, 14, 15, 16] (by decide +kernel) (by decide +kernel)
set_option maxRecDepth 20000 in
theorem gX0_move_X0_lastLoan : GoodIn wsX0_move (wsV RX0 37 RX0 yX0_lastLoan wsX0_lastLoan) := goodIn_app (goodIn_of _ (by decide +kernel)) ggX0_move_X0_lastLoan
theorem dX0_move_0 : decode cX0_move 0 = .ok (.aload_n 0, 1) := by decide +kernel
theorem dX0_move_1 : decode cX0_move 1 = .ok (.getfield 15, 3) := by decide +kernel
theorem dX0_move_4 : decode cX0_move 4 = .ok (.iload_n 1, 1) := by decide +kernel
theorem dX0_move_5 : decode cX0_move 5 = .ok (.iaload, 1) := by decide +kernel
theorem dX0_move_6 : decode cX0_move 6 = .ok (.iconst 1, 1) := by decide +kernel
theorem dX0_move_7 : decode cX0_move 7 = .ok (.if_icmp .ne 14, 3) := by decide +kernel
theorem dX0_move_10 : decode cX0_move 10 = .ok (.aload_n 0, 1) := by decide +kernel
theorem dX0_move_11 : decode cX0_move 11 = .ok (.getfield 30, 3) := by decide +kernel
theorem dX0_move_14 : decode cX0_move 14 = .ok (.aload_n 0, 1) := by decide +kernel
theorem dX0_move_15 : decode cX0_move 15 = .ok (.iload_n 1, 1) := by decide +kernel
theorem dX0_move_16 : decode cX0_move 16 = .ok (.invokevirtual 37, 3) := by decide +kernel
theorem dX0_move_19 : decode cX0_move 19 = .ok (.iload_n 3, 1) := by decide +kernel
theorem dX0_move_20 : decode cX0_move 20 = .ok (.iastore, 1) := by decide +kernel
theorem dX0_move_21 : decode cX0_move 21 = .ok (.aload_n 0, 1) := by decide +kernel
theorem dX0_move_22 : decode cX0_move 22 = .ok (.getfield 15, 3) := by decide +kernel
theorem dX0_move_25 : decode cX0_move 25 = .ok (.iload_n 1, 1) := by decide +kernel
theorem dX0_move_26 : decode cX0_move 26 = .ok (.iload_n 2, 1) := by decide +kernel
theorem dX0_move_27 : decode cX0_move 27 = .ok (.iastore, 1) := by decide +kernel
theorem dX0_move_28 : decode cX0_move 28 = .ok (.return_, 1) := by decide +kernel
set_option maxRecDepth 20000 in
theorem ggX0_voidCopiesOf_X0_move : GoodIn wsX0_voidCopiesOf wsX0_move := goodIn_r _ [7, 8, 9, 10, 11, 12, 6, 13, 14, 15, 16, 17, 18, 19, 20, 21, 22] (by decide +kernel) (by decide +kernel)
set_option maxRecDepth 20000 in
theorem gX0_voidCopiesOf_X0_move : GoodIn wsX0_voidCopiesOf (wsV RX0 41 RX0 yX0_move wsX0_move) := goodIn_app (goodIn_of _ (by decide +kernel)) ggX0_voidCopiesOf_X0_move
theorem dX0_voidCopiesOf_0 : decode cX0_voidCopiesOf 0 = .ok (.iconst 0, 1) := by decide +kernel
theorem dX0_voidCopiesOf_1 : decode cX0_voidCopiesOf 1 = .ok (.istore_n 3, 1) := by decide +kernel
theorem dX0_voidCopiesOf_2 : decode cX0_voidCopiesOf 2 = .ok (.iload_n 3, 1) := by decide +kernel
theorem dX0_voidCopiesOf_3 : decode cX0_voidCopiesOf 3 = .ok (.aload_n 0, 1) := by decide +kernel
theorem dX0_voidCopiesOf_4 : decode cX0_voidCopiesOf 4 = .ok (.getfield 33, 3) := by decide +kernel
theorem dX0_voidCopiesOf_7 : decode cX0_voidCopiesOf 7 = .ok (.if_icmp .ge 26, 3) := by decide +kernel
theorem dX0_voidCopiesOf_10 : decode cX0_voidCopiesOf 10 = .ok (.aload_n 0, 1) := by decide +kernel
theorem dX0_voidCopiesOf_11 : decode cX0_voidCopiesOf 11 = .ok (.getfield 11, 3) := by decide +kernel
theorem dX0_voidCopiesOf_14 : decode cX0_voidCopiesOf 14 = .ok (.iload_n 3, 1) := by decide +kernel
theorem dX0_voidCopiesOf_15 : decode cX0_voidCopiesOf 15 = .ok (.iaload, 1) := by decide +kernel
theorem dX0_voidCopiesOf_16 : decode cX0_voidCopiesOf 16 = .ok (.iload_n 1, 1) := by decide +kernel
theorem dX0_voidCopiesOf_17 : decode cX0_voidCopiesOf 17 = .ok (.if_icmp .ne 10, 3) := by decide +kernel
theorem dX0_voidCopiesOf_20 : decode cX0_voidCopiesOf 20 = .ok (.aload_n 0, 1) := by decide +kernel
theorem dX0_voidCopiesOf_21 : decode cX0_voidCopiesOf 21 = .ok (.iload_n 3, 1) := by decide +kernel
theorem dX0_voidCopiesOf_22 : decode cX0_voidCopiesOf 22 = .ok (.iconst 3, 1) := by decide +kernel
theorem dX0_voidCopiesOf_23 : decode cX0_voidCopiesOf 23 = .ok (.iload_n 2, 1) := by decide +kernel
theorem dX0_voidCopiesOf_24 : decode cX0_voidCopiesOf 24 = .ok (.invokevirtual 41, 3) := by decide +kernel
theorem dX0_voidCopiesOf_27 : decode cX0_voidCopiesOf 27 = .ok (.iinc 3 1, 3) := by decide +kernel
theorem dX0_voidCopiesOf_30 : decode cX0_voidCopiesOf 30 = .ok (.goto (-28), 3) := by decide +kernel
theorem dX0_voidCopiesOf_33 : decode cX0_voidCopiesOf 33 = .ok (.return_, 1) := by decide +kernel
theorem dX0_lastLoan_0 : decode cX0_lastLoan 0 = .ok (.iload_n 1, 1) := by decide +kernel
theorem dX0_lastLoan_1 : decode cX0_lastLoan 1 = .ok (.bipush 9, 2) := by decide +kernel
theorem dX0_lastLoan_3 : decode cX0_lastLoan 3 = .ok (.imul, 1) := by decide +kernel
theorem dX0_lastLoan_4 : decode cX0_lastLoan 4 = .ok (.aload_n 0, 1) := by decide +kernel
theorem dX0_lastLoan_5 : decode cX0_lastLoan 5 = .ok (.getfield 18, 3) := by decide +kernel
theorem dX0_lastLoan_8 : decode cX0_lastLoan 8 = .ok (.iload_n 1, 1) := by decide +kernel
theorem dX0_lastLoan_9 : decode cX0_lastLoan 9 = .ok (.iaload, 1) := by decide +kernel
theorem dX0_lastLoan_10 : decode cX0_lastLoan 10 = .ok (.iadd, 1) := by decide +kernel
theorem dX0_lastLoan_11 : decode cX0_lastLoan 11 = .ok (.iconst 1, 1) := by decide +kernel
theorem dX0_lastLoan_12 : decode cX0_lastLoan 12 = .ok (.isub, 1) := by decide +kernel
theorem dX0_lastLoan_13 : decode cX0_lastLoan 13 = .ok (.ireturn, 1) := by decide +kernel
set_option maxRecDepth 20000 in
theorem ggX0_holderOf_X0_lastLoan : GoodIn wsX0_holderOf wsX0_lastLoan := goodIn_r _ [7, 8, 9, 10, 11, 12, 13, 14, 15, 16] (by decide +kernel) (by decide +kernel)
set_option maxRecDepth 20000 in
theorem gX0_holderOf_X0_lastLoan : GoodIn wsX0_holderOf (wsV RX0 37 RX0 yX0_lastLoan wsX0_lastLoan) := goodIn_app (goodIn_of _ (by decide +kernel)) ggX0_holderOf_X0_lastLoan
theorem dX0_holderOf_0 : decode cX0_holderOf 0 = .ok (.aload_n 0, 1) := by decide +kernel
theorem dX0_holderOf_1 : decode cX0_holderOf 1 = .ok (.getfield 15, 3) := by decide +kernel
theorem dX0_holderOf_4 : decode cX0_holderOf 4 = .ok (.iload_n 1, 1) := by decide +kernel
theorem dX0_holderOf_5 : decode cX0_holderOf 5 = .ok (.iaload, 1) := by decide +kernel
theorem dX0_holderOf_6 : decode cX0_holderOf 6 = .ok (.iconst 1, 1) := by decide +kernel
theorem dX0_holderOf_7 : decode cX0_holderOf 7 = .ok (.if_icmp .ne 16, 3) := by decide +kernel
theorem dX0_holderOf_10 : decode cX0_holderOf 10 = .ok (.aload_n 0, 1) := by decide +kernel
theorem dX0_holderOf_11 : decode cX0_holderOf 11 = .ok (.getfield 21, 3) := by decide +kernel
theorem dX0_holderOf_14 : decode cX0_holderOf 14 = .ok (.aload_n 0, 1) := by decide +kernel
theorem dX0_holderOf_15 : decode cX0_holderOf 15 = .ok (.iload_n 1, 1) := by decide +kernel
theorem dX0_holderOf_16 : decode cX0_holderOf 16 = .ok (.invokevirtual 37, 3) := by decide +kernel
theorem dX0_holderOf_19 : decode cX0_holderOf 19 = .ok (.iaload, 1) := by decide +kernel
theorem dX0_holderOf_20 : decode cX0_holderOf 20 = .ok (.goto 4, 3) := by decide +kernel
theorem dX0_holderOf_23 : decode cX0_holderOf 23 = .ok (.iconst (-1), 1) := by decide +kernel
theorem dX0_holderOf_24 : decode cX0_holderOf 24 = .ok (.ireturn, 1) := by decide +kernel
set_option maxRecDepth 20000 in
theorem ggX0_dueOf_X0_lastLoan : GoodIn wsX0_dueOf wsX0_lastLoan := goodIn_r _ [7, 8, 9, 10, 11, 12, 13, 14, 15, 16] (by decide +kernel) (by decide +kernel)
set_option maxRecDepth 20000 in
theorem gX0_dueOf_X0_lastLoan : GoodIn wsX0_dueOf (wsV RX0 37 RX0 yX0_lastLoan wsX0_lastLoan) := goodIn_app (goodIn_of _ (by decide +kernel)) ggX0_dueOf_X0_lastLoan
theorem dX0_dueOf_0 : decode cX0_dueOf 0 = .ok (.aload_n 0, 1) := by decide +kernel
theorem dX0_dueOf_1 : decode cX0_dueOf 1 = .ok (.getfield 15, 3) := by decide +kernel
theorem dX0_dueOf_4 : decode cX0_dueOf 4 = .ok (.iload_n 1, 1) := by decide +kernel
theorem dX0_dueOf_5 : decode cX0_dueOf 5 = .ok (.iaload, 1) := by decide +kernel
theorem dX0_dueOf_6 : decode cX0_dueOf 6 = .ok (.iconst 1, 1) := by decide +kernel
theorem dX0_dueOf_7 : decode cX0_dueOf 7 = .ok (.if_icmp .ne 16, 3) := by decide +kernel
theorem dX0_dueOf_10 : decode cX0_dueOf 10 = .ok (.aload_n 0, 1) := by decide +kernel
theorem dX0_dueOf_11 : decode cX0_dueOf 11 = .ok (.getfield 27, 3) := by decide +kernel
theorem dX0_dueOf_14 : decode cX0_dueOf 14 = .ok (.aload_n 0, 1) := by decide +kernel
theorem dX0_dueOf_15 : decode cX0_dueOf 15 = .ok (.iload_n 1, 1) := by decide +kernel
theorem dX0_dueOf_16 : decode cX0_dueOf 16 = .ok (.invokevirtual 37, 3) := by decide +kernel
theorem dX0_dueOf_19 : decode cX0_dueOf 19 = .ok (.iaload, 1) := by decide +kernel
theorem dX0_dueOf_20 : decode cX0_dueOf 20 = .ok (.goto 4, 3) := by decide +kernel
theorem dX0_dueOf_23 : decode cX0_dueOf 23 = .ok (.iconst (-1), 1) := by decide +kernel
theorem dX0_dueOf_24 : decode cX0_dueOf 24 = .ok (.ireturn, 1) := by decide +kernel
theorem dX0_holderOn_0 : decode cX0_holderOn 0 = .ok (.iconst 0, 1) := by decide +kernel
theorem dX0_holderOn_1 : decode cX0_holderOn 1 = .ok (.istore_n 3, 1) := by decide +kernel
theorem dX0_holderOn_2 : decode cX0_holderOn 2 = .ok (.iload_n 3, 1) := by decide +kernel
theorem dX0_holderOn_3 : decode cX0_holderOn 3 = .ok (.aload_n 0, 1) := by decide +kernel
theorem dX0_holderOn_4 : decode cX0_holderOn 4 = .ok (.getfield 18, 3) := by decide +kernel
theorem dX0_holderOn_7 : decode cX0_holderOn 7 = .ok (.iload_n 1, 1) := by decide +kernel
theorem dX0_holderOn_8 : decode cX0_holderOn 8 = .ok (.iaload, 1) := by decide +kernel
theorem dX0_holderOn_9 : decode cX0_holderOn 9 = .ok (.if_icmp .ge 47, 3) := by decide +kernel
theorem dX0_holderOn_12 : decode cX0_holderOn 12 = .ok (.iload_n 1, 1) := by decide +kernel
theorem dX0_holderOn_13 : decode cX0_holderOn 13 = .ok (.bipush 9, 2) := by decide +kernel
theorem dX0_holderOn_15 : decode cX0_holderOn 15 = .ok (.imul, 1) := by decide +kernel
theorem dX0_holderOn_16 : decode cX0_holderOn 16 = .ok (.iload_n 3, 1) := by decide +kernel
theorem dX0_holderOn_17 : decode cX0_holderOn 17 = .ok (.iadd, 1) := by decide +kernel
theorem dX0_holderOn_18 : decode cX0_holderOn 18 = .ok (.istore 4, 2) := by decide +kernel
theorem dX0_holderOn_20 : decode cX0_holderOn 20 = .ok (.aload_n 0, 1) := by decide +kernel
theorem dX0_holderOn_21 : decode cX0_holderOn 21 = .ok (.getfield 24, 3) := by decide +kernel
theorem dX0_holderOn_24 : decode cX0_holderOn 24 = .ok (.iload 4, 2) := by decide +kernel
theorem dX0_holderOn_26 : decode cX0_holderOn 26 = .ok (.iaload, 1) := by decide +kernel
theorem dX0_holderOn_27 : decode cX0_holderOn 27 = .ok (.iload_n 2, 1) := by decide +kernel
theorem dX0_holderOn_28 : decode cX0_holderOn 28 = .ok (.if_icmp .gt 22, 3) := by decide +kernel
theorem dX0_holderOn_31 : decode cX0_holderOn 31 = .ok (.iload_n 2, 1) := by decide +kernel
theorem dX0_holderOn_32 : decode cX0_holderOn 32 = .ok (.aload_n 0, 1) := by decide +kernel
theorem dX0_holderOn_33 : decode cX0_holderOn 33 = .ok (.getfield 30, 3) := by decide +kernel
theorem dX0_holderOn_36 : decode cX0_holderOn 36 = .ok (.iload 4, 2) := by decide +kernel
theorem dX0_holderOn_38 : decode cX0_holderOn 38 = .ok (.iaload, 1) := by decide +kernel
theorem dX0_holderOn_39 : decode cX0_holderOn 39 = .ok (.if_icmp .ge 11, 3) := by decide +kernel
theorem dX0_holderOn_42 : decode cX0_holderOn 42 = .ok (.aload_n 0, 1) := by decide +kernel
theorem dX0_holderOn_43 : decode cX0_holderOn 43 = .ok (.getfield 21, 3) := by decide +kernel
theorem dX0_holderOn_46 : decode cX0_holderOn 46 = .ok (.iload 4, 2) := by decide +kernel
theorem dX0_holderOn_48 : decode cX0_holderOn 48 = .ok (.iaload, 1) := by decide +kernel
theorem dX0_holderOn_49 : decode cX0_holderOn 49 = .ok (.ireturn, 1) := by decide +kernel
theorem dX0_holderOn_50 : decode cX0_holderOn 50 = .ok (.iinc 3 1, 3) := by decide +kernel
theorem dX0_holderOn_53 : decode cX0_holderOn 53 = .ok (.goto (-51), 3) := by decide +kernel
theorem dX0_holderOn_56 : decode cX0_holderOn 56 = .ok (.iconst (-1), 1) := by decide +kernel
theorem dX0_holderOn_57 : decode cX0_holderOn 57 = .ok (.ireturn, 1) := by decide +kernel
set_option maxRecDepth 20000 in
theorem ggX0_copiesDueBefore_X0_dueOf : GoodIn wsX0_copiesDueBefore wsX0_dueOf := goodIn_r _ [7, 2, 8, 9, 10, 11, 6, 12, 13, 14, 15, 16, 17, 18, 19, 20, 21] (by decide +kernel) (by decide +kernel)
set_option maxRecDepth 20000 in
theorem gX0_copiesDueBefore_X0_dueOf : GoodIn wsX0_copiesDueBefore (wsV RX0 45 RX0 yX0_dueOf wsX0_dueOf) := goodIn_app (goodIn_of _ (by decide +kernel)) ggX0_copiesDueBefore_X0_dueOf
theorem dX0_copiesDueBefore_0 : decode cX0_copiesDueBefore 0 = .ok (.iconst 0, 1) := by decide +kernel
theorem dX0_copiesDueBefore_1 : decode cX0_copiesDueBefore 1 = .ok (.istore_n 2, 1) := by decide +kernel
theorem dX0_copiesDueBefore_2 : decode cX0_copiesDueBefore 2 = .ok (.iconst 0, 1) := by decide +kernel
theorem dX0_copiesDueBefore_3 : decode cX0_copiesDueBefore 3 = .ok (.istore_n 3, 1) := by decide +kernel
theorem dX0_copiesDueBefore_4 : decode cX0_copiesDueBefore 4 = .ok (.iload_n 3, 1) := by decide +kernel
theorem dX0_copiesDueBefore_5 : decode cX0_copiesDueBefore 5 = .ok (.aload_n 0, 1) := by decide +kernel
theorem dX0_copiesDueBefore_6 : decode cX0_copiesDueBefore 6 = .ok (.getfield 33, 3) := by decide +kernel
theorem dX0_copiesDueBefore_9 : decode cX0_copiesDueBefore 9 = .ok (.if_icmp .ge 34, 3) := by decide +kernel
theorem dX0_copiesDueBefore_12 : decode cX0_copiesDueBefore 12 = .ok (.aload_n 0, 1) := by decide +kernel
theorem dX0_copiesDueBefore_13 : decode cX0_copiesDueBefore 13 = .ok (.getfield 15, 3) := by decide +kernel
theorem dX0_copiesDueBefore_16 : decode cX0_copiesDueBefore 16 = .ok (.iload_n 3, 1) := by decide +kernel
theorem dX0_copiesDueBefore_17 : decode cX0_copiesDueBefore 17 = .ok (.iaload, 1) := by decide +kernel
theorem dX0_copiesDueBefore_18 : decode cX0_copiesDueBefore 18 = .ok (.iconst 1, 1) := by decide +kernel
theorem dX0_copiesDueBefore_19 : decode cX0_copiesDueBefore 19 = .ok (.if_icmp .ne 18, 3) := by decide +kernel
theorem dX0_copiesDueBefore_22 : decode cX0_copiesDueBefore 22 = .ok (.aload_n 0, 1) := by decide +kernel
theorem dX0_copiesDueBefore_23 : decode cX0_copiesDueBefore 23 = .ok (.iload_n 3, 1) := by decide +kernel
theorem dX0_copiesDueBefore_24 : decode cX0_copiesDueBefore 24 = .ok (.invokevirtual 45, 3) := by decide +kernel
theorem dX0_copiesDueBefore_27 : decode cX0_copiesDueBefore 27 = .ok (.iload_n 1, 1) := by decide +kernel
theorem dX0_copiesDueBefore_28 : decode cX0_copiesDueBefore 28 = .ok (.if_icmp .ge 9, 3) := by decide +kernel
theorem dX0_copiesDueBefore_31 : decode cX0_copiesDueBefore 31 = .ok (.iload_n 2, 1) := by decide +kernel
theorem dX0_copiesDueBefore_32 : decode cX0_copiesDueBefore 32 = .ok (.iconst 1, 1) := by decide +kernel
theorem dX0_copiesDueBefore_33 : decode cX0_copiesDueBefore 33 = .ok (.iload_n 3, 1) := by decide +kernel
theorem dX0_copiesDueBefore_34 : decode cX0_copiesDueBefore 34 = .ok (.ishl, 1) := by decide +kernel
theorem dX0_copiesDueBefore_35 : decode cX0_copiesDueBefore 35 = .ok (.ior, 1) := by decide +kernel
theorem dX0_copiesDueBefore_36 : decode cX0_copiesDueBefore 36 = .ok (.istore_n 2, 1) := by decide +kernel
theorem dX0_copiesDueBefore_37 : decode cX0_copiesDueBefore 37 = .ok (.iinc 3 1, 3) := by decide +kernel
theorem dX0_copiesDueBefore_40 : decode cX0_copiesDueBefore 40 = .ok (.goto (-36), 3) := by decide +kernel
theorem dX0_copiesDueBefore_43 : decode cX0_copiesDueBefore 43 = .ok (.iload_n 2, 1) := by decide +kernel
theorem dX0_copiesDueBefore_44 : decode cX0_copiesDueBefore 44 = .ok (.ireturn, 1) := by decide +kernel
set_option maxRecDepth 20000 in
theorem ggX0_keysHeldBy_X0_holderOf : GoodIn wsX0_keysHeldBy wsX0_holderOf := goodIn_r _ [7, 8, 9, 10, 11, 12, 6, 13, 14, 15, 16, 17, 18, 19, 20, 21, 22] (by decide +kernel) (by decide +kernel)
set_option maxRecDepth 20000 in
theorem gX0_keysHeldBy_X0_holderOf : GoodIn wsX0_keysHeldBy (wsV RX0 48 RX0 yX0_holderOf wsX0_holderOf) := goodIn_app (goodIn_of _ (by decide +kernel)) ggX0_keysHeldBy_X0_holderOf
theorem dX0_keysHeldBy_0 : decode cX0_keysHeldBy 0 = .ok (.iconst 0, 1) := by decide +kernel
theorem dX0_keysHeldBy_1 : decode cX0_keysHeldBy 1 = .ok (.istore_n 2, 1) := by decide +kernel
theorem dX0_keysHeldBy_2 : decode cX0_keysHeldBy 2 = .ok (.iconst 0, 1) := by decide +kernel
theorem dX0_keysHeldBy_3 : decode cX0_keysHeldBy 3 = .ok (.istore_n 3, 1) := by decide +kernel
theorem dX0_keysHeldBy_4 : decode cX0_keysHeldBy 4 = .ok (.iload_n 3, 1) := by decide +kernel
theorem dX0_keysHeldBy_5 : decode cX0_keysHeldBy 5 = .ok (.aload_n 0, 1) := by decide +kernel
theorem dX0_keysHeldBy_6 : decode cX0_keysHeldBy 6 = .ok (.getfield 33, 3) := by decide +kernel
theorem dX0_keysHeldBy_9 : decode cX0_keysHeldBy 9 = .ok (.if_icmp .ge 29, 3) := by decide +kernel
theorem dX0_keysHeldBy_12 : decode cX0_keysHeldBy 12 = .ok (.aload_n 0, 1) := by decide +kernel
theorem dX0_keysHeldBy_13 : decode cX0_keysHeldBy 13 = .ok (.iload_n 3, 1) := by decide +kernel
theorem dX0_keysHeldBy_14 : decode cX0_keysHeldBy 14 = .ok (.invokevirtual 48, 3) := by decide +kernel
theorem dX0_keysHeldBy_17 : decode cX0_keysHeldBy 17 = .ok (.iload_n 1, 1) := by decide +kernel
theorem dX0_keysHeldBy_18 : decode cX0_keysHeldBy 18 = .ok (.if_icmp .ne 14, 3) := by decide +kernel
theorem dX0_keysHeldBy_21 : decode cX0_keysHeldBy 21 = .ok (.iload_n 2, 1) := by decide +kernel
theorem dX0_keysHeldBy_22 : decode cX0_keysHeldBy 22 = .ok (.iconst 1, 1) := by decide +kernel
theorem dX0_keysHeldBy_23 : decode cX0_keysHeldBy 23 = .ok (.aload_n 0, 1) := by decide +kernel
theorem dX0_keysHeldBy_24 : decode cX0_keysHeldBy 24 = .ok (.getfield 11, 3) := by decide +kernel
theorem dX0_keysHeldBy_27 : decode cX0_keysHeldBy 27 = .ok (.iload_n 3, 1) := by decide +kernel
theorem dX0_keysHeldBy_28 : decode cX0_keysHeldBy 28 = .ok (.iaload, 1) := by decide +kernel
theorem dX0_keysHeldBy_29 : decode cX0_keysHeldBy 29 = .ok (.ishl, 1) := by decide +kernel
theorem dX0_keysHeldBy_30 : decode cX0_keysHeldBy 30 = .ok (.ior, 1) := by decide +kernel
theorem dX0_keysHeldBy_31 : decode cX0_keysHeldBy 31 = .ok (.istore_n 2, 1) := by decide +kernel
theorem dX0_keysHeldBy_32 : decode cX0_keysHeldBy 32 = .ok (.iinc 3 1, 3) := by decide +kernel
theorem dX0_keysHeldBy_35 : decode cX0_keysHeldBy 35 = .ok (.goto (-31), 3) := by decide +kernel
theorem dX0_keysHeldBy_38 : decode cX0_keysHeldBy 38 = .ok (.iload_n 2, 1) := by decide +kernel
theorem dX0_keysHeldBy_39 : decode cX0_keysHeldBy 39 = .ok (.ireturn, 1) := by decide +kernel
theorem dX0_keysLost_0 : decode cX0_keysLost 0 = .ok (.iconst 0, 1) := by decide +kernel
theorem dX0_keysLost_1 : decode cX0_keysLost 1 = .ok (.istore_n 1, 1) := by decide +kernel
theorem dX0_keysLost_2 : decode cX0_keysLost 2 = .ok (.iconst 0, 1) := by decide +kernel
theorem dX0_keysLost_3 : decode cX0_keysLost 3 = .ok (.istore_n 2, 1) := by decide +kernel
theorem dX0_keysLost_4 : decode cX0_keysLost 4 = .ok (.iload_n 2, 1) := by decide +kernel
theorem dX0_keysLost_5 : decode cX0_keysLost 5 = .ok (.aload_n 0, 1) := by decide +kernel
theorem dX0_keysLost_6 : decode cX0_keysLost 6 = .ok (.getfield 33, 3) := by decide +kernel
theorem dX0_keysLost_9 : decode cX0_keysLost 9 = .ok (.if_icmp .ge 30, 3) := by decide +kernel
theorem dX0_keysLost_12 : decode cX0_keysLost 12 = .ok (.aload_n 0, 1) := by decide +kernel
theorem dX0_keysLost_13 : decode cX0_keysLost 13 = .ok (.getfield 15, 3) := by decide +kernel
theorem dX0_keysLost_16 : decode cX0_keysLost 16 = .ok (.iload_n 2, 1) := by decide +kernel
theorem dX0_keysLost_17 : decode cX0_keysLost 17 = .ok (.iaload, 1) := by decide +kernel
theorem dX0_keysLost_18 : decode cX0_keysLost 18 = .ok (.iconst 2, 1) := by decide +kernel
theorem dX0_keysLost_19 : decode cX0_keysLost 19 = .ok (.if_icmp .ne 14, 3) := by decide +kernel
theorem dX0_keysLost_22 : decode cX0_keysLost 22 = .ok (.iload_n 1, 1) := by decide +kernel
theorem dX0_keysLost_23 : decode cX0_keysLost 23 = .ok (.iconst 1, 1) := by decide +kernel
theorem dX0_keysLost_24 : decode cX0_keysLost 24 = .ok (.aload_n 0, 1) := by decide +kernel
theorem dX0_keysLost_25 : decode cX0_keysLost 25 = .ok (.getfield 11, 3) := by decide +kernel
theorem dX0_keysLost_28 : decode cX0_keysLost 28 = .ok (.iload_n 2, 1) := by decide +kernel
theorem dX0_keysLost_29 : decode cX0_keysLost 29 = .ok (.iaload, 1) := by decide +kernel
theorem dX0_keysLost_30 : decode cX0_keysLost 30 = .ok (.ishl, 1) := by decide +kernel
theorem dX0_keysLost_31 : decode cX0_keysLost 31 = .ok (.ior, 1) := by decide +kernel
theorem dX0_keysLost_32 : decode cX0_keysLost 32 = .ok (.istore_n 1, 1) := by decide +kernel
theorem dX0_keysLost_33 : decode cX0_keysLost 33 = .ok (.iinc 2 1, 3) := by decide +kernel
theorem dX0_keysLost_36 : decode cX0_keysLost 36 = .ok (.goto (-32), 3) := by decide +kernel
theorem dX0_keysLost_39 : decode cX0_keysLost 39 = .ok (.iload_n 1, 1) := by decide +kernel
theorem dX0_keysLost_40 : decode cX0_keysLost 40 = .ok (.ireturn, 1) := by decide +kernel
set_option maxRecDepth 20000 in
theorem ggX0_firstToLend_X0_canBeLent : GoodIn wsX0_firstToLend wsX0_canBeLent := goodIn_r _ [7, 8, 9, 10, 11, 12, 13, 14, 15, 16, 17] (by decide +kernel) (by decide +kernel)
set_option maxRecDepth 20000 in
theorem gX0_firstToLend_X0_canBeLent : GoodIn wsX0_firstToLend (wsV RX0 51 RX0 yX0_canBeLent wsX0_canBeLent) := goodIn_app (goodIn_of _ (by decide +kernel)) ggX0_firstToLend_X0_canBeLent
theorem dX0_firstToLend_0 : decode cX0_firstToLend 0 = .ok (.iconst 0, 1) := by decide +kernel
theorem dX0_firstToLend_1 : decode cX0_firstToLend 1 = .ok (.istore_n 2, 1) := by decide +kernel
theorem dX0_firstToLend_2 : decode cX0_firstToLend 2 = .ok (.iload_n 2, 1) := by decide +kernel
theorem dX0_firstToLend_3 : decode cX0_firstToLend 3 = .ok (.aload_n 0, 1) := by decide +kernel
theorem dX0_firstToLend_4 : decode cX0_firstToLend 4 = .ok (.getfield 33, 3) := by decide +kernel
theorem dX0_firstToLend_7 : decode cX0_firstToLend 7 = .ok (.if_icmp .ge 29, 3) := by decide +kernel
theorem dX0_firstToLend_10 : decode cX0_firstToLend 10 = .ok (.aload_n 0, 1) := by decide +kernel
theorem dX0_firstToLend_11 : decode cX0_firstToLend 11 = .ok (.getfield 11, 3) := by decide +kernel
theorem dX0_firstToLend_14 : decode cX0_firstToLend 14 = .ok (.iload_n 2, 1) := by decide +kernel
theorem dX0_firstToLend_15 : decode cX0_firstToLend 15 = .ok (.iaload, 1) := by decide +kernel
theorem dX0_firstToLend_16 : decode cX0_firstToLend 16 = .ok (.iload_n 1, 1) := by decide +kernel
theorem dX0_firstToLend_17 : decode cX0_firstToLend 17 = .ok (.if_icmp .ne 13, 3) := by decide +kernel
theorem dX0_firstToLend_20 : decode cX0_firstToLend 20 = .ok (.aload_n 0, 1) := by decide +kernel
theorem dX0_firstToLend_21 : decode cX0_firstToLend 21 = .ok (.iload_n 2, 1) := by decide +kernel
theorem dX0_firstToLend_22 : decode cX0_firstToLend 22 = .ok (.invokevirtual 51, 3) := by decide +kernel
theorem dX0_firstToLend_25 : decode cX0_firstToLend 25 = .ok (.ifCond .eq 5, 3) := by decide +kernel
theorem dX0_firstToLend_28 : decode cX0_firstToLend 28 = .ok (.iload_n 2, 1) := by decide +kernel
theorem dX0_firstToLend_29 : decode cX0_firstToLend 29 = .ok (.ireturn, 1) := by decide +kernel
theorem dX0_firstToLend_30 : decode cX0_firstToLend 30 = .ok (.iinc 2 1, 3) := by decide +kernel
theorem dX0_firstToLend_33 : decode cX0_firstToLend 33 = .ok (.goto (-31), 3) := by decide +kernel
theorem dX0_firstToLend_36 : decode cX0_firstToLend 36 = .ok (.iconst (-1), 1) := by decide +kernel
theorem dX0_firstToLend_37 : decode cX0_firstToLend 37 = .ok (.ireturn, 1) := by decide +kernel
theorem dX1_init_0 : decode cX1_init 0 = .ok (.aload_n 0, 1) := by decide +kernel
theorem dX1_init_1 : decode cX1_init 1 = .ok (.invokespecial 3, 3) := by decide +kernel
theorem dX1_init_4 : decode cX1_init 4 = .ok (.aload_n 0, 1) := by decide +kernel
theorem dX1_init_5 : decode cX1_init 5 = .ok (.bipush 8, 2) := by decide +kernel
theorem dX1_init_7 : decode cX1_init 7 = .ok (.newarray .int, 2) := by decide +kernel
theorem dX1_init_9 : decode cX1_init 9 = .ok (.putfield 11, 3) := by decide +kernel
theorem dX1_init_12 : decode cX1_init 12 = .ok (.aload_n 0, 1) := by decide +kernel
theorem dX1_init_13 : decode cX1_init 13 = .ok (.bipush 8, 2) := by decide +kernel
theorem dX1_init_15 : decode cX1_init 15 = .ok (.newarray .int, 2) := by decide +kernel
theorem dX1_init_17 : decode cX1_init 17 = .ok (.putfield 15, 3) := by decide +kernel
theorem dX1_init_20 : decode cX1_init 20 = .ok (.aload_n 0, 1) := by decide +kernel
theorem dX1_init_21 : decode cX1_init 21 = .ok (.bipush 8, 2) := by decide +kernel
theorem dX1_init_23 : decode cX1_init 23 = .ok (.newarray .int, 2) := by decide +kernel
theorem dX1_init_25 : decode cX1_init 25 = .ok (.putfield 18, 3) := by decide +kernel
theorem dX1_init_28 : decode cX1_init 28 = .ok (.aload_n 0, 1) := by decide +kernel
theorem dX1_init_29 : decode cX1_init 29 = .ok (.bipush 8, 2) := by decide +kernel
theorem dX1_init_31 : decode cX1_init 31 = .ok (.newarray .int, 2) := by decide +kernel
theorem dX1_init_33 : decode cX1_init 33 = .ok (.putfield 21, 3) := by decide +kernel
theorem dX1_init_36 : decode cX1_init 36 = .ok (.aload_n 0, 1) := by decide +kernel
theorem dX1_init_37 : decode cX1_init 37 = .ok (.bipush 8, 2) := by decide +kernel
theorem dX1_init_39 : decode cX1_init 39 = .ok (.newarray .int, 2) := by decide +kernel
theorem dX1_init_41 : decode cX1_init 41 = .ok (.putfield 24, 3) := by decide +kernel
theorem dX1_init_44 : decode cX1_init 44 = .ok (.aload_n 0, 1) := by decide +kernel
theorem dX1_init_45 : decode cX1_init 45 = .ok (.iconst 0, 1) := by decide +kernel
theorem dX1_init_46 : decode cX1_init 46 = .ok (.putfield 27, 3) := by decide +kernel
theorem dX1_init_49 : decode cX1_init 49 = .ok (.aload_n 0, 1) := by decide +kernel
theorem dX1_init_50 : decode cX1_init 50 = .ok (.iconst 0, 1) := by decide +kernel
theorem dX1_init_51 : decode cX1_init 51 = .ok (.putfield 31, 3) := by decide +kernel
theorem dX1_init_54 : decode cX1_init 54 = .ok (.aload_n 0, 1) := by decide +kernel
theorem dX1_init_55 : decode cX1_init 55 = .ok (.iconst 0, 1) := by decide +kernel
theorem dX1_init_56 : decode cX1_init 56 = .ok (.putfield 34, 3) := by decide +kernel
theorem dX1_init_59 : decode cX1_init 59 = .ok (.return_, 1) := by decide +kernel
theorem dX1_isTaken_0 : decode cX1_isTaken 0 = .ok (.iconst 0, 1) := by decide +kernel
theorem dX1_isTaken_1 : decode cX1_isTaken 1 = .ok (.istore_n 2, 1) := by decide +kernel
theorem dX1_isTaken_2 : decode cX1_isTaken 2 = .ok (.iload_n 2, 1) := by decide +kernel
theorem dX1_isTaken_3 : decode cX1_isTaken 3 = .ok (.aload_n 0, 1) := by decide +kernel
theorem dX1_isTaken_4 : decode cX1_isTaken 4 = .ok (.getfield 27, 3) := by decide +kernel
theorem dX1_isTaken_7 : decode cX1_isTaken 7 = .ok (.if_icmp .ge 21, 3) := by decide +kernel
theorem dX1_isTaken_10 : decode cX1_isTaken 10 = .ok (.aload_n 0, 1) := by decide +kernel
theorem dX1_isTaken_11 : decode cX1_isTaken 11 = .ok (.getfield 11, 3) := by decide +kernel
theorem dX1_isTaken_14 : decode cX1_isTaken 14 = .ok (.iload_n 2, 1) := by decide +kernel
theorem dX1_isTaken_15 : decode cX1_isTaken 15 = .ok (.iaload, 1) := by decide +kernel
theorem dX1_isTaken_16 : decode cX1_isTaken 16 = .ok (.iload_n 1, 1) := by decide +kernel
theorem dX1_isTaken_17 : decode cX1_isTaken 17 = .ok (.if_icmp .ne 5, 3) := by decide +kernel
theorem dX1_isTaken_20 : decode cX1_isTaken 20 = .ok (.iconst 1, 1) := by decide +kernel
theorem dX1_isTaken_21 : decode cX1_isTaken 21 = .ok (.ireturn, 1) := by decide +kernel
theorem dX1_isTaken_22 : decode cX1_isTaken 22 = .ok (.iinc 2 1, 3) := by decide +kernel
theorem dX1_isTaken_25 : decode cX1_isTaken 25 = .ok (.goto (-23), 3) := by decide +kernel
theorem dX1_isTaken_28 : decode cX1_isTaken 28 = .ok (.iconst 0, 1) := by decide +kernel
theorem dX1_isTaken_29 : decode cX1_isTaken 29 = .ok (.ireturn, 1) := by decide +kernel
set_option maxRecDepth 20000 in
theorem ggX1_takeKey_X1_teeth : GoodIn wsX1_takeKey wsX1_teeth := goodIn_r _ [7] (by decide +kernel) (by decide +kernel)
set_option maxRecDepth 20000 in
theorem gX1_takeKey_X1_teeth : GoodIn wsX1_takeKey (va_wsS RX1 37 yX1_teeth wsX1_teeth) := goodIn_app (goodIn_of _ (by decide +kernel)) ggX1_takeKey_X1_teeth
theorem dX1_takeKey_0 : decode cX1_takeKey 0 = .ok (.aload_n 0, 1) := by decide +kernel
theorem dX1_takeKey_1 : decode cX1_takeKey 1 = .ok (.getfield 27, 3) := by decide +kernel
theorem dX1_takeKey_4 : decode cX1_takeKey 4 = .ok (.istore_n 2, 1) := by decide +kernel
theorem dX1_takeKey_5 : decode cX1_takeKey 5 = .ok (.aload_n 0, 1) := by decide +kernel
theorem dX1_takeKey_6 : decode cX1_takeKey 6 = .ok (.getfield 11, 3) := by decide +kernel
theorem dX1_takeKey_9 : decode cX1_takeKey 9 = .ok (.iload_n 2, 1) := by decide +kernel
theorem dX1_takeKey_10 : decode cX1_takeKey 10 = .ok (.iload_n 1, 1) := by decide +kernel
theorem dX1_takeKey_11 : decode cX1_takeKey 11 = .ok (.iastore, 1) := by decide +kernel
theorem dX1_takeKey_12 : decode cX1_takeKey 12 = .ok (.aload_n 0, 1) := by decide +kernel
theorem dX1_takeKey_13 : decode cX1_takeKey 13 = .ok (.getfield 15, 3) := by decide +kernel
theorem dX1_takeKey_16 : decode cX1_takeKey 16 = .ok (.iload_n 2, 1) := by decide +kernel
theorem dX1_takeKey_17 : decode cX1_takeKey 17 = .ok (.iload_n 1, 1) := by decide +kernel
theorem dX1_takeKey_18 : decode cX1_takeKey 18 = .ok (.invokestatic 37, 3) := by decide +kernel
theorem dX1_takeKey_21 : decode cX1_takeKey 21 = .ok (.iastore, 1) := by decide +kernel
theorem dX1_takeKey_22 : decode cX1_takeKey 22 = .ok (.aload_n 0, 1) := by decide +kernel
theorem dX1_takeKey_23 : decode cX1_takeKey 23 = .ok (.dup, 1) := by decide +kernel
theorem dX1_takeKey_24 : decode cX1_takeKey 24 = .ok (.getfield 27, 3) := by decide +kernel
theorem dX1_takeKey_27 : decode cX1_takeKey 27 = .ok (.iconst 1, 1) := by decide +kernel
theorem dX1_takeKey_28 : decode cX1_takeKey 28 = .ok (.iadd, 1) := by decide +kernel
theorem dX1_takeKey_29 : decode cX1_takeKey 29 = .ok (.putfield 27, 3) := by decide +kernel
theorem dX1_takeKey_32 : decode cX1_takeKey 32 = .ok (.iload_n 2, 1) := by decide +kernel
theorem dX1_takeKey_33 : decode cX1_takeKey 33 = .ok (.ireturn, 1) := by decide +kernel
set_option maxRecDepth 20000 in
theorem ggX1_takeDoor_X1_giveRights : GoodIn wsX1_takeDoor wsX1_giveRights := goodIn_r _ [6, 7, 8, 9, 10, 5, 11, 12, 13, 14, 15, 16, 17, 18, 19, 20, 21, 22, 23, 24, 25, 26, 27, 28, 29, 30, 31, 32, 33, 34] (by decide +kernel) (by decide +kernel)
set_option maxRecDepth 20000 in
theorem gX1_takeDoor_X1_giveRights : GoodIn wsX1_takeDoor (wsV RX1 41 RX1 yX1_giveRights wsX1_giveRights) := goodIn_app (goodIn_of _ (by decide +kernel)) ggX1_takeDoor_X1_giveRights
theorem dX1_takeDoor_0 : decode cX1_takeDoor 0 = .ok (.aload_n 0, 1) := by decide +kernel
theorem dX1_takeDoor_1 : decode cX1_takeDoor 1 = .ok (.getfield 31, 3) := by decide +kernel
theorem dX1_takeDoor_4 : decode cX1_takeDoor 4 = .ok (.istore_n 2, 1) := by decide +kernel
theorem dX1_takeDoor_5 : decode cX1_takeDoor 5 = .ok (.aload_n 0, 1) := by decide +kernel
theorem dX1_takeDoor_6 : decode cX1_takeDoor 6 = .ok (.dup, 1) := by decide +kernel
theorem dX1_takeDoor_7 : decode cX1_takeDoor 7 = .ok (.getfield 31, 3) := by decide +kernel
theorem dX1_takeDoor_10 : decode cX1_takeDoor 10 = .ok (.iconst 1, 1) := by decide +kernel
theorem dX1_takeDoor_11 : decode cX1_takeDoor 11 = .ok (.iadd, 1) := by decide +kernel
theorem dX1_takeDoor_12 : decode cX1_takeDoor 12 = .ok (.putfield 31, 3) := by decide +kernel
theorem dX1_takeDoor_15 : decode cX1_takeDoor 15 = .ok (.aload_n 0, 1) := by decide +kernel
theorem dX1_takeDoor_16 : decode cX1_takeDoor 16 = .ok (.iload_n 2, 1) := by decide +kernel
theorem dX1_takeDoor_17 : decode cX1_takeDoor 17 = .ok (.iload_n 1, 1) := by decide +kernel
theorem dX1_takeDoor_18 : decode cX1_takeDoor 18 = .ok (.invokevirtual 41, 3) := by decide +kernel
theorem dX1_takeDoor_21 : decode cX1_takeDoor 21 = .ok (.iload_n 2, 1) := by decide +kernel
theorem dX1_takeDoor_22 : decode cX1_takeDoor 22 = .ok (.ireturn, 1) := by decide +kernel
set_option maxRecDepth 20000 in
theorem ggX1_giveRights_X1_changePins : GoodIn wsX1_giveRights wsX1_changePins := goodIn_r _ [6, 7, 1, 8, 9, 10, 11, 5, 12, 13, 14, 15, 16, 17, 18, 19, 20, 21, 22, 23, 24, 25, 26, 27, 28, 29] (by decide +kernel) (by decide +kernel)
set_option maxRecDepth 20000 in
theorem gX1_giveRights_X1_changePins : GoodIn wsX1_giveRights (wsV RX1 45 RX1 yX1_changePins wsX1_changePins) := goodIn_app (goodIn_of _ (by decide +kernel)) ggX1_giveRights_X1_changePins
theorem dX1_giveRights_0 : decode cX1_giveRights 0 = .ok (.aload_n 0, 1) := by decide +kernel
theorem dX1_giveRights_1 : decode cX1_giveRights 1 = .ok (.getfield 18, 3) := by decide +kernel
theorem dX1_giveRights_4 : decode cX1_giveRights 4 = .ok (.iload_n 1, 1) := by decide +kernel
theorem dX1_giveRights_5 : decode cX1_giveRights 5 = .ok (.iload_n 2, 1) := by decide +kernel
theorem dX1_giveRights_6 : decode cX1_giveRights 6 = .ok (.iastore, 1) := by decide +kernel
theorem dX1_giveRights_7 : decode cX1_giveRights 7 = .ok (.aload_n 0, 1) := by decide +kernel
theorem dX1_giveRights_8 : decode cX1_giveRights 8 = .ok (.iload_n 1, 1) := by decide +kernel
theorem dX1_giveRights_9 : decode cX1_giveRights 9 = .ok (.invokevirtual 45, 3) := by decide +kernel
theorem dX1_giveRights_12 : decode cX1_giveRights 12 = .ok (.return_, 1) := by decide +kernel
set_option maxRecDepth 20000 in
theorem ggX1_giveCode_X1_teeth : GoodIn wsX1_giveCode wsX1_teeth := goodIn_r _ [7] (by decide +kernel) (by decide +kernel)
set_option maxRecDepth 20000 in
theorem gX1_giveCode_X1_teeth : GoodIn wsX1_giveCode (va_wsS RX1 37 yX1_teeth wsX1_teeth) := goodIn_app (goodIn_of _ (by decide +kernel)) ggX1_giveCode_X1_teeth
set_option maxRecDepth 20000 in
theorem ggX1_giveCode_X1_changePins : GoodIn wsX1_giveCode wsX1_changePins := goodIn_r _ [11, 12, 13, 14, 15, 16, 17, 6, 18, 19, 2, 20, 21, 22, 23, 24, 25, 26, 27, 28, 29, 30, 31, 32, 33, 34] (by decide +kernel) (by decide +kernel)
set_option maxRecDepth 20000 in
theorem gX1_giveCode_X1_changePins : GoodIn wsX1_giveCode (wsV RX1 45 RX1 yX1_changePins wsX1_changePins) := goodIn_app (goodIn_of _ (by decide +kernel)) ggX1_giveCode_X1_changePins
theorem dX1_giveCode_0 : decode cX1_giveCode 0 = .ok (.aload_n 0, 1) := by decide +kernel
theorem dX1_giveCode_1 : decode cX1_giveCode 1 = .ok (.getfield 11, 3) := by decide +kernel
theorem dX1_giveCode_4 : decode cX1_giveCode 4 = .ok (.iload_n 1, 1) := by decide +kernel
theorem dX1_giveCode_5 : decode cX1_giveCode 5 = .ok (.iload_n 2, 1) := by decide +kernel
theorem dX1_giveCode_6 : decode cX1_giveCode 6 = .ok (.iastore, 1) := by decide +kernel
theorem dX1_giveCode_7 : decode cX1_giveCode 7 = .ok (.aload_n 0, 1) := by decide +kernel
theorem dX1_giveCode_8 : decode cX1_giveCode 8 = .ok (.getfield 15, 3) := by decide +kernel
theorem dX1_giveCode_11 : decode cX1_giveCode 11 = .ok (.iload_n 1, 1) := by decide +kernel
theorem dX1_giveCode_12 : decode cX1_giveCode 12 = .ok (.iload_n 2, 1) := by decide +kernel
theorem dX1_giveCode_13 : decode cX1_giveCode 13 = .ok (.invokestatic 37, 3) := by decide +kernel
theorem dX1_giveCode_16 : decode cX1_giveCode 16 = .ok (.iastore, 1) := by decide +kernel
theorem dX1_giveCode_17 : decode cX1_giveCode 17 = .ok (.iconst 0, 1) := by decide +kernel
theorem dX1_giveCode_18 : decode cX1_giveCode 18 = .ok (.istore_n 3, 1) := by decide +kernel
theorem dX1_giveCode_19 : decode cX1_giveCode 19 = .ok (.iload_n 3, 1) := by decide +kernel
theorem dX1_giveCode_20 : decode cX1_giveCode 20 = .ok (.aload_n 0, 1) := by decide +kernel
theorem dX1_giveCode_21 : decode cX1_giveCode 21 = .ok (.getfield 31, 3) := by decide +kernel
theorem dX1_giveCode_24 : decode cX1_giveCode 24 = .ok (.if_icmp .ge 14, 3) := by decide +kernel
theorem dX1_giveCode_27 : decode cX1_giveCode 27 = .ok (.aload_n 0, 1) := by decide +kernel
theorem dX1_giveCode_28 : decode cX1_giveCode 28 = .ok (.iload_n 3, 1) := by decide +kernel
theorem dX1_giveCode_29 : decode cX1_giveCode 29 = .ok (.invokevirtual 45, 3) := by decide +kernel
theorem dX1_giveCode_32 : decode cX1_giveCode 32 = .ok (.iinc 3 1, 3) := by decide +kernel
theorem dX1_giveCode_35 : decode cX1_giveCode 35 = .ok (.goto (-16), 3) := by decide +kernel
theorem dX1_giveCode_38 : decode cX1_giveCode 38 = .ok (.return_, 1) := by decide +kernel
set_option maxRecDepth 20000 in
theorem ggX1_changePins_X1_pinsFor : GoodIn wsX1_changePins wsX1_pinsFor := goodIn_r _ [8, 9, 10, 18, 19, 20, 21, 22, 23, 24, 25] (by decide +kernel) (by decide +kernel)
set_option maxRecDepth 20000 in
theorem gX1_changePins_X1_pinsFor : GoodIn wsX1_changePins (wsV RX1 49 RX1 yX1_pinsFor wsX1_pinsFor) := goodIn_app (goodIn_of _ (by decide +kernel)) ggX1_changePins_X1_pinsFor
set_option maxRecDepth 20000 in
theorem ggX1_changePins_J6_bitCount_0f7a4 : GoodIn wsX1_changePins wsJ6_bitCount_0f7a4 := goodIn_r _ [14, 15, 16, 17] (by decide +kernel) (by decide +kernel)
set_option maxRecDepth 20000 in
theorem gX1_changePins_J6_bitCount_0f7a4 : GoodIn wsX1_changePins (va_wsS RX1 52 yJ6_bitCount_0f7a4 wsJ6_bitCount_0f7a4) := goodIn_app (goodIn_of _ (by decide +kernel)) ggX1_changePins_J6_bitCount_0f7a4
theorem dX1_changePins_0 : decode cX1_changePins 0 = .ok (.aload_n 0, 1) := by decide +kernel
theorem dX1_changePins_1 : decode cX1_changePins 1 = .ok (.getfield 21, 3) := by decide +kernel
theorem dX1_changePins_4 : decode cX1_changePins 4 = .ok (.iload_n 1, 1) := by decide +kernel
theorem dX1_changePins_5 : decode cX1_changePins 5 = .ok (.iaload, 1) := by decide +kernel
theorem dX1_changePins_6 : decode cX1_changePins 6 = .ok (.istore_n 2, 1) := by decide +kernel
theorem dX1_changePins_7 : decode cX1_changePins 7 = .ok (.aload_n 0, 1) := by decide +kernel
theorem dX1_changePins_8 : decode cX1_changePins 8 = .ok (.getfield 21, 3) := by decide +kernel
theorem dX1_changePins_11 : decode cX1_changePins 11 = .ok (.iload_n 1, 1) := by decide +kernel
theorem dX1_changePins_12 : decode cX1_changePins 12 = .ok (.aload_n 0, 1) := by decide +kernel
theorem dX1_changePins_13 : decode cX1_changePins 13 = .ok (.aload_n 0, 1) := by decide +kernel
theorem dX1_changePins_14 : decode cX1_changePins 14 = .ok (.getfield 18, 3) := by decide +kernel
theorem dX1_changePins_17 : decode cX1_changePins 17 = .ok (.iload_n 1, 1) := by decide +kernel
theorem dX1_changePins_18 : decode cX1_changePins 18 = .ok (.iaload, 1) := by decide +kernel
theorem dX1_changePins_19 : decode cX1_changePins 19 = .ok (.invokevirtual 49, 3) := by decide +kernel
theorem dX1_changePins_22 : decode cX1_changePins 22 = .ok (.iastore, 1) := by decide +kernel
theorem dX1_changePins_23 : decode cX1_changePins 23 = .ok (.aload_n 0, 1) := by decide +kernel
theorem dX1_changePins_24 : decode cX1_changePins 24 = .ok (.dup, 1) := by decide +kernel
theorem dX1_changePins_25 : decode cX1_changePins 25 = .ok (.getfield 34, 3) := by decide +kernel
theorem dX1_changePins_28 : decode cX1_changePins 28 = .ok (.iload_n 2, 1) := by decide +kernel
theorem dX1_changePins_29 : decode cX1_changePins 29 = .ok (.aload_n 0, 1) := by decide +kernel
theorem dX1_changePins_30 : decode cX1_changePins 30 = .ok (.getfield 21, 3) := by decide +kernel
theorem dX1_changePins_33 : decode cX1_changePins 33 = .ok (.iload_n 1, 1) := by decide +kernel
theorem dX1_changePins_34 : decode cX1_changePins 34 = .ok (.iaload, 1) := by decide +kernel
theorem dX1_changePins_35 : decode cX1_changePins 35 = .ok (.ixor, 1) := by decide +kernel
theorem dX1_changePins_36 : decode cX1_changePins 36 = .ok (.invokestatic 52, 3) := by decide +kernel
theorem dX1_changePins_39 : decode cX1_changePins 39 = .ok (.iadd, 1) := by decide +kernel
theorem dX1_changePins_40 : decode cX1_changePins 40 = .ok (.putfield 34, 3) := by decide +kernel
theorem dX1_changePins_43 : decode cX1_changePins 43 = .ok (.return_, 1) := by decide +kernel
theorem dX1_pinsFor_0 : decode cX1_pinsFor 0 = .ok (.iconst 0, 1) := by decide +kernel
theorem dX1_pinsFor_1 : decode cX1_pinsFor 1 = .ok (.istore_n 2, 1) := by decide +kernel
theorem dX1_pinsFor_2 : decode cX1_pinsFor 2 = .ok (.iconst 0, 1) := by decide +kernel
theorem dX1_pinsFor_3 : decode cX1_pinsFor 3 = .ok (.istore_n 3, 1) := by decide +kernel
theorem dX1_pinsFor_4 : decode cX1_pinsFor 4 = .ok (.iload_n 3, 1) := by decide +kernel
theorem dX1_pinsFor_5 : decode cX1_pinsFor 5 = .ok (.aload_n 0, 1) := by decide +kernel
theorem dX1_pinsFor_6 : decode cX1_pinsFor 6 = .ok (.getfield 27, 3) := by decide +kernel
theorem dX1_pinsFor_9 : decode cX1_pinsFor 9 = .ok (.if_icmp .ge 27, 3) := by decide +kernel
theorem dX1_pinsFor_12 : decode cX1_pinsFor 12 = .ok (.iload_n 1, 1) := by decide +kernel
theorem dX1_pinsFor_13 : decode cX1_pinsFor 13 = .ok (.iload_n 3, 1) := by decide +kernel
theorem dX1_pinsFor_14 : decode cX1_pinsFor 14 = .ok (.ishr, 1) := by decide +kernel
theorem dX1_pinsFor_15 : decode cX1_pinsFor 15 = .ok (.iconst 1, 1) := by decide +kernel
theorem dX1_pinsFor_16 : decode cX1_pinsFor 16 = .ok (.iand, 1) := by decide +kernel
theorem dX1_pinsFor_17 : decode cX1_pinsFor 17 = .ok (.iconst 1, 1) := by decide +kernel
theorem dX1_pinsFor_18 : decode cX1_pinsFor 18 = .ok (.if_icmp .ne 12, 3) := by decide +kernel
theorem dX1_pinsFor_21 : decode cX1_pinsFor 21 = .ok (.iload_n 2, 1) := by decide +kernel
theorem dX1_pinsFor_22 : decode cX1_pinsFor 22 = .ok (.aload_n 0, 1) := by decide +kernel
theorem dX1_pinsFor_23 : decode cX1_pinsFor 23 = .ok (.getfield 15, 3) := by decide +kernel
theorem dX1_pinsFor_26 : decode cX1_pinsFor 26 = .ok (.iload_n 3, 1) := by decide +kernel
theorem dX1_pinsFor_27 : decode cX1_pinsFor 27 = .ok (.iaload, 1) := by decide +kernel
theorem dX1_pinsFor_28 : decode cX1_pinsFor 28 = .ok (.ior, 1) := by decide +kernel
theorem dX1_pinsFor_29 : decode cX1_pinsFor 29 = .ok (.istore_n 2, 1) := by decide +kernel
theorem dX1_pinsFor_30 : decode cX1_pinsFor 30 = .ok (.iinc 3 1, 3) := by decide +kernel
theorem dX1_pinsFor_33 : decode cX1_pinsFor 33 = .ok (.goto (-29), 3) := by decide +kernel
theorem dX1_pinsFor_36 : decode cX1_pinsFor 36 = .ok (.iload_n 2, 1) := by decide +kernel
theorem dX1_pinsFor_37 : decode cX1_pinsFor 37 = .ok (.ireturn, 1) := by decide +kernel
theorem dX1_teeth_0 : decode cX1_teeth 0 = .ok (.iconst 0, 1) := by decide +kernel
theorem dX1_teeth_1 : decode cX1_teeth 1 = .ok (.istore_n 1, 1) := by decide +kernel
theorem dX1_teeth_2 : decode cX1_teeth 2 = .ok (.iconst 0, 1) := by decide +kernel
theorem dX1_teeth_3 : decode cX1_teeth 3 = .ok (.istore_n 2, 1) := by decide +kernel
theorem dX1_teeth_4 : decode cX1_teeth 4 = .ok (.iload_n 2, 1) := by decide +kernel
theorem dX1_teeth_5 : decode cX1_teeth 5 = .ok (.iconst 5, 1) := by decide +kernel
theorem dX1_teeth_6 : decode cX1_teeth 6 = .ok (.if_icmp .ge 29, 3) := by decide +kernel
theorem dX1_teeth_9 : decode cX1_teeth 9 = .ok (.iload_n 0, 1) := by decide +kernel
theorem dX1_teeth_10 : decode cX1_teeth 10 = .ok (.iconst 4, 1) := by decide +kernel
theorem dX1_teeth_11 : decode cX1_teeth 11 = .ok (.iload_n 2, 1) := by decide +kernel
theorem dX1_teeth_12 : decode cX1_teeth 12 = .ok (.isub, 1) := by decide +kernel
theorem dX1_teeth_13 : decode cX1_teeth 13 = .ok (.iconst 2, 1) := by decide +kernel
theorem dX1_teeth_14 : decode cX1_teeth 14 = .ok (.imul, 1) := by decide +kernel
theorem dX1_teeth_15 : decode cX1_teeth 15 = .ok (.ishr, 1) := by decide +kernel
theorem dX1_teeth_16 : decode cX1_teeth 16 = .ok (.iconst 3, 1) := by decide +kernel
theorem dX1_teeth_17 : decode cX1_teeth 17 = .ok (.iand, 1) := by decide +kernel
theorem dX1_teeth_18 : decode cX1_teeth 18 = .ok (.istore_n 3, 1) := by decide +kernel
theorem dX1_teeth_19 : decode cX1_teeth 19 = .ok (.iload_n 1, 1) := by decide +kernel
theorem dX1_teeth_20 : decode cX1_teeth 20 = .ok (.iconst 1, 1) := by decide +kernel
theorem dX1_teeth_21 : decode cX1_teeth 21 = .ok (.iload_n 2, 1) := by decide +kernel
theorem dX1_teeth_22 : decode cX1_teeth 22 = .ok (.iconst 4, 1) := by decide +kernel
theorem dX1_teeth_23 : decode cX1_teeth 23 = .ok (.imul, 1) := by decide +kernel
theorem dX1_teeth_24 : decode cX1_teeth 24 = .ok (.iload_n 3, 1) := by decide +kernel
theorem dX1_teeth_25 : decode cX1_teeth 25 = .ok (.iadd, 1) := by decide +kernel
theorem dX1_teeth_26 : decode cX1_teeth 26 = .ok (.ishl, 1) := by decide +kernel
theorem dX1_teeth_27 : decode cX1_teeth 27 = .ok (.ior, 1) := by decide +kernel
theorem dX1_teeth_28 : decode cX1_teeth 28 = .ok (.istore_n 1, 1) := by decide +kernel
theorem dX1_teeth_29 : decode cX1_teeth 29 = .ok (.iinc 2 1, 3) := by decide +kernel
theorem dX1_teeth_32 : decode cX1_teeth 32 = .ok (.goto (-28), 3) := by decide +kernel
theorem dX1_teeth_35 : decode cX1_teeth 35 = .ok (.iload_n 1, 1) := by decide +kernel
theorem dX1_teeth_36 : decode cX1_teeth 36 = .ok (.ireturn, 1) := by decide +kernel
theorem dX1_pinsAt_0 : decode cX1_pinsAt 0 = .ok (.aload_n 0, 1) := by decide +kernel
theorem dX1_pinsAt_1 : decode cX1_pinsAt 1 = .ok (.getfield 21, 3) := by decide +kernel
theorem dX1_pinsAt_4 : decode cX1_pinsAt 4 = .ok (.iload_n 1, 1) := by decide +kernel
theorem dX1_pinsAt_5 : decode cX1_pinsAt 5 = .ok (.iaload, 1) := by decide +kernel
theorem dX1_pinsAt_6 : decode cX1_pinsAt 6 = .ok (.iload_n 2, 1) := by decide +kernel
theorem dX1_pinsAt_7 : decode cX1_pinsAt 7 = .ok (.iconst 4, 1) := by decide +kernel
theorem dX1_pinsAt_8 : decode cX1_pinsAt 8 = .ok (.imul, 1) := by decide +kernel
theorem dX1_pinsAt_9 : decode cX1_pinsAt 9 = .ok (.ishr, 1) := by decide +kernel
theorem dX1_pinsAt_10 : decode cX1_pinsAt 10 = .ok (.bipush 15, 2) := by decide +kernel
theorem dX1_pinsAt_12 : decode cX1_pinsAt 12 = .ok (.iand, 1) := by decide +kernel
theorem dX1_pinsAt_13 : decode cX1_pinsAt 13 = .ok (.ireturn, 1) := by decide +kernel
set_option maxRecDepth 20000 in
theorem ggX1_keyOpens_X2_contains : GoodIn wsX1_keyOpens wsX2_contains := goodIn_r _ [5] (by decide +kernel) (by decide +kernel)
set_option maxRecDepth 20000 in
theorem gX1_keyOpens_X2_contains_n57 : GoodIn wsX1_keyOpens (wsX2_contains) := ggX1_keyOpens_X2_contains
theorem dX1_keyOpens_0 : decode cX1_keyOpens 0 = .ok (.aload_n 0, 1) := by decide +kernel
theorem dX1_keyOpens_1 : decode cX1_keyOpens 1 = .ok (.getfield 21, 3) := by decide +kernel
theorem dX1_keyOpens_4 : decode cX1_keyOpens 4 = .ok (.iload_n 2, 1) := by decide +kernel
theorem dX1_keyOpens_5 : decode cX1_keyOpens 5 = .ok (.iaload, 1) := by decide +kernel
theorem dX1_keyOpens_6 : decode cX1_keyOpens 6 = .ok (.aload_n 0, 1) := by decide +kernel
theorem dX1_keyOpens_7 : decode cX1_keyOpens 7 = .ok (.getfield 15, 3) := by decide +kernel
theorem dX1_keyOpens_10 : decode cX1_keyOpens 10 = .ok (.iload_n 1, 1) := by decide +kernel
theorem dX1_keyOpens_11 : decode cX1_keyOpens 11 = .ok (.iaload, 1) := by decide +kernel
theorem dX1_keyOpens_12 : decode cX1_keyOpens 12 = .ok (.invokestatic 57, 3) := by decide +kernel
theorem dX1_keyOpens_15 : decode cX1_keyOpens 15 = .ok (.ireturn, 1) := by decide +kernel
set_option maxRecDepth 20000 in
theorem ggX1_openersOf_X1_keyOpens : GoodIn wsX1_openersOf wsX1_keyOpens := goodIn_r _ [6, 7, 8, 9, 10, 11, 12, 13, 14, 15, 16, 17, 18, 19] (by decide +kernel) (by decide +kernel)
set_option maxRecDepth 20000 in
theorem gX1_openersOf_X1_keyOpens : GoodIn wsX1_openersOf (wsV RX1 61 RX1 yX1_keyOpens wsX1_keyOpens) := goodIn_app (goodIn_of _ (by decide +kernel)) ggX1_openersOf_X1_keyOpens
theorem dX1_openersOf_0 : decode cX1_openersOf 0 = .ok (.iconst 0, 1) := by decide +kernel
theorem dX1_openersOf_1 : decode cX1_openersOf 1 = .ok (.istore_n 2, 1) := by decide +kernel
theorem dX1_openersOf_2 : decode cX1_openersOf 2 = .ok (.iconst 0, 1) := by decide +kernel
theorem dX1_openersOf_3 : decode cX1_openersOf 3 = .ok (.istore_n 3, 1) := by decide +kernel
theorem dX1_openersOf_4 : decode cX1_openersOf 4 = .ok (.iload_n 3, 1) := by decide +kernel
theorem dX1_openersOf_5 : decode cX1_openersOf 5 = .ok (.aload_n 0, 1) := by decide +kernel
theorem dX1_openersOf_6 : decode cX1_openersOf 6 = .ok (.getfield 27, 3) := by decide +kernel
theorem dX1_openersOf_9 : decode cX1_openersOf 9 = .ok (.if_icmp .ge 24, 3) := by decide +kernel
theorem dX1_openersOf_12 : decode cX1_openersOf 12 = .ok (.aload_n 0, 1) := by decide +kernel
theorem dX1_openersOf_13 : decode cX1_openersOf 13 = .ok (.iload_n 3, 1) := by decide +kernel
theorem dX1_openersOf_14 : decode cX1_openersOf 14 = .ok (.iload_n 1, 1) := by decide +kernel
theorem dX1_openersOf_15 : decode cX1_openersOf 15 = .ok (.invokevirtual 61, 3) := by decide +kernel
theorem dX1_openersOf_18 : decode cX1_openersOf 18 = .ok (.ifCond .eq 9, 3) := by decide +kernel
theorem dX1_openersOf_21 : decode cX1_openersOf 21 = .ok (.iload_n 2, 1) := by decide +kernel
theorem dX1_openersOf_22 : decode cX1_openersOf 22 = .ok (.iconst 1, 1) := by decide +kernel
theorem dX1_openersOf_23 : decode cX1_openersOf 23 = .ok (.iload_n 3, 1) := by decide +kernel
theorem dX1_openersOf_24 : decode cX1_openersOf 24 = .ok (.ishl, 1) := by decide +kernel
theorem dX1_openersOf_25 : decode cX1_openersOf 25 = .ok (.ior, 1) := by decide +kernel
theorem dX1_openersOf_26 : decode cX1_openersOf 26 = .ok (.istore_n 2, 1) := by decide +kernel
theorem dX1_openersOf_27 : decode cX1_openersOf 27 = .ok (.iinc 3 1, 3) := by decide +kernel
theorem dX1_openersOf_30 : decode cX1_openersOf 30 = .ok (.goto (-26), 3) := by decide +kernel
theorem dX1_openersOf_33 : decode cX1_openersOf 33 = .ok (.iload_n 2, 1) := by decide +kernel
theorem dX1_openersOf_34 : decode cX1_openersOf 34 = .ok (.ireturn, 1) := by decide +kernel
set_option maxRecDepth 20000 in
theorem ggX1_doorsOf_X1_keyOpens : GoodIn wsX1_doorsOf wsX1_keyOpens := goodIn_r _ [6, 7, 8, 9, 10, 11, 12, 13, 14, 15, 16, 17, 18, 19] (by decide +kernel) (by decide +kernel)
set_option maxRecDepth 20000 in
theorem gX1_doorsOf_X1_keyOpens : GoodIn wsX1_doorsOf (wsV RX1 61 RX1 yX1_keyOpens wsX1_keyOpens) := goodIn_app (goodIn_of _ (by decide +kernel)) ggX1_doorsOf_X1_keyOpens
theorem dX1_doorsOf_0 : decode cX1_doorsOf 0 = .ok (.iconst 0, 1) := by decide +kernel
theorem dX1_doorsOf_1 : decode cX1_doorsOf 1 = .ok (.istore_n 2, 1) := by decide +kernel
theorem dX1_doorsOf_2 : decode cX1_doorsOf 2 = .ok (.iconst 0, 1) := by decide +kernel
theorem dX1_doorsOf_3 : decode cX1_doorsOf 3 = .ok (.istore_n 3, 1) := by decide +kernel
theorem dX1_doorsOf_4 : decode cX1_doorsOf 4 = .ok (.iload_n 3, 1) := by decide +kernel
theorem dX1_doorsOf_5 : decode cX1_doorsOf 5 = .ok (.aload_n 0, 1) := by decide +kernel
theorem dX1_doorsOf_6 : decode cX1_doorsOf 6 = .ok (.getfield 31, 3) := by decide +kernel
theorem dX1_doorsOf_9 : decode cX1_doorsOf 9 = .ok (.if_icmp .ge 24, 3) := by decide +kernel
theorem dX1_doorsOf_12 : decode cX1_doorsOf 12 = .ok (.aload_n 0, 1) := by decide +kernel
theorem dX1_doorsOf_13 : decode cX1_doorsOf 13 = .ok (.iload_n 1, 1) := by decide +kernel
theorem dX1_doorsOf_14 : decode cX1_doorsOf 14 = .ok (.iload_n 3, 1) := by decide +kernel
theorem dX1_doorsOf_15 : decode cX1_doorsOf 15 = .ok (.invokevirtual 61, 3) := by decide +kernel
theorem dX1_doorsOf_18 : decode cX1_doorsOf 18 = .ok (.ifCond .eq 9, 3) := by decide +kernel
theorem dX1_doorsOf_21 : decode cX1_doorsOf 21 = .ok (.iload_n 2, 1) := by decide +kernel
theorem dX1_doorsOf_22 : decode cX1_doorsOf 22 = .ok (.iconst 1, 1) := by decide +kernel
theorem dX1_doorsOf_23 : decode cX1_doorsOf 23 = .ok (.iload_n 3, 1) := by decide +kernel
theorem dX1_doorsOf_24 : decode cX1_doorsOf 24 = .ok (.ishl, 1) := by decide +kernel
theorem dX1_doorsOf_25 : decode cX1_doorsOf 25 = .ok (.ior, 1) := by decide +kernel
theorem dX1_doorsOf_26 : decode cX1_doorsOf 26 = .ok (.istore_n 2, 1) := by decide +kernel
theorem dX1_doorsOf_27 : decode cX1_doorsOf 27 = .ok (.iinc 3 1, 3) := by decide +kernel
theorem dX1_doorsOf_30 : decode cX1_doorsOf 30 = .ok (.goto (-26), 3) := by decide +kernel
theorem dX1_doorsOf_33 : decode cX1_doorsOf 33 = .ok (.iload_n 2, 1) := by decide +kernel
theorem dX1_doorsOf_34 : decode cX1_doorsOf 34 = .ok (.ireturn, 1) := by decide +kernel
set_option maxRecDepth 20000 in
theorem ggX1_doorsOfAll_X1_doorsOf : GoodIn wsX1_doorsOfAll wsX1_doorsOf := goodIn_r _ [6, 7, 8, 9, 10, 5, 11, 12, 13, 14, 15, 16, 17, 18, 19, 20, 21, 22, 23, 24] (by decide +kernel) (by decide +kernel)
set_option maxRecDepth 20000 in
theorem gX1_doorsOfAll_X1_doorsOf : GoodIn wsX1_doorsOfAll (wsV RX1 64 RX1 yX1_doorsOf wsX1_doorsOf) := goodIn_app (goodIn_of _ (by decide +kernel)) ggX1_doorsOfAll_X1_doorsOf
theorem dX1_doorsOfAll_0 : decode cX1_doorsOfAll 0 = .ok (.iconst 0, 1) := by decide +kernel
theorem dX1_doorsOfAll_1 : decode cX1_doorsOfAll 1 = .ok (.istore_n 2, 1) := by decide +kernel
theorem dX1_doorsOfAll_2 : decode cX1_doorsOfAll 2 = .ok (.iconst 0, 1) := by decide +kernel
theorem dX1_doorsOfAll_3 : decode cX1_doorsOfAll 3 = .ok (.istore_n 3, 1) := by decide +kernel
theorem dX1_doorsOfAll_4 : decode cX1_doorsOfAll 4 = .ok (.iload_n 3, 1) := by decide +kernel
theorem dX1_doorsOfAll_5 : decode cX1_doorsOfAll 5 = .ok (.aload_n 0, 1) := by decide +kernel
theorem dX1_doorsOfAll_6 : decode cX1_doorsOfAll 6 = .ok (.getfield 27, 3) := by decide +kernel
theorem dX1_doorsOfAll_9 : decode cX1_doorsOfAll 9 = .ok (.if_icmp .ge 26, 3) := by decide +kernel
theorem dX1_doorsOfAll_12 : decode cX1_doorsOfAll 12 = .ok (.iload_n 1, 1) := by decide +kernel
theorem dX1_doorsOfAll_13 : decode cX1_doorsOfAll 13 = .ok (.iload_n 3, 1) := by decide +kernel
theorem dX1_doorsOfAll_14 : decode cX1_doorsOfAll 14 = .ok (.ishr, 1) := by decide +kernel
theorem dX1_doorsOfAll_15 : decode cX1_doorsOfAll 15 = .ok (.iconst 1, 1) := by decide +kernel
theorem dX1_doorsOfAll_16 : decode cX1_doorsOfAll 16 = .ok (.iand, 1) := by decide +kernel
theorem dX1_doorsOfAll_17 : decode cX1_doorsOfAll 17 = .ok (.iconst 1, 1) := by decide +kernel
theorem dX1_doorsOfAll_18 : decode cX1_doorsOfAll 18 = .ok (.if_icmp .ne 11, 3) := by decide +kernel
theorem dX1_doorsOfAll_21 : decode cX1_doorsOfAll 21 = .ok (.iload_n 2, 1) := by decide +kernel
theorem dX1_doorsOfAll_22 : decode cX1_doorsOfAll 22 = .ok (.aload_n 0, 1) := by decide +kernel
theorem dX1_doorsOfAll_23 : decode cX1_doorsOfAll 23 = .ok (.iload_n 3, 1) := by decide +kernel
theorem dX1_doorsOfAll_24 : decode cX1_doorsOfAll 24 = .ok (.invokevirtual 64, 3) := by decide +kernel
theorem dX1_doorsOfAll_27 : decode cX1_doorsOfAll 27 = .ok (.ior, 1) := by decide +kernel
theorem dX1_doorsOfAll_28 : decode cX1_doorsOfAll 28 = .ok (.istore_n 2, 1) := by decide +kernel
theorem dX1_doorsOfAll_29 : decode cX1_doorsOfAll 29 = .ok (.iinc 3 1, 3) := by decide +kernel
theorem dX1_doorsOfAll_32 : decode cX1_doorsOfAll 32 = .ok (.goto (-28), 3) := by decide +kernel
theorem dX1_doorsOfAll_35 : decode cX1_doorsOfAll 35 = .ok (.iload_n 2, 1) := by decide +kernel
theorem dX1_doorsOfAll_36 : decode cX1_doorsOfAll 36 = .ok (.ireturn, 1) := by decide +kernel
set_option maxRecDepth 20000 in
theorem ggX1_countStrays_X1_openersOf : GoodIn wsX1_countStrays wsX1_openersOf := goodIn_r _ [7, 8, 9, 10, 11, 6, 12, 13, 14, 15, 16, 17, 25, 26, 27, 28, 29, 30, 31, 32] (by decide +kernel) (by decide +kernel)
set_option maxRecDepth 20000 in
theorem gX1_countStrays_X1_openersOf : GoodIn wsX1_countStrays (wsV RX1 67 RX1 yX1_openersOf wsX1_openersOf) := goodIn_app (goodIn_of _ (by decide +kernel)) ggX1_countStrays_X1_openersOf
set_option maxRecDepth 20000 in
theorem ggX1_countStrays_J6_bitCount_0f7a4 : GoodIn wsX1_countStrays wsJ6_bitCount_0f7a4 := goodIn_r _ [21, 22, 23, 24] (by decide +kernel) (by decide +kernel)
set_option maxRecDepth 20000 in
theorem gX1_countStrays_J6_bitCount_0f7a4 : GoodIn wsX1_countStrays (va_wsS RX1 52 yJ6_bitCount_0f7a4 wsJ6_bitCount_0f7a4) := goodIn_app (goodIn_of _ (by decide +kernel)) ggX1_countStrays_J6_bitCount_0f7a4
theorem dX1_countStrays_0 : decode cX1_countStrays 0 = .ok (.iconst 0, 1) := by decide +kernel
theorem dX1_countStrays_1 : decode cX1_countStrays 1 = .ok (.istore_n 1, 1) := by decide +kernel
theorem dX1_countStrays_2 : decode cX1_countStrays 2 = .ok (.iconst 0, 1) := by decide +kernel
theorem dX1_countStrays_3 : decode cX1_countStrays 3 = .ok (.istore_n 2, 1) := by decide +kernel
theorem dX1_countStrays_4 : decode cX1_countStrays 4 = .ok (.iload_n 2, 1) := by decide +kernel
theorem dX1_countStrays_5 : decode cX1_countStrays 5 = .ok (.aload_n 0, 1) := by decide +kernel
theorem dX1_countStrays_6 : decode cX1_countStrays 6 = .ok (.getfield 31, 3) := by decide +kernel
theorem dX1_countStrays_9 : decode cX1_countStrays 9 = .ok (.if_icmp .ge 29, 3) := by decide +kernel
theorem dX1_countStrays_12 : decode cX1_countStrays 12 = .ok (.iload_n 1, 1) := by decide +kernel
theorem dX1_countStrays_13 : decode cX1_countStrays 13 = .ok (.aload_n 0, 1) := by decide +kernel
theorem dX1_countStrays_14 : decode cX1_countStrays 14 = .ok (.iload_n 2, 1) := by decide +kernel
theorem dX1_countStrays_15 : decode cX1_countStrays 15 = .ok (.invokevirtual 67, 3) := by decide +kernel
theorem dX1_countStrays_18 : decode cX1_countStrays 18 = .ok (.aload_n 0, 1) := by decide +kernel
theorem dX1_countStrays_19 : decode cX1_countStrays 19 = .ok (.getfield 18, 3) := by decide +kernel
theorem dX1_countStrays_22 : decode cX1_countStrays 22 = .ok (.iload_n 2, 1) := by decide +kernel
theorem dX1_countStrays_23 : decode cX1_countStrays 23 = .ok (.iaload, 1) := by decide +kernel
theorem dX1_countStrays_24 : decode cX1_countStrays 24 = .ok (.iconst (-1), 1) := by decide +kernel
theorem dX1_countStrays_25 : decode cX1_countStrays 25 = .ok (.ixor, 1) := by decide +kernel
theorem dX1_countStrays_26 : decode cX1_countStrays 26 = .ok (.iand, 1) := by decide +kernel
theorem dX1_countStrays_27 : decode cX1_countStrays 27 = .ok (.invokestatic 52, 3) := by decide +kernel
theorem dX1_countStrays_30 : decode cX1_countStrays 30 = .ok (.iadd, 1) := by decide +kernel
theorem dX1_countStrays_31 : decode cX1_countStrays 31 = .ok (.istore_n 1, 1) := by decide +kernel
theorem dX1_countStrays_32 : decode cX1_countStrays 32 = .ok (.iinc 2 1, 3) := by decide +kernel
theorem dX1_countStrays_35 : decode cX1_countStrays 35 = .ok (.goto (-31), 3) := by decide +kernel
theorem dX1_countStrays_38 : decode cX1_countStrays 38 = .ok (.iload_n 1, 1) := by decide +kernel
theorem dX1_countStrays_39 : decode cX1_countStrays 39 = .ok (.ireturn, 1) := by decide +kernel
set_option maxRecDepth 20000 in
theorem ggX1_countCodes_X1_pinsAt : GoodIn wsX1_countCodes wsX1_pinsAt := goodIn_r _ [5, 6, 14, 15, 16, 17, 18, 19, 20, 21] (by decide +kernel) (by decide +kernel)
set_option maxRecDepth 20000 in
theorem gX1_countCodes_X1_pinsAt : GoodIn wsX1_countCodes (wsV RX1 70 RX1 yX1_pinsAt wsX1_pinsAt) := goodIn_app (goodIn_of _ (by decide +kernel)) ggX1_countCodes_X1_pinsAt
set_option maxRecDepth 20000 in
theorem ggX1_countCodes_J6_bitCount_0f7a4 : GoodIn wsX1_countCodes wsJ6_bitCount_0f7a4 := goodIn_r _ [10, 11, 12, 13] (by decide +kernel) (by decide +kernel)
set_option maxRecDepth 20000 in
theorem gX1_countCodes_J6_bitCount_0f7a4 : GoodIn wsX1_countCodes (va_wsS RX1 52 yJ6_bitCount_0f7a4 wsJ6_bitCount_0f7a4) := goodIn_app (goodIn_of _ (by decide +kernel)) ggX1_countCodes_J6_bitCount_0f7a4
theorem dX1_countCodes_0 : decode cX1_countCodes 0 = .ok (.iconst 1, 1) := by decide +kernel
theorem dX1_countCodes_1 : decode cX1_countCodes 1 = .ok (.istore_n 2, 1) := by decide +kernel
theorem dX1_countCodes_2 : decode cX1_countCodes 2 = .ok (.iconst 0, 1) := by decide +kernel
theorem dX1_countCodes_3 : decode cX1_countCodes 3 = .ok (.istore_n 3, 1) := by decide +kernel
theorem dX1_countCodes_4 : decode cX1_countCodes 4 = .ok (.iload_n 3, 1) := by decide +kernel
theorem dX1_countCodes_5 : decode cX1_countCodes 5 = .ok (.iconst 5, 1) := by decide +kernel
theorem dX1_countCodes_6 : decode cX1_countCodes 6 = .ok (.if_icmp .ge 21, 3) := by decide +kernel
theorem dX1_countCodes_9 : decode cX1_countCodes 9 = .ok (.iload_n 2, 1) := by decide +kernel
theorem dX1_countCodes_10 : decode cX1_countCodes 10 = .ok (.aload_n 0, 1) := by decide +kernel
theorem dX1_countCodes_11 : decode cX1_countCodes 11 = .ok (.iload_n 1, 1) := by decide +kernel
theorem dX1_countCodes_12 : decode cX1_countCodes 12 = .ok (.iload_n 3, 1) := by decide +kernel
theorem dX1_countCodes_13 : decode cX1_countCodes 13 = .ok (.invokevirtual 70, 3) := by decide +kernel
theorem dX1_countCodes_16 : decode cX1_countCodes 16 = .ok (.invokestatic 52, 3) := by decide +kernel
theorem dX1_countCodes_19 : decode cX1_countCodes 19 = .ok (.imul, 1) := by decide +kernel
theorem dX1_countCodes_20 : decode cX1_countCodes 20 = .ok (.istore_n 2, 1) := by decide +kernel
theorem dX1_countCodes_21 : decode cX1_countCodes 21 = .ok (.iinc 3 1, 3) := by decide +kernel
theorem dX1_countCodes_24 : decode cX1_countCodes 24 = .ok (.goto (-20), 3) := by decide +kernel
theorem dX1_countCodes_27 : decode cX1_countCodes 27 = .ok (.iload_n 2, 1) := by decide +kernel
theorem dX1_countCodes_28 : decode cX1_countCodes 28 = .ok (.ireturn, 1) := by decide +kernel
set_option maxRecDepth 20000 in
theorem ggX1_bestCodeFor_X1_pinsFor : GoodIn wsX1_bestCodeFor wsX1_pinsFor := goodIn_r _ [8, 9, 10, 46, 47, 48, 49, 50, 51, 52, 53] (by decide +kernel) (by decide +kernel)
set_option maxRecDepth 20000 in
theorem gX1_bestCodeFor_X1_pinsFor : GoodIn wsX1_bestCodeFor (wsV RX1 49 RX1 yX1_pinsFor wsX1_pinsFor) := goodIn_app (goodIn_of _ (by decide +kernel)) ggX1_bestCodeFor_X1_pinsFor
set_option maxRecDepth 20000 in
theorem ggX1_bestCodeFor_X1_teeth : GoodIn wsX1_bestCodeFor wsX1_teeth := goodIn_r _ [13] (by decide +kernel) (by decide +kernel)
set_option maxRecDepth 20000 in
theorem gX1_bestCodeFor_X1_teeth : GoodIn wsX1_bestCodeFor (va_wsS RX1 37 yX1_teeth wsX1_teeth) := goodIn_app (goodIn_of _ (by decide +kernel)) ggX1_bestCodeFor_X1_teeth
set_option maxRecDepth 20000 in
theorem ggX1_bestCodeFor_X1_isTaken : GoodIn wsX1_bestCodeFor wsX1_isTaken := goodIn_r _ [17, 9, 18, 46, 47, 48, 49, 50, 51, 52, 53] (by decide +kernel) (by decide +kernel)
set_option maxRecDepth 20000 in
theorem gX1_bestCodeFor_X1_isTaken : GoodIn wsX1_bestCodeFor (wsV RX1 74 RX1 yX1_isTaken wsX1_isTaken) := goodIn_app (goodIn_of _ (by decide +kernel)) ggX1_bestCodeFor_X1_isTaken
set_option maxRecDepth 20000 in
theorem ggX1_bestCodeFor_X1_oldCodeOpens : GoodIn wsX1_bestCodeFor wsX1_oldCodeOpens := goodIn_r _ [22, 1, 10, 23, 24, 25, 7, 26, 3, 2, 27, 28, 29, 46, 47, 48, 49, 50, 51, 52, 53] (by decide +kernel) (by decide +kernel)
set_option maxRecDepth 20000 in
theorem gX1_bestCodeFor_X1_oldCodeOpens : GoodIn wsX1_bestCodeFor (wsV RX1 78 RX1 yX1_oldCodeOpens wsX1_oldCodeOpens) := goodIn_app (goodIn_of _ (by decide +kernel)) ggX1_bestCodeFor_X1_oldCodeOpens
set_option maxRecDepth 20000 in
theorem ggX1_bestCodeFor_X1_straysWith : GoodIn wsX1_bestCodeFor wsX1_straysWith := goodIn_r _ [33, 1, 9, 3, 10, 23, 24, 25, 7, 26, 2, 27, 28, 29, 46, 47, 48, 49, 50, 51, 52, 53] (by decide +kernel) (by decide +kernel)
set_option maxRecDepth 20000 in
theorem gX1_bestCodeFor_X1_straysWith : GoodIn wsX1_bestCodeFor (wsV RX1 81 RX1 yX1_straysWith wsX1_straysWith) := goodIn_app (goodIn_of _ (by decide +kernel)) ggX1_bestCodeFor_X1_straysWith
set_option maxRecDepth 20000 in
theorem ggX1_bestCodeFor_X1_workWith : GoodIn wsX1_bestCodeFor wsX1_workWith := goodIn_r _ [37, 1, 38, 23, 24, 25, 7, 26, 3, 2, 39, 40, 41, 42, 43, 44, 45, 46, 47, 48, 49, 50, 51, 52, 53] (by decide +kernel) (by decide +kernel)
set_option maxRecDepth 20000 in
theorem gX1_bestCodeFor_X1_workWith : GoodIn wsX1_bestCodeFor (wsV RX1 85 RX1 yX1_workWith wsX1_workWith) := goodIn_app (goodIn_of _ (by decide +kernel)) ggX1_bestCodeFor_X1_workWith
theorem dX1_bestCodeFor_0 : decode cX1_bestCodeFor 0 = .ok (.iconst 0, 1) := by decide +kernel
theorem dX1_bestCodeFor_1 : decode cX1_bestCodeFor 1 = .ok (.istore_n 2, 1) := by decide +kernel
theorem dX1_bestCodeFor_2 : decode cX1_bestCodeFor 2 = .ok (.iload_n 2, 1) := by decide +kernel
theorem dX1_bestCodeFor_3 : decode cX1_bestCodeFor 3 = .ok (.aload_n 0, 1) := by decide +kernel
theorem dX1_bestCodeFor_4 : decode cX1_bestCodeFor 4 = .ok (.getfield 31, 3) := by decide +kernel
theorem dX1_bestCodeFor_7 : decode cX1_bestCodeFor 7 = .ok (.if_icmp .ge 31, 3) := by decide +kernel
theorem dX1_bestCodeFor_10 : decode cX1_bestCodeFor 10 = .ok (.aload_n 0, 1) := by decide +kernel
theorem dX1_bestCodeFor_11 : decode cX1_bestCodeFor 11 = .ok (.getfield 24, 3) := by decide +kernel
theorem dX1_bestCodeFor_14 : decode cX1_bestCodeFor 14 = .ok (.iload_n 2, 1) := by decide +kernel
theorem dX1_bestCodeFor_15 : decode cX1_bestCodeFor 15 = .ok (.aload_n 0, 1) := by decide +kernel
theorem dX1_bestCodeFor_16 : decode cX1_bestCodeFor 16 = .ok (.aload_n 0, 1) := by decide +kernel
theorem dX1_bestCodeFor_17 : decode cX1_bestCodeFor 17 = .ok (.getfield 18, 3) := by decide +kernel
theorem dX1_bestCodeFor_20 : decode cX1_bestCodeFor 20 = .ok (.iload_n 2, 1) := by decide +kernel
theorem dX1_bestCodeFor_21 : decode cX1_bestCodeFor 21 = .ok (.iaload, 1) := by decide +kernel
theorem dX1_bestCodeFor_22 : decode cX1_bestCodeFor 22 = .ok (.iconst 1, 1) := by decide +kernel
theorem dX1_bestCodeFor_23 : decode cX1_bestCodeFor 23 = .ok (.iload_n 1, 1) := by decide +kernel
theorem dX1_bestCodeFor_24 : decode cX1_bestCodeFor 24 = .ok (.ishl, 1) := by decide +kernel
theorem dX1_bestCodeFor_25 : decode cX1_bestCodeFor 25 = .ok (.iconst (-1), 1) := by decide +kernel
theorem dX1_bestCodeFor_26 : decode cX1_bestCodeFor 26 = .ok (.ixor, 1) := by decide +kernel
theorem dX1_bestCodeFor_27 : decode cX1_bestCodeFor 27 = .ok (.iand, 1) := by decide +kernel
theorem dX1_bestCodeFor_28 : decode cX1_bestCodeFor 28 = .ok (.invokevirtual 49, 3) := by decide +kernel
theorem dX1_bestCodeFor_31 : decode cX1_bestCodeFor 31 = .ok (.iastore, 1) := by decide +kernel
theorem dX1_bestCodeFor_32 : decode cX1_bestCodeFor 32 = .ok (.iinc 2 1, 3) := by decide +kernel
theorem dX1_bestCodeFor_35 : decode cX1_bestCodeFor 35 = .ok (.goto (-33), 3) := by decide +kernel
theorem dX1_bestCodeFor_38 : decode cX1_bestCodeFor 38 = .ok (.iconst (-1), 1) := by decide +kernel
theorem dX1_bestCodeFor_39 : decode cX1_bestCodeFor 39 = .ok (.istore_n 2, 1) := by decide +kernel
theorem dX1_bestCodeFor_40 : decode cX1_bestCodeFor 40 = .ok (.bipush 64, 2) := by decide +kernel
theorem dX1_bestCodeFor_42 : decode cX1_bestCodeFor 42 = .ok (.istore_n 3, 1) := by decide +kernel
theorem dX1_bestCodeFor_43 : decode cX1_bestCodeFor 43 = .ok (.iconst 0, 1) := by decide +kernel
theorem dX1_bestCodeFor_44 : decode cX1_bestCodeFor 44 = .ok (.istore 4, 2) := by decide +kernel
theorem dX1_bestCodeFor_46 : decode cX1_bestCodeFor 46 = .ok (.iconst 0, 1) := by decide +kernel
theorem dX1_bestCodeFor_47 : decode cX1_bestCodeFor 47 = .ok (.istore 5, 2) := by decide +kernel
theorem dX1_bestCodeFor_49 : decode cX1_bestCodeFor 49 = .ok (.iload 5, 2) := by decide +kernel
theorem dX1_bestCodeFor_51 : decode cX1_bestCodeFor 51 = .ok (.sipush 1024, 3) := by decide +kernel
theorem dX1_bestCodeFor_54 : decode cX1_bestCodeFor 54 = .ok (.if_icmp .ge 94, 3) := by decide +kernel
theorem dX1_bestCodeFor_57 : decode cX1_bestCodeFor 57 = .ok (.iload 5, 2) := by decide +kernel
theorem dX1_bestCodeFor_59 : decode cX1_bestCodeFor 59 = .ok (.invokestatic 37, 3) := by decide +kernel
theorem dX1_bestCodeFor_62 : decode cX1_bestCodeFor 62 = .ok (.istore 6, 2) := by decide +kernel
theorem dX1_bestCodeFor_64 : decode cX1_bestCodeFor 64 = .ok (.aload_n 0, 1) := by decide +kernel
theorem dX1_bestCodeFor_65 : decode cX1_bestCodeFor 65 = .ok (.iload 5, 2) := by decide +kernel
theorem dX1_bestCodeFor_67 : decode cX1_bestCodeFor 67 = .ok (.invokevirtual 74, 3) := by decide +kernel
theorem dX1_bestCodeFor_70 : decode cX1_bestCodeFor 70 = .ok (.ifCond .ne 72, 3) := by decide +kernel
theorem dX1_bestCodeFor_73 : decode cX1_bestCodeFor 73 = .ok (.aload_n 0, 1) := by decide +kernel
theorem dX1_bestCodeFor_74 : decode cX1_bestCodeFor 74 = .ok (.iload_n 1, 1) := by decide +kernel
theorem dX1_bestCodeFor_75 : decode cX1_bestCodeFor 75 = .ok (.iload 6, 2) := by decide +kernel
theorem dX1_bestCodeFor_77 : decode cX1_bestCodeFor 77 = .ok (.invokevirtual 78, 3) := by decide +kernel
theorem dX1_bestCodeFor_80 : decode cX1_bestCodeFor 80 = .ok (.ifCond .eq 6, 3) := by decide +kernel
theorem dX1_bestCodeFor_83 : decode cX1_bestCodeFor 83 = .ok (.goto 59, 3) := by decide +kernel
theorem dX1_bestCodeFor_86 : decode cX1_bestCodeFor 86 = .ok (.aload_n 0, 1) := by decide +kernel
theorem dX1_bestCodeFor_87 : decode cX1_bestCodeFor 87 = .ok (.iload_n 1, 1) := by decide +kernel
theorem dX1_bestCodeFor_88 : decode cX1_bestCodeFor 88 = .ok (.iload 6, 2) := by decide +kernel
theorem dX1_bestCodeFor_90 : decode cX1_bestCodeFor 90 = .ok (.iload_n 3, 1) := by decide +kernel
theorem dX1_bestCodeFor_91 : decode cX1_bestCodeFor 91 = .ok (.invokevirtual 81, 3) := by decide +kernel
theorem dX1_bestCodeFor_94 : decode cX1_bestCodeFor 94 = .ok (.istore 7, 2) := by decide +kernel
theorem dX1_bestCodeFor_96 : decode cX1_bestCodeFor 96 = .ok (.iload 7, 2) := by decide +kernel
theorem dX1_bestCodeFor_98 : decode cX1_bestCodeFor 98 = .ok (.iload_n 3, 1) := by decide +kernel
theorem dX1_bestCodeFor_99 : decode cX1_bestCodeFor 99 = .ok (.if_icmp .le 6, 3) := by decide +kernel
theorem dX1_bestCodeFor_102 : decode cX1_bestCodeFor 102 = .ok (.goto 40, 3) := by decide +kernel
theorem dX1_bestCodeFor_105 : decode cX1_bestCodeFor 105 = .ok (.aload_n 0, 1) := by decide +kernel
theorem dX1_bestCodeFor_106 : decode cX1_bestCodeFor 106 = .ok (.iload_n 1, 1) := by decide +kernel
theorem dX1_bestCodeFor_107 : decode cX1_bestCodeFor 107 = .ok (.iload 6, 2) := by decide +kernel
theorem dX1_bestCodeFor_109 : decode cX1_bestCodeFor 109 = .ok (.invokevirtual 85, 3) := by decide +kernel
theorem dX1_bestCodeFor_112 : decode cX1_bestCodeFor 112 = .ok (.istore 8, 2) := by decide +kernel
theorem dX1_bestCodeFor_114 : decode cX1_bestCodeFor 114 = .ok (.iload_n 2, 1) := by decide +kernel
theorem dX1_bestCodeFor_115 : decode cX1_bestCodeFor 115 = .ok (.iconst (-1), 1) := by decide +kernel
theorem dX1_bestCodeFor_116 : decode cX1_bestCodeFor 116 = .ok (.if_icmp .eq 16, 3) := by decide +kernel
theorem dX1_bestCodeFor_119 : decode cX1_bestCodeFor 119 = .ok (.iload 7, 2) := by decide +kernel
theorem dX1_bestCodeFor_121 : decode cX1_bestCodeFor 121 = .ok (.iload_n 3, 1) := by decide +kernel
theorem dX1_bestCodeFor_122 : decode cX1_bestCodeFor 122 = .ok (.if_icmp .lt 10, 3) := by decide +kernel
theorem dX1_bestCodeFor_125 : decode cX1_bestCodeFor 125 = .ok (.iload 8, 2) := by decide +kernel
theorem dX1_bestCodeFor_127 : decode cX1_bestCodeFor 127 = .ok (.iload 4, 2) := by decide +kernel
theorem dX1_bestCodeFor_129 : decode cX1_bestCodeFor 129 = .ok (.if_icmp .ge 13, 3) := by decide +kernel
theorem dX1_bestCodeFor_132 : decode cX1_bestCodeFor 132 = .ok (.iload 5, 2) := by decide +kernel
theorem dX1_bestCodeFor_134 : decode cX1_bestCodeFor 134 = .ok (.istore_n 2, 1) := by decide +kernel
theorem dX1_bestCodeFor_135 : decode cX1_bestCodeFor 135 = .ok (.iload 7, 2) := by decide +kernel
theorem dX1_bestCodeFor_137 : decode cX1_bestCodeFor 137 = .ok (.istore_n 3, 1) := by decide +kernel
theorem dX1_bestCodeFor_138 : decode cX1_bestCodeFor 138 = .ok (.iload 8, 2) := by decide +kernel
theorem dX1_bestCodeFor_140 : decode cX1_bestCodeFor 140 = .ok (.istore 4, 2) := by decide +kernel
theorem dX1_bestCodeFor_142 : decode cX1_bestCodeFor 142 = .ok (.iinc 5 1, 3) := by decide +kernel
theorem dX1_bestCodeFor_145 : decode cX1_bestCodeFor 145 = .ok (.goto (-96), 3) := by decide +kernel
theorem dX1_bestCodeFor_148 : decode cX1_bestCodeFor 148 = .ok (.iload_n 2, 1) := by decide +kernel
theorem dX1_bestCodeFor_149 : decode cX1_bestCodeFor 149 = .ok (.ireturn, 1) := by decide +kernel
theorem dX1_pinsWith_0 : decode cX1_pinsWith 0 = .ok (.aload_n 0, 1) := by decide +kernel
theorem dX1_pinsWith_1 : decode cX1_pinsWith 1 = .ok (.getfield 18, 3) := by decide +kernel
theorem dX1_pinsWith_4 : decode cX1_pinsWith 4 = .ok (.iload_n 3, 1) := by decide +kernel
theorem dX1_pinsWith_5 : decode cX1_pinsWith 5 = .ok (.iaload, 1) := by decide +kernel
theorem dX1_pinsWith_6 : decode cX1_pinsWith 6 = .ok (.iload_n 1, 1) := by decide +kernel
theorem dX1_pinsWith_7 : decode cX1_pinsWith 7 = .ok (.ishr, 1) := by decide +kernel
theorem dX1_pinsWith_8 : decode cX1_pinsWith 8 = .ok (.iconst 1, 1) := by decide +kernel
theorem dX1_pinsWith_9 : decode cX1_pinsWith 9 = .ok (.iand, 1) := by decide +kernel
theorem dX1_pinsWith_10 : decode cX1_pinsWith 10 = .ok (.iconst 1, 1) := by decide +kernel
theorem dX1_pinsWith_11 : decode cX1_pinsWith 11 = .ok (.if_icmp .ne 7, 3) := by decide +kernel
theorem dX1_pinsWith_14 : decode cX1_pinsWith 14 = .ok (.iconst 1, 1) := by decide +kernel
theorem dX1_pinsWith_15 : decode cX1_pinsWith 15 = .ok (.goto 4, 3) := by decide +kernel
theorem dX1_pinsWith_18 : decode cX1_pinsWith 18 = .ok (.iconst 0, 1) := by decide +kernel
theorem dX1_pinsWith_19 : decode cX1_pinsWith 19 = .ok (.istore 4, 2) := by decide +kernel
theorem dX1_pinsWith_21 : decode cX1_pinsWith 21 = .ok (.iload 4, 2) := by decide +kernel
theorem dX1_pinsWith_23 : decode cX1_pinsWith 23 = .ok (.ifCond .eq 14, 3) := by decide +kernel
theorem dX1_pinsWith_26 : decode cX1_pinsWith 26 = .ok (.aload_n 0, 1) := by decide +kernel
theorem dX1_pinsWith_27 : decode cX1_pinsWith 27 = .ok (.getfield 24, 3) := by decide +kernel
theorem dX1_pinsWith_30 : decode cX1_pinsWith 30 = .ok (.iload_n 3, 1) := by decide +kernel
theorem dX1_pinsWith_31 : decode cX1_pinsWith 31 = .ok (.iaload, 1) := by decide +kernel
theorem dX1_pinsWith_32 : decode cX1_pinsWith 32 = .ok (.iload_n 2, 1) := by decide +kernel
theorem dX1_pinsWith_33 : decode cX1_pinsWith 33 = .ok (.ior, 1) := by decide +kernel
theorem dX1_pinsWith_34 : decode cX1_pinsWith 34 = .ok (.goto 9, 3) := by decide +kernel
theorem dX1_pinsWith_37 : decode cX1_pinsWith 37 = .ok (.aload_n 0, 1) := by decide +kernel
theorem dX1_pinsWith_38 : decode cX1_pinsWith 38 = .ok (.getfield 24, 3) := by decide +kernel
theorem dX1_pinsWith_41 : decode cX1_pinsWith 41 = .ok (.iload_n 3, 1) := by decide +kernel
theorem dX1_pinsWith_42 : decode cX1_pinsWith 42 = .ok (.iaload, 1) := by decide +kernel
theorem dX1_pinsWith_43 : decode cX1_pinsWith 43 = .ok (.ireturn, 1) := by decide +kernel
set_option maxRecDepth 20000 in
theorem ggX1_oldCodeOpens_X1_pinsWith : GoodIn wsX1_oldCodeOpens wsX1_pinsWith := goodIn_r _ [7, 8, 9, 13, 14, 15, 16, 17, 18, 19, 20] (by decide +kernel) (by decide +kernel)
set_option maxRecDepth 20000 in
theorem gX1_oldCodeOpens_X1_pinsWith : GoodIn wsX1_oldCodeOpens (wsV RX1 88 RX1 yX1_pinsWith wsX1_pinsWith) := goodIn_app (goodIn_of _ (by decide +kernel)) ggX1_oldCodeOpens_X1_pinsWith
set_option maxRecDepth 20000 in
theorem ggX1_oldCodeOpens_X2_contains : GoodIn wsX1_oldCodeOpens wsX2_contains := goodIn_r _ [12] (by decide +kernel) (by decide +kernel)
set_option maxRecDepth 20000 in
theorem gX1_oldCodeOpens_X2_contains_n57 : GoodIn wsX1_oldCodeOpens (wsX2_contains) := ggX1_oldCodeOpens_X2_contains
theorem dX1_oldCodeOpens_0 : decode cX1_oldCodeOpens 0 = .ok (.iconst 0, 1) := by decide +kernel
theorem dX1_oldCodeOpens_1 : decode cX1_oldCodeOpens 1 = .ok (.istore_n 3, 1) := by decide +kernel
theorem dX1_oldCodeOpens_2 : decode cX1_oldCodeOpens 2 = .ok (.iload_n 3, 1) := by decide +kernel
theorem dX1_oldCodeOpens_3 : decode cX1_oldCodeOpens 3 = .ok (.aload_n 0, 1) := by decide +kernel
theorem dX1_oldCodeOpens_4 : decode cX1_oldCodeOpens 4 = .ok (.getfield 31, 3) := by decide +kernel
theorem dX1_oldCodeOpens_7 : decode cX1_oldCodeOpens 7 = .ok (.if_icmp .ge 30, 3) := by decide +kernel
theorem dX1_oldCodeOpens_10 : decode cX1_oldCodeOpens 10 = .ok (.aload_n 0, 1) := by decide +kernel
theorem dX1_oldCodeOpens_11 : decode cX1_oldCodeOpens 11 = .ok (.iload_n 1, 1) := by decide +kernel
theorem dX1_oldCodeOpens_12 : decode cX1_oldCodeOpens 12 = .ok (.iload_n 2, 1) := by decide +kernel
theorem dX1_oldCodeOpens_13 : decode cX1_oldCodeOpens 13 = .ok (.iload_n 3, 1) := by decide +kernel
theorem dX1_oldCodeOpens_14 : decode cX1_oldCodeOpens 14 = .ok (.invokevirtual 88, 3) := by decide +kernel
theorem dX1_oldCodeOpens_17 : decode cX1_oldCodeOpens 17 = .ok (.aload_n 0, 1) := by decide +kernel
theorem dX1_oldCodeOpens_18 : decode cX1_oldCodeOpens 18 = .ok (.getfield 15, 3) := by decide +kernel
theorem dX1_oldCodeOpens_21 : decode cX1_oldCodeOpens 21 = .ok (.iload_n 1, 1) := by decide +kernel
theorem dX1_oldCodeOpens_22 : decode cX1_oldCodeOpens 22 = .ok (.iaload, 1) := by decide +kernel
theorem dX1_oldCodeOpens_23 : decode cX1_oldCodeOpens 23 = .ok (.invokestatic 57, 3) := by decide +kernel
theorem dX1_oldCodeOpens_26 : decode cX1_oldCodeOpens 26 = .ok (.ifCond .eq 5, 3) := by decide +kernel
theorem dX1_oldCodeOpens_29 : decode cX1_oldCodeOpens 29 = .ok (.iconst 1, 1) := by decide +kernel
theorem dX1_oldCodeOpens_30 : decode cX1_oldCodeOpens 30 = .ok (.ireturn, 1) := by decide +kernel
theorem dX1_oldCodeOpens_31 : decode cX1_oldCodeOpens 31 = .ok (.iinc 3 1, 3) := by decide +kernel
theorem dX1_oldCodeOpens_34 : decode cX1_oldCodeOpens 34 = .ok (.goto (-32), 3) := by decide +kernel
theorem dX1_oldCodeOpens_37 : decode cX1_oldCodeOpens 37 = .ok (.iconst 0, 1) := by decide +kernel
theorem dX1_oldCodeOpens_38 : decode cX1_oldCodeOpens 38 = .ok (.ireturn, 1) := by decide +kernel
set_option maxRecDepth 20000 in
theorem ggX1_straysWith_X1_pinsWith : GoodIn wsX1_straysWith wsX1_pinsWith := goodIn_r _ [9, 3, 10, 14, 15, 16, 17, 18, 19, 20, 21] (by decide +kernel) (by decide +kernel)
set_option maxRecDepth 20000 in
theorem gX1_straysWith_X1_pinsWith : GoodIn wsX1_straysWith (wsV RX1 88 RX1 yX1_pinsWith wsX1_pinsWith) := goodIn_app (goodIn_of _ (by decide +kernel)) ggX1_straysWith_X1_pinsWith
set_option maxRecDepth 20000 in
theorem ggX1_straysWith_X2_contains : GoodIn wsX1_straysWith wsX2_contains := goodIn_r _ [13] (by decide +kernel) (by decide +kernel)
set_option maxRecDepth 20000 in
theorem gX1_straysWith_X2_contains_n57 : GoodIn wsX1_straysWith (wsX2_contains) := ggX1_straysWith_X2_contains
theorem dX1_straysWith_0 : decode cX1_straysWith 0 = .ok (.iconst 0, 1) := by decide +kernel
theorem dX1_straysWith_1 : decode cX1_straysWith 1 = .ok (.istore 4, 2) := by decide +kernel
theorem dX1_straysWith_3 : decode cX1_straysWith 3 = .ok (.iconst 0, 1) := by decide +kernel
theorem dX1_straysWith_4 : decode cX1_straysWith 4 = .ok (.istore 5, 2) := by decide +kernel
theorem dX1_straysWith_6 : decode cX1_straysWith 6 = .ok (.iload 5, 2) := by decide +kernel
theorem dX1_straysWith_8 : decode cX1_straysWith 8 = .ok (.aload_n 0, 1) := by decide +kernel
theorem dX1_straysWith_9 : decode cX1_straysWith 9 = .ok (.getfield 31, 3) := by decide +kernel
theorem dX1_straysWith_12 : decode cX1_straysWith 12 = .ok (.if_icmp .ge 99, 3) := by decide +kernel
theorem dX1_straysWith_15 : decode cX1_straysWith 15 = .ok (.iload 4, 2) := by decide +kernel
theorem dX1_straysWith_17 : decode cX1_straysWith 17 = .ok (.iload_n 3, 1) := by decide +kernel
theorem dX1_straysWith_18 : decode cX1_straysWith 18 = .ok (.if_icmp .gt 93, 3) := by decide +kernel
theorem dX1_straysWith_21 : decode cX1_straysWith 21 = .ok (.aload_n 0, 1) := by decide +kernel
theorem dX1_straysWith_22 : decode cX1_straysWith 22 = .ok (.iload_n 1, 1) := by decide +kernel
theorem dX1_straysWith_23 : decode cX1_straysWith 23 = .ok (.iload_n 2, 1) := by decide +kernel
theorem dX1_straysWith_24 : decode cX1_straysWith 24 = .ok (.iload 5, 2) := by decide +kernel
theorem dX1_straysWith_26 : decode cX1_straysWith 26 = .ok (.invokevirtual 88, 3) := by decide +kernel
theorem dX1_straysWith_29 : decode cX1_straysWith 29 = .ok (.istore 6, 2) := by decide +kernel
theorem dX1_straysWith_31 : decode cX1_straysWith 31 = .ok (.iconst 0, 1) := by decide +kernel
theorem dX1_straysWith_32 : decode cX1_straysWith 32 = .ok (.istore 7, 2) := by decide +kernel
theorem dX1_straysWith_34 : decode cX1_straysWith 34 = .ok (.iload 7, 2) := by decide +kernel
theorem dX1_straysWith_36 : decode cX1_straysWith 36 = .ok (.aload_n 0, 1) := by decide +kernel
theorem dX1_straysWith_37 : decode cX1_straysWith 37 = .ok (.getfield 27, 3) := by decide +kernel
theorem dX1_straysWith_40 : decode cX1_straysWith 40 = .ok (.if_icmp .ge 65, 3) := by decide +kernel
theorem dX1_straysWith_43 : decode cX1_straysWith 43 = .ok (.aload_n 0, 1) := by decide +kernel
theorem dX1_straysWith_44 : decode cX1_straysWith 44 = .ok (.getfield 18, 3) := by decide +kernel
theorem dX1_straysWith_47 : decode cX1_straysWith 47 = .ok (.iload 5, 2) := by decide +kernel
theorem dX1_straysWith_49 : decode cX1_straysWith 49 = .ok (.iaload, 1) := by decide +kernel
theorem dX1_straysWith_50 : decode cX1_straysWith 50 = .ok (.iload 7, 2) := by decide +kernel
theorem dX1_straysWith_52 : decode cX1_straysWith 52 = .ok (.ishr, 1) := by decide +kernel
theorem dX1_straysWith_53 : decode cX1_straysWith 53 = .ok (.iconst 1, 1) := by decide +kernel
theorem dX1_straysWith_54 : decode cX1_straysWith 54 = .ok (.iand, 1) := by decide +kernel
theorem dX1_straysWith_55 : decode cX1_straysWith 55 = .ok (.iconst 1, 1) := by decide +kernel
theorem dX1_straysWith_56 : decode cX1_straysWith 56 = .ok (.if_icmp .ne 7, 3) := by decide +kernel
theorem dX1_straysWith_59 : decode cX1_straysWith 59 = .ok (.iconst 1, 1) := by decide +kernel
theorem dX1_straysWith_60 : decode cX1_straysWith 60 = .ok (.goto 4, 3) := by decide +kernel
theorem dX1_straysWith_63 : decode cX1_straysWith 63 = .ok (.iconst 0, 1) := by decide +kernel
theorem dX1_straysWith_64 : decode cX1_straysWith 64 = .ok (.istore 8, 2) := by decide +kernel
theorem dX1_straysWith_66 : decode cX1_straysWith 66 = .ok (.iload 8, 2) := by decide +kernel
theorem dX1_straysWith_68 : decode cX1_straysWith 68 = .ok (.ifCond .ne 31, 3) := by decide +kernel
theorem dX1_straysWith_71 : decode cX1_straysWith 71 = .ok (.iload 6, 2) := by decide +kernel
theorem dX1_straysWith_73 : decode cX1_straysWith 73 = .ok (.iload 7, 2) := by decide +kernel
theorem dX1_straysWith_75 : decode cX1_straysWith 75 = .ok (.iload_n 1, 1) := by decide +kernel
theorem dX1_straysWith_76 : decode cX1_straysWith 76 = .ok (.if_icmp .ne 7, 3) := by decide +kernel
theorem dX1_straysWith_79 : decode cX1_straysWith 79 = .ok (.iload_n 2, 1) := by decide +kernel
theorem dX1_straysWith_80 : decode cX1_straysWith 80 = .ok (.goto 10, 3) := by decide +kernel
theorem dX1_straysWith_83 : decode cX1_straysWith 83 = .ok (.aload_n 0, 1) := by decide +kernel
theorem dX1_straysWith_84 : decode cX1_straysWith 84 = .ok (.getfield 15, 3) := by decide +kernel
theorem dX1_straysWith_87 : decode cX1_straysWith 87 = .ok (.iload 7, 2) := by decide +kernel
theorem dX1_straysWith_89 : decode cX1_straysWith 89 = .ok (.iaload, 1) := by decide +kernel
theorem dX1_straysWith_90 : decode cX1_straysWith 90 = .ok (.invokestatic 57, 3) := by decide +kernel
theorem dX1_straysWith_93 : decode cX1_straysWith 93 = .ok (.ifCond .eq 6, 3) := by decide +kernel
theorem dX1_straysWith_96 : decode cX1_straysWith 96 = .ok (.iinc 4 1, 3) := by decide +kernel
theorem dX1_straysWith_99 : decode cX1_straysWith 99 = .ok (.iinc 7 1, 3) := by decide +kernel
theorem dX1_straysWith_102 : decode cX1_straysWith 102 = .ok (.goto (-68), 3) := by decide +kernel
theorem dX1_straysWith_105 : decode cX1_straysWith 105 = .ok (.iinc 5 1, 3) := by decide +kernel
theorem dX1_straysWith_108 : decode cX1_straysWith 108 = .ok (.goto (-102), 3) := by decide +kernel
theorem dX1_straysWith_111 : decode cX1_straysWith 111 = .ok (.iload 4, 2) := by decide +kernel
theorem dX1_straysWith_113 : decode cX1_straysWith 113 = .ok (.ireturn, 1) := by decide +kernel
set_option maxRecDepth 20000 in
theorem ggX1_workWith_X1_pinsWith : GoodIn wsX1_workWith wsX1_pinsWith := goodIn_r _ [7, 8, 9, 17, 18, 19, 20, 21, 22, 23, 24] (by decide +kernel) (by decide +kernel)
set_option maxRecDepth 20000 in
theorem gX1_workWith_X1_pinsWith : GoodIn wsX1_workWith (wsV RX1 88 RX1 yX1_pinsWith wsX1_pinsWith) := goodIn_app (goodIn_of _ (by decide +kernel)) ggX1_workWith_X1_pinsWith
set_option maxRecDepth 20000 in
theorem ggX1_workWith_J6_bitCount_0f7a4 : GoodIn wsX1_workWith wsJ6_bitCount_0f7a4 := goodIn_r _ [13, 14, 15, 16] (by decide +kernel) (by decide +kernel)
set_option maxRecDepth 20000 in
theorem gX1_workWith_J6_bitCount_0f7a4 : GoodIn wsX1_workWith (va_wsS RX1 52 yJ6_bitCount_0f7a4 wsJ6_bitCount_0f7a4) := goodIn_app (goodIn_of _ (by decide +kernel)) ggX1_workWith_J6_bitCount_0f7a4
theorem dX1_workWith_0 : decode cX1_workWith 0 = .ok (.iconst 0, 1) := by decide +kernel
theorem dX1_workWith_1 : decode cX1_workWith 1 = .ok (.istore_n 3, 1) := by decide +kernel
theorem dX1_workWith_2 : decode cX1_workWith 2 = .ok (.iconst 0, 1) := by decide +kernel
theorem dX1_workWith_3 : decode cX1_workWith 3 = .ok (.istore 4, 2) := by decide +kernel
theorem dX1_workWith_5 : decode cX1_workWith 5 = .ok (.iload 4, 2) := by decide +kernel
theorem dX1_workWith_7 : decode cX1_workWith 7 = .ok (.aload_n 0, 1) := by decide +kernel
theorem dX1_workWith_8 : decode cX1_workWith 8 = .ok (.getfield 31, 3) := by decide +kernel
theorem dX1_workWith_11 : decode cX1_workWith 11 = .ok (.if_icmp .ge 31, 3) := by decide +kernel
theorem dX1_workWith_14 : decode cX1_workWith 14 = .ok (.iload_n 3, 1) := by decide +kernel
theorem dX1_workWith_15 : decode cX1_workWith 15 = .ok (.aload_n 0, 1) := by decide +kernel
theorem dX1_workWith_16 : decode cX1_workWith 16 = .ok (.getfield 21, 3) := by decide +kernel
theorem dX1_workWith_19 : decode cX1_workWith 19 = .ok (.iload 4, 2) := by decide +kernel
theorem dX1_workWith_21 : decode cX1_workWith 21 = .ok (.iaload, 1) := by decide +kernel
theorem dX1_workWith_22 : decode cX1_workWith 22 = .ok (.aload_n 0, 1) := by decide +kernel
theorem dX1_workWith_23 : decode cX1_workWith 23 = .ok (.iload_n 1, 1) := by decide +kernel
theorem dX1_workWith_24 : decode cX1_workWith 24 = .ok (.iload_n 2, 1) := by decide +kernel
theorem dX1_workWith_25 : decode cX1_workWith 25 = .ok (.iload 4, 2) := by decide +kernel
theorem dX1_workWith_27 : decode cX1_workWith 27 = .ok (.invokevirtual 88, 3) := by decide +kernel
theorem dX1_workWith_30 : decode cX1_workWith 30 = .ok (.ixor, 1) := by decide +kernel
theorem dX1_workWith_31 : decode cX1_workWith 31 = .ok (.invokestatic 52, 3) := by decide +kernel
theorem dX1_workWith_34 : decode cX1_workWith 34 = .ok (.iadd, 1) := by decide +kernel
theorem dX1_workWith_35 : decode cX1_workWith 35 = .ok (.istore_n 3, 1) := by decide +kernel
theorem dX1_workWith_36 : decode cX1_workWith 36 = .ok (.iinc 4 1, 3) := by decide +kernel
theorem dX1_workWith_39 : decode cX1_workWith 39 = .ok (.goto (-34), 3) := by decide +kernel
theorem dX1_workWith_42 : decode cX1_workWith 42 = .ok (.iload_n 3, 1) := by decide +kernel
theorem dX1_workWith_43 : decode cX1_workWith 43 = .ok (.ireturn, 1) := by decide +kernel
end
section
set_option maxRecDepth 20000 in
theorem ggX2_init_X1_init : GoodIn wsX2_init wsX1_init := goodIn_r _ [17, 18, 2, 3, 13, 19, 20, 21, 22, 23, 24, 25, 26, 43, 44, 45, 46, 47, 48, 49, 50] (by decide +kernel) (by decide +kernel)
set_option maxRecDepth 20000 in
theorem gX2_init_X1_init_n15 : GoodIn wsX2_init (wsX1_init) := ggX2_init_X1_init
set_option maxRecDepth 20000 in
theorem ggX2_init_X0_init : GoodIn wsX2_init wsX0_init := goodIn_r _ [28, 29, 2, 3, 13, 30, 31, 32, 33, 34, 35, 36, 37, 51, 52, 53, 54, 55, 56, 57, 58] (by decide +kernel) (by decide +kernel)
set_option maxRecDepth 20000 in
theorem gX2_init_X0_init_n22 : GoodIn wsX2_init (wsX0_init) := ggX2_init_X0_init
theorem dX2_init_0 : decode cX2_init 0 = .ok (.aload_n 0, 1) := by decide +kernel
theorem dX2_init_1 : decode cX2_init 1 = .ok (.invokespecial 1, 3) := by decide +kernel
theorem dX2_init_4 : decode cX2_init 4 = .ok (.aload_n 0, 1) := by decide +kernel
theorem dX2_init_5 : decode cX2_init 5 = .ok (.iconst 0, 1) := by decide +kernel
theorem dX2_init_6 : decode cX2_init 6 = .ok (.putfield 7, 3) := by decide +kernel
theorem dX2_init_9 : decode cX2_init 9 = .ok (.aload_n 0, 1) := by decide +kernel
theorem dX2_init_10 : decode cX2_init 10 = .ok (.new 13, 3) := by decide +kernel
theorem dX2_init_13 : decode cX2_init 13 = .ok (.dup, 1) := by decide +kernel
theorem dX2_init_14 : decode cX2_init 14 = .ok (.invokespecial 15, 3) := by decide +kernel
theorem dX2_init_17 : decode cX2_init 17 = .ok (.putfield 16, 3) := by decide +kernel
theorem dX2_init_20 : decode cX2_init 20 = .ok (.aload_n 0, 1) := by decide +kernel
theorem dX2_init_21 : decode cX2_init 21 = .ok (.new 20, 3) := by decide +kernel
theorem dX2_init_24 : decode cX2_init 24 = .ok (.dup, 1) := by decide +kernel
theorem dX2_init_25 : decode cX2_init 25 = .ok (.invokespecial 22, 3) := by decide +kernel
theorem dX2_init_28 : decode cX2_init 28 = .ok (.putfield 23, 3) := by decide +kernel
theorem dX2_init_31 : decode cX2_init 31 = .ok (.aload_n 0, 1) := by decide +kernel
theorem dX2_init_32 : decode cX2_init 32 = .ok (.bipush 8, 2) := by decide +kernel
theorem dX2_init_34 : decode cX2_init 34 = .ok (.newarray .int, 2) := by decide +kernel
theorem dX2_init_36 : decode cX2_init 36 = .ok (.putfield 27, 3) := by decide +kernel
theorem dX2_init_39 : decode cX2_init 39 = .ok (.aload_n 0, 1) := by decide +kernel
theorem dX2_init_40 : decode cX2_init 40 = .ok (.bipush 8, 2) := by decide +kernel
theorem dX2_init_42 : decode cX2_init 42 = .ok (.newarray .int, 2) := by decide +kernel
theorem dX2_init_44 : decode cX2_init 44 = .ok (.putfield 31, 3) := by decide +kernel
theorem dX2_init_47 : decode cX2_init 47 = .ok (.return_, 1) := by decide +kernel
set_option maxRecDepth 20000 in
theorem ggX2_addKey_X1_isTaken : GoodIn wsX2_addKey wsX1_isTaken := goodIn_r _ [11, 12, 13, 27, 28, 29, 30, 31, 32, 33, 34] (by decide +kernel) (by decide +kernel)
set_option maxRecDepth 20000 in
theorem gX2_addKey_X1_isTaken : GoodIn wsX2_addKey (wsV RX2 49 RX1 yX1_isTaken wsX1_isTaken) := goodIn_app (goodIn_of _ (by decide +kernel)) ggX2_addKey_X1_isTaken
set_option maxRecDepth 20000 in
theorem ggX2_addKey_X1_takeKey : GoodIn wsX2_addKey wsX1_takeKey := goodIn_r _ [17, 12, 13, 18, 19, 20, 10, 21, 27, 28, 29, 30, 31, 32, 33, 34] (by decide +kernel) (by decide +kernel)
set_option maxRecDepth 20000 in
theorem gX2_addKey_X1_takeKey : GoodIn wsX2_addKey (wsV RX2 55 RX1 yX1_takeKey wsX1_takeKey) := goodIn_app (goodIn_of _ (by decide +kernel)) ggX2_addKey_X1_takeKey
theorem dX2_addKey_0 : decode cX2_addKey 0 = .ok (.iload_n 1, 1) := by decide +kernel
theorem dX2_addKey_1 : decode cX2_addKey 1 = .ok (.ifCond .lt 10, 3) := by decide +kernel
theorem dX2_addKey_4 : decode cX2_addKey 4 = .ok (.iload_n 1, 1) := by decide +kernel
theorem dX2_addKey_5 : decode cX2_addKey 5 = .ok (.sipush 1024, 3) := by decide +kernel
theorem dX2_addKey_8 : decode cX2_addKey 8 = .ok (.if_icmp .lt 13, 3) := by decide +kernel
theorem dX2_addKey_11 : decode cX2_addKey 11 = .ok (.new 34, 3) := by decide +kernel
theorem dX2_addKey_14 : decode cX2_addKey 14 = .ok (.dup, 1) := by decide +kernel
theorem dX2_addKey_15 : decode cX2_addKey 15 = .ok (.ldc 36, 2) := by decide +kernel
theorem dX2_addKey_17 : decode cX2_addKey 17 = .ok (.invokespecial 38, 3) := by decide +kernel
theorem dX2_addKey_20 : decode cX2_addKey 20 = .ok (.athrow, 1) := by decide +kernel
theorem dX2_addKey_21 : decode cX2_addKey 21 = .ok (.aload_n 0, 1) := by decide +kernel
theorem dX2_addKey_22 : decode cX2_addKey 22 = .ok (.getfield 16, 3) := by decide +kernel
theorem dX2_addKey_25 : decode cX2_addKey 25 = .ok (.getfield 41, 3) := by decide +kernel
theorem dX2_addKey_28 : decode cX2_addKey 28 = .ok (.bipush 8, 2) := by decide +kernel
theorem dX2_addKey_30 : decode cX2_addKey 30 = .ok (.if_icmp .lt 13, 3) := by decide +kernel
theorem dX2_addKey_33 : decode cX2_addKey 33 = .ok (.new 44, 3) := by decide +kernel
theorem dX2_addKey_36 : decode cX2_addKey 36 = .ok (.dup, 1) := by decide +kernel
theorem dX2_addKey_37 : decode cX2_addKey 37 = .ok (.ldc 46, 2) := by decide +kernel
theorem dX2_addKey_39 : decode cX2_addKey 39 = .ok (.invokespecial 48, 3) := by decide +kernel
theorem dX2_addKey_42 : decode cX2_addKey 42 = .ok (.athrow, 1) := by decide +kernel
theorem dX2_addKey_43 : decode cX2_addKey 43 = .ok (.aload_n 0, 1) := by decide +kernel
theorem dX2_addKey_44 : decode cX2_addKey 44 = .ok (.getfield 16, 3) := by decide +kernel
theorem dX2_addKey_47 : decode cX2_addKey 47 = .ok (.iload_n 1, 1) := by decide +kernel
theorem dX2_addKey_48 : decode cX2_addKey 48 = .ok (.invokevirtual 49, 3) := by decide +kernel
theorem dX2_addKey_51 : decode cX2_addKey 51 = .ok (.ifCond .eq 13, 3) := by decide +kernel
theorem dX2_addKey_54 : decode cX2_addKey 54 = .ok (.new 44, 3) := by decide +kernel
theorem dX2_addKey_57 : decode cX2_addKey 57 = .ok (.dup, 1) := by decide +kernel
theorem dX2_addKey_58 : decode cX2_addKey 58 = .ok (.ldc 53, 2) := by decide +kernel
theorem dX2_addKey_60 : decode cX2_addKey 60 = .ok (.invokespecial 48, 3) := by decide +kernel
theorem dX2_addKey_63 : decode cX2_addKey 63 = .ok (.athrow, 1) := by decide +kernel
theorem dX2_addKey_64 : decode cX2_addKey 64 = .ok (.aload_n 0, 1) := by decide +kernel
theorem dX2_addKey_65 : decode cX2_addKey 65 = .ok (.getfield 16, 3) := by decide +kernel
theorem dX2_addKey_68 : decode cX2_addKey 68 = .ok (.iload_n 1, 1) := by decide +kernel
theorem dX2_addKey_69 : decode cX2_addKey 69 = .ok (.invokevirtual 55, 3) := by decide +kernel
theorem dX2_addKey_72 : decode cX2_addKey 72 = .ok (.ireturn, 1) := by decide +kernel
set_option maxRecDepth 20000 in
theorem ggX2_addDoor_X2_needRights : GoodIn wsX2_addDoor wsX2_needRights := goodIn_ca (goodIn_r _ [9, 10, 11, 3, 12, 13, 14, 8, 15, 46, 47, 48, 49, 50, 51, 52, 53, 54, 55, 56, 57, 58] (by decide +kernel) (by decide +kernel)) (goodIn_sub (fun _ h => List.mem_cons_of_mem _ (List.mem_append_right _ h)) (by decide +kernel))
set_option maxRecDepth 20000 in
theorem gX2_addDoor_X2_needRights : GoodIn wsX2_addDoor (wsV RX2 59 RX2 yX2_needRights wsX2_needRights) := goodIn_app (goodIn_of _ (by decide +kernel)) ggX2_addDoor_X2_needRights
set_option maxRecDepth 20000 in
theorem ggX2_addDoor_X1_takeDoor : GoodIn wsX2_addDoor wsX1_takeDoor := goodIn_r _ [20, 21, 22, 23, 24, 19, 25, 26, 27, 28, 29, 30, 31, 32, 33, 34, 35, 36, 37, 38, 39, 40, 41, 42, 43, 44, 45, 51, 52, 53, 54, 55, 56, 57, 58] (by decide +kernel) (by decide +kernel)
set_option maxRecDepth 20000 in
theorem gX2_addDoor_X1_takeDoor : GoodIn wsX2_addDoor (wsV RX2 68 RX1 yX1_takeDoor wsX1_takeDoor) := goodIn_app (goodIn_of _ (by decide +kernel)) ggX2_addDoor_X1_takeDoor
theorem dX2_addDoor_0 : decode cX2_addDoor 0 = .ok (.aload_n 0, 1) := by decide +kernel
theorem dX2_addDoor_1 : decode cX2_addDoor 1 = .ok (.iload_n 1, 1) := by decide +kernel
theorem dX2_addDoor_2 : decode cX2_addDoor 2 = .ok (.invokevirtual 59, 3) := by decide +kernel
theorem dX2_addDoor_5 : decode cX2_addDoor 5 = .ok (.aload_n 0, 1) := by decide +kernel
theorem dX2_addDoor_6 : decode cX2_addDoor 6 = .ok (.getfield 16, 3) := by decide +kernel
theorem dX2_addDoor_9 : decode cX2_addDoor 9 = .ok (.getfield 63, 3) := by decide +kernel
theorem dX2_addDoor_12 : decode cX2_addDoor 12 = .ok (.bipush 8, 2) := by decide +kernel
theorem dX2_addDoor_14 : decode cX2_addDoor 14 = .ok (.if_icmp .lt 13, 3) := by decide +kernel
theorem dX2_addDoor_17 : decode cX2_addDoor 17 = .ok (.new 44, 3) := by decide +kernel
theorem dX2_addDoor_20 : decode cX2_addDoor 20 = .ok (.dup, 1) := by decide +kernel
theorem dX2_addDoor_21 : decode cX2_addDoor 21 = .ok (.ldc 66, 2) := by decide +kernel
theorem dX2_addDoor_23 : decode cX2_addDoor 23 = .ok (.invokespecial 48, 3) := by decide +kernel
theorem dX2_addDoor_26 : decode cX2_addDoor 26 = .ok (.athrow, 1) := by decide +kernel
theorem dX2_addDoor_27 : decode cX2_addDoor 27 = .ok (.aload_n 0, 1) := by decide +kernel
theorem dX2_addDoor_28 : decode cX2_addDoor 28 = .ok (.getfield 16, 3) := by decide +kernel
theorem dX2_addDoor_31 : decode cX2_addDoor 31 = .ok (.iload_n 1, 1) := by decide +kernel
theorem dX2_addDoor_32 : decode cX2_addDoor 32 = .ok (.invokevirtual 68, 3) := by decide +kernel
theorem dX2_addDoor_35 : decode cX2_addDoor 35 = .ok (.ireturn, 1) := by decide +kernel
set_option maxRecDepth 20000 in
theorem ggX2_setRights_X2_needDoor : GoodIn wsX2_setRights wsX2_needDoor := goodIn_ca (goodIn_r _ [7, 8, 9, 1, 10, 46, 47, 48, 49, 50, 51, 52, 53, 54, 55, 56, 57, 58] (by decide +kernel) (by decide +kernel)) (goodIn_sub (fun _ h => List.mem_cons_of_mem _ (List.mem_append_left _ (List.mem_append_right _ h))) (by decide +kernel))
set_option maxRecDepth 20000 in
theorem gX2_setRights_X2_needDoor : GoodIn wsX2_setRights (wsV RX2 71 RX2 yX2_needDoor wsX2_needDoor) := goodIn_app (goodIn_of _ (by decide +kernel)) ggX2_setRights_X2_needDoor
set_option maxRecDepth 20000 in
theorem ggX2_setRights_X2_needRights : GoodIn wsX2_setRights wsX2_needRights := goodIn_ca (goodIn_r _ [14, 15, 16, 1, 17, 18, 19, 6, 20, 46, 47, 48, 49, 50, 51, 52, 53, 54, 55, 56, 57, 58] (by decide +kernel) (by decide +kernel)) (goodIn_sub (fun _ h => List.mem_cons_of_mem _ (List.mem_append_right _ h)) (by decide +kernel))
set_option maxRecDepth 20000 in
theorem gX2_setRights_X2_needRights : GoodIn wsX2_setRights (wsV RX2 59 RX2 yX2_needRights wsX2_needRights) := goodIn_app (goodIn_of _ (by decide +kernel)) ggX2_setRights_X2_needRights
set_option maxRecDepth 20000 in
theorem ggX2_setRights_X1_giveRights : GoodIn wsX2_setRights wsX1_giveRights := goodIn_r _ [25, 26, 27, 28, 29, 24, 30, 31, 32, 33, 34, 35, 36, 37, 38, 39, 40, 41, 42, 43, 44, 45, 51, 52, 53, 54, 55, 56, 57, 58] (by decide +kernel) (by decide +kernel)
set_option maxRecDepth 20000 in
theorem gX2_setRights_X1_giveRights : GoodIn wsX2_setRights (wsV RX2 77 RX1 yX1_giveRights wsX1_giveRights) := goodIn_app (goodIn_of _ (by decide +kernel)) ggX2_setRights_X1_giveRights
theorem dX2_setRights_0 : decode cX2_setRights 0 = .ok (.aload_n 0, 1) := by decide +kernel
theorem dX2_setRights_1 : decode cX2_setRights 1 = .ok (.iload_n 1, 1) := by decide +kernel
theorem dX2_setRights_2 : decode cX2_setRights 2 = .ok (.invokevirtual 71, 3) := by decide +kernel
theorem dX2_setRights_5 : decode cX2_setRights 5 = .ok (.aload_n 0, 1) := by decide +kernel
theorem dX2_setRights_6 : decode cX2_setRights 6 = .ok (.iload_n 2, 1) := by decide +kernel
theorem dX2_setRights_7 : decode cX2_setRights 7 = .ok (.invokevirtual 59, 3) := by decide +kernel
theorem dX2_setRights_10 : decode cX2_setRights 10 = .ok (.aload_n 0, 1) := by decide +kernel
theorem dX2_setRights_11 : decode cX2_setRights 11 = .ok (.getfield 16, 3) := by decide +kernel
theorem dX2_setRights_14 : decode cX2_setRights 14 = .ok (.getfield 74, 3) := by decide +kernel
theorem dX2_setRights_17 : decode cX2_setRights 17 = .ok (.iload_n 1, 1) := by decide +kernel
theorem dX2_setRights_18 : decode cX2_setRights 18 = .ok (.iaload, 1) := by decide +kernel
theorem dX2_setRights_19 : decode cX2_setRights 19 = .ok (.istore_n 3, 1) := by decide +kernel
theorem dX2_setRights_20 : decode cX2_setRights 20 = .ok (.aload_n 0, 1) := by decide +kernel
theorem dX2_setRights_21 : decode cX2_setRights 21 = .ok (.getfield 16, 3) := by decide +kernel
theorem dX2_setRights_24 : decode cX2_setRights 24 = .ok (.iload_n 1, 1) := by decide +kernel
theorem dX2_setRights_25 : decode cX2_setRights 25 = .ok (.iload_n 2, 1) := by decide +kernel
theorem dX2_setRights_26 : decode cX2_setRights 26 = .ok (.invokevirtual 77, 3) := by decide +kernel
theorem dX2_setRights_29 : decode cX2_setRights 29 = .ok (.iload_n 3, 1) := by decide +kernel
theorem dX2_setRights_30 : decode cX2_setRights 30 = .ok (.ireturn, 1) := by decide +kernel
theorem dX2_keyCount_0 : decode cX2_keyCount 0 = .ok (.aload_n 0, 1) := by decide +kernel
theorem dX2_keyCount_1 : decode cX2_keyCount 1 = .ok (.getfield 16, 3) := by decide +kernel
theorem dX2_keyCount_4 : decode cX2_keyCount 4 = .ok (.getfield 41, 3) := by decide +kernel
theorem dX2_keyCount_7 : decode cX2_keyCount 7 = .ok (.ireturn, 1) := by decide +kernel
theorem dX2_doorCount_0 : decode cX2_doorCount 0 = .ok (.aload_n 0, 1) := by decide +kernel
theorem dX2_doorCount_1 : decode cX2_doorCount 1 = .ok (.getfield 16, 3) := by decide +kernel
theorem dX2_doorCount_4 : decode cX2_doorCount 4 = .ok (.getfield 63, 3) := by decide +kernel
theorem dX2_doorCount_7 : decode cX2_doorCount 7 = .ok (.ireturn, 1) := by decide +kernel
set_option maxRecDepth 20000 in
theorem ggX2_code_X2_needKey : GoodIn wsX2_code wsX2_needKey := goodIn_ca (goodIn_r _ [7, 8, 9, 1, 10, 11, 12, 13, 14, 15, 16, 17, 18, 19, 20, 21, 22, 23] (by decide +kernel) (by decide +kernel)) (goodIn_sub (fun _ h => List.mem_cons_of_mem _ (List.mem_append_right _ h)) (by decide +kernel))
set_option maxRecDepth 20000 in
theorem gX2_code_X2_needKey : GoodIn wsX2_code (wsV RX2 81 RX2 yX2_needKey wsX2_needKey) := goodIn_app (goodIn_of _ (by decide +kernel)) ggX2_code_X2_needKey
theorem dX2_code_0 : decode cX2_code 0 = .ok (.aload_n 0, 1) := by decide +kernel
theorem dX2_code_1 : decode cX2_code 1 = .ok (.iload_n 1, 1) := by decide +kernel
theorem dX2_code_2 : decode cX2_code 2 = .ok (.invokevirtual 81, 3) := by decide +kernel
theorem dX2_code_5 : decode cX2_code 5 = .ok (.aload_n 0, 1) := by decide +kernel
theorem dX2_code_6 : decode cX2_code 6 = .ok (.getfield 16, 3) := by decide +kernel
theorem dX2_code_9 : decode cX2_code 9 = .ok (.getfield 84, 3) := by decide +kernel
theorem dX2_code_12 : decode cX2_code 12 = .ok (.iload_n 1, 1) := by decide +kernel
theorem dX2_code_13 : decode cX2_code 13 = .ok (.iaload, 1) := by decide +kernel
theorem dX2_code_14 : decode cX2_code 14 = .ok (.ireturn, 1) := by decide +kernel
set_option maxRecDepth 20000 in
theorem ggX2_pins_X2_needDoor : GoodIn wsX2_pins wsX2_needDoor := goodIn_ca (goodIn_r _ [8, 1, 2, 3, 9, 16, 17, 18, 19, 20, 21, 22, 23, 24, 25, 26, 27, 28] (by decide +kernel) (by decide +kernel)) (goodIn_sub (fun _ h => List.mem_cons_of_mem _ (List.mem_append_right _ h)) (by decide +kernel))
set_option maxRecDepth 20000 in
theorem gX2_pins_X2_needDoor : GoodIn wsX2_pins (wsV RX2 71 RX2 yX2_needDoor wsX2_needDoor) := goodIn_app (goodIn_of _ (by decide +kernel)) ggX2_pins_X2_needDoor
set_option maxRecDepth 20000 in
theorem ggX2_pins_X1_pinsAt : GoodIn wsX2_pins wsX1_pinsAt := goodIn_r _ [14, 15, 21, 22, 23, 24, 25, 26, 27, 28] (by decide +kernel) (by decide +kernel)
set_option maxRecDepth 20000 in
theorem gX2_pins_X1_pinsAt : GoodIn wsX2_pins (wsV RX2 92 RX1 yX1_pinsAt wsX1_pinsAt) := goodIn_app (goodIn_of _ (by decide +kernel)) ggX2_pins_X1_pinsAt
theorem dX2_pins_0 : decode cX2_pins 0 = .ok (.aload_n 0, 1) := by decide +kernel
theorem dX2_pins_1 : decode cX2_pins 1 = .ok (.iload_n 1, 1) := by decide +kernel
theorem dX2_pins_2 : decode cX2_pins 2 = .ok (.invokevirtual 71, 3) := by decide +kernel
theorem dX2_pins_5 : decode cX2_pins 5 = .ok (.iload_n 2, 1) := by decide +kernel
theorem dX2_pins_6 : decode cX2_pins 6 = .ok (.ifCond .lt 8, 3) := by decide +kernel
theorem dX2_pins_9 : decode cX2_pins 9 = .ok (.iload_n 2, 1) := by decide +kernel
theorem dX2_pins_10 : decode cX2_pins 10 = .ok (.iconst 5, 1) := by decide +kernel
theorem dX2_pins_11 : decode cX2_pins 11 = .ok (.if_icmp .lt 13, 3) := by decide +kernel
theorem dX2_pins_14 : decode cX2_pins 14 = .ok (.new 87, 3) := by decide +kernel
theorem dX2_pins_17 : decode cX2_pins 17 = .ok (.dup, 1) := by decide +kernel
theorem dX2_pins_18 : decode cX2_pins 18 = .ok (.ldc 89, 2) := by decide +kernel
theorem dX2_pins_20 : decode cX2_pins 20 = .ok (.invokespecial 91, 3) := by decide +kernel
theorem dX2_pins_23 : decode cX2_pins 23 = .ok (.athrow, 1) := by decide +kernel
theorem dX2_pins_24 : decode cX2_pins 24 = .ok (.aload_n 0, 1) := by decide +kernel
theorem dX2_pins_25 : decode cX2_pins 25 = .ok (.getfield 16, 3) := by decide +kernel
theorem dX2_pins_28 : decode cX2_pins 28 = .ok (.iload_n 1, 1) := by decide +kernel
theorem dX2_pins_29 : decode cX2_pins 29 = .ok (.iload_n 2, 1) := by decide +kernel
theorem dX2_pins_30 : decode cX2_pins 30 = .ok (.invokevirtual 92, 3) := by decide +kernel
theorem dX2_pins_33 : decode cX2_pins 33 = .ok (.ireturn, 1) := by decide +kernel
set_option maxRecDepth 20000 in
theorem ggX2_opens_X2_needKey : GoodIn wsX2_opens wsX2_needKey := goodIn_ca (goodIn_r _ [6, 7, 8, 1, 9, 24, 25, 26, 27, 28, 29, 30, 31, 32, 33, 34, 35, 36] (by decide +kernel) (by decide +kernel)) (goodIn_sub (fun _ h => List.mem_cons_of_mem _ (List.mem_append_right _ h)) (by decide +kernel))
set_option maxRecDepth 20000 in
theorem gX2_opens_X2_needKey : GoodIn wsX2_opens (wsV RX2 81 RX2 yX2_needKey wsX2_needKey) := goodIn_app (goodIn_of _ (by decide +kernel)) ggX2_opens_X2_needKey
set_option maxRecDepth 20000 in
theorem ggX2_opens_X2_needDoor : GoodIn wsX2_opens wsX2_needDoor := goodIn_ca (goodIn_r _ [13, 7, 8, 1, 14, 24, 25, 26, 27, 28, 29, 30, 31, 32, 33, 34, 35, 36] (by decide +kernel) (by decide +kernel)) (goodIn_sub (fun _ h => List.mem_cons_of_mem _ (List.mem_append_right _ h)) (by decide +kernel))
set_option maxRecDepth 20000 in
theorem gX2_opens_X2_needDoor : GoodIn wsX2_opens (wsV RX2 71 RX2 yX2_needDoor wsX2_needDoor) := goodIn_app (goodIn_of _ (by decide +kernel)) ggX2_opens_X2_needDoor
set_option maxRecDepth 20000 in
theorem ggX2_opens_X1_keyOpens : GoodIn wsX2_opens wsX1_keyOpens := goodIn_r _ [19, 20, 21, 22, 5, 23, 29, 30, 31, 32, 33, 34, 35, 36] (by decide +kernel) (by decide +kernel)
set_option maxRecDepth 20000 in
theorem gX2_opens_X1_keyOpens : GoodIn wsX2_opens (wsV RX2 96 RX1 yX1_keyOpens wsX1_keyOpens) := goodIn_app (goodIn_of _ (by decide +kernel)) ggX2_opens_X1_keyOpens
theorem dX2_opens_0 : decode cX2_opens 0 = .ok (.aload_n 0, 1) := by decide +kernel
theorem dX2_opens_1 : decode cX2_opens 1 = .ok (.iload_n 1, 1) := by decide +kernel
theorem dX2_opens_2 : decode cX2_opens 2 = .ok (.invokevirtual 81, 3) := by decide +kernel
theorem dX2_opens_5 : decode cX2_opens 5 = .ok (.aload_n 0, 1) := by decide +kernel
theorem dX2_opens_6 : decode cX2_opens 6 = .ok (.iload_n 2, 1) := by decide +kernel
theorem dX2_opens_7 : decode cX2_opens 7 = .ok (.invokevirtual 71, 3) := by decide +kernel
theorem dX2_opens_10 : decode cX2_opens 10 = .ok (.aload_n 0, 1) := by decide +kernel
theorem dX2_opens_11 : decode cX2_opens 11 = .ok (.getfield 16, 3) := by decide +kernel
theorem dX2_opens_14 : decode cX2_opens 14 = .ok (.iload_n 1, 1) := by decide +kernel
theorem dX2_opens_15 : decode cX2_opens 15 = .ok (.iload_n 2, 1) := by decide +kernel
theorem dX2_opens_16 : decode cX2_opens 16 = .ok (.invokevirtual 96, 3) := by decide +kernel
theorem dX2_opens_19 : decode cX2_opens 19 = .ok (.ireturn, 1) := by decide +kernel
set_option maxRecDepth 20000 in
theorem ggX2_openers_X2_needDoor : GoodIn wsX2_openers wsX2_needDoor := goodIn_ca (goodIn_r _ [6, 7, 8, 1, 9, 24, 25, 26, 27, 28, 29, 30, 31, 32, 33, 34, 35, 36] (by decide +kernel) (by decide +kernel)) (goodIn_sub (fun _ h => List.mem_cons_of_mem _ (List.mem_append_right _ h)) (by decide +kernel))
set_option maxRecDepth 20000 in
theorem gX2_openers_X2_needDoor : GoodIn wsX2_openers (wsV RX2 71 RX2 yX2_needDoor wsX2_needDoor) := goodIn_app (goodIn_of _ (by decide +kernel)) ggX2_openers_X2_needDoor
set_option maxRecDepth 20000 in
theorem ggX2_openers_X1_openersOf : GoodIn wsX2_openers wsX1_openersOf := goodIn_r _ [14, 15, 16, 17, 18, 13, 19, 20, 21, 22, 5, 23, 29, 30, 31, 32, 33, 34, 35, 36] (by decide +kernel) (by decide +kernel)
set_option maxRecDepth 20000 in
theorem gX2_openers_X1_openersOf : GoodIn wsX2_openers (wsV RX2 100 RX1 yX1_openersOf wsX1_openersOf) := goodIn_app (goodIn_of _ (by decide +kernel)) ggX2_openers_X1_openersOf
theorem dX2_openers_0 : decode cX2_openers 0 = .ok (.aload_n 0, 1) := by decide +kernel
theorem dX2_openers_1 : decode cX2_openers 1 = .ok (.iload_n 1, 1) := by decide +kernel
theorem dX2_openers_2 : decode cX2_openers 2 = .ok (.invokevirtual 71, 3) := by decide +kernel
theorem dX2_openers_5 : decode cX2_openers 5 = .ok (.aload_n 0, 1) := by decide +kernel
theorem dX2_openers_6 : decode cX2_openers 6 = .ok (.getfield 16, 3) := by decide +kernel
theorem dX2_openers_9 : decode cX2_openers 9 = .ok (.iload_n 1, 1) := by decide +kernel
theorem dX2_openers_10 : decode cX2_openers 10 = .ok (.invokevirtual 100, 3) := by decide +kernel
theorem dX2_openers_13 : decode cX2_openers 13 = .ok (.ireturn, 1) := by decide +kernel
set_option maxRecDepth 20000 in
theorem ggX2_doors_X2_needKey : GoodIn wsX2_doors wsX2_needKey := goodIn_ca (goodIn_r _ [6, 7, 8, 1, 9, 24, 25, 26, 27, 28, 29, 30, 31, 32, 33, 34, 35, 36] (by decide +kernel) (by decide +kernel)) (goodIn_sub (fun _ h => List.mem_cons_of_mem _ (List.mem_append_right _ h)) (by decide +kernel))
set_option maxRecDepth 20000 in
theorem gX2_doors_X2_needKey : GoodIn wsX2_doors (wsV RX2 81 RX2 yX2_needKey wsX2_needKey) := goodIn_app (goodIn_of _ (by decide +kernel)) ggX2_doors_X2_needKey
set_option maxRecDepth 20000 in
theorem ggX2_doors_X1_doorsOf : GoodIn wsX2_doors wsX1_doorsOf := goodIn_r _ [14, 15, 16, 17, 18, 13, 19, 20, 21, 22, 5, 23, 29, 30, 31, 32, 33, 34, 35, 36] (by decide +kernel) (by decide +kernel)
set_option maxRecDepth 20000 in
theorem gX2_doors_X1_doorsOf : GoodIn wsX2_doors (wsV RX2 103 RX1 yX1_doorsOf wsX1_doorsOf) := goodIn_app (goodIn_of _ (by decide +kernel)) ggX2_doors_X1_doorsOf
theorem dX2_doors_0 : decode cX2_doors 0 = .ok (.aload_n 0, 1) := by decide +kernel
theorem dX2_doors_1 : decode cX2_doors 1 = .ok (.iload_n 1, 1) := by decide +kernel
theorem dX2_doors_2 : decode cX2_doors 2 = .ok (.invokevirtual 81, 3) := by decide +kernel
theorem dX2_doors_5 : decode cX2_doors 5 = .ok (.aload_n 0, 1) := by decide +kernel
theorem dX2_doors_6 : decode cX2_doors 6 = .ok (.getfield 16, 3) := by decide +kernel
theorem dX2_doors_9 : decode cX2_doors 9 = .ok (.iload_n 1, 1) := by decide +kernel
theorem dX2_doors_10 : decode cX2_doors 10 = .ok (.invokevirtual 103, 3) := by decide +kernel
theorem dX2_doors_13 : decode cX2_doors 13 = .ok (.ireturn, 1) := by decide +kernel
set_option maxRecDepth 20000 in
theorem ggX2_strays_X1_countStrays : GoodIn wsX2_strays wsX1_countStrays := goodIn_r _ [6, 7, 8, 9, 10, 11, 5, 12, 13, 14, 15, 16, 17, 18, 19, 20, 21, 22, 23, 24, 25, 26, 27, 28, 29, 35, 36, 37, 38, 39, 40, 41, 42] (by decide +kernel) (by decide +kernel)
set_option maxRecDepth 20000 in
theorem gX2_strays_X1_countStrays : GoodIn wsX2_strays (wsV RX2 106 RX1 yX1_countStrays wsX1_countStrays) := goodIn_app (goodIn_of _ (by decide +kernel)) ggX2_strays_X1_countStrays
theorem dX2_strays_0 : decode cX2_strays 0 = .ok (.aload_n 0, 1) := by decide +kernel
theorem dX2_strays_1 : decode cX2_strays 1 = .ok (.getfield 16, 3) := by decide +kernel
theorem dX2_strays_4 : decode cX2_strays 4 = .ok (.invokevirtual 106, 3) := by decide +kernel
theorem dX2_strays_7 : decode cX2_strays 7 = .ok (.ireturn, 1) := by decide +kernel
set_option maxRecDepth 20000 in
theorem ggX2_codes_X2_needDoor : GoodIn wsX2_codes wsX2_needDoor := goodIn_ca (goodIn_r _ [6, 7, 8, 1, 9, 27, 28, 29, 30, 31, 32, 33, 34, 35, 36, 37, 38, 39] (by decide +kernel) (by decide +kernel)) (goodIn_sub (fun _ h => List.mem_cons_of_mem _ (List.mem_append_right _ h)) (by decide +kernel))
set_option maxRecDepth 20000 in
theorem gX2_codes_X2_needDoor : GoodIn wsX2_codes (wsV RX2 71 RX2 yX2_needDoor wsX2_needDoor) := goodIn_app (goodIn_of _ (by decide +kernel)) ggX2_codes_X2_needDoor
set_option maxRecDepth 20000 in
theorem ggX2_codes_X1_countCodes : GoodIn wsX2_codes wsX1_countCodes := goodIn_r _ [14, 15, 16, 17, 13, 18, 19, 20, 21, 22, 23, 24, 25, 26, 32, 33, 34, 35, 36, 37, 38, 39] (by decide +kernel) (by decide +kernel)
set_option maxRecDepth 20000 in
theorem gX2_codes_X1_countCodes : GoodIn wsX2_codes (wsV RX2 110 RX1 yX1_countCodes wsX1_countCodes) := goodIn_app (goodIn_of _ (by decide +kernel)) ggX2_codes_X1_countCodes
theorem dX2_codes_0 : decode cX2_codes 0 = .ok (.aload_n 0, 1) := by decide +kernel
theorem dX2_codes_1 : decode cX2_codes 1 = .ok (.iload_n 1, 1) := by decide +kernel
theorem dX2_codes_2 : decode cX2_codes 2 = .ok (.invokevirtual 71, 3) := by decide +kernel
theorem dX2_codes_5 : decode cX2_codes 5 = .ok (.aload_n 0, 1) := by decide +kernel
theorem dX2_codes_6 : decode cX2_codes 6 = .ok (.getfield 16, 3) := by decide +kernel
theorem dX2_codes_9 : decode cX2_codes 9 = .ok (.iload_n 1, 1) := by decide +kernel
theorem dX2_codes_10 : decode cX2_codes 10 = .ok (.invokevirtual 110, 3) := by decide +kernel
theorem dX2_codes_13 : decode cX2_codes 13 = .ok (.ireturn, 1) := by decide +kernel
set_option maxRecDepth 20000 in
theorem ggX2_isAbove_X2_needKey : GoodIn wsX2_isAbove wsX2_needKey := goodIn_ca (goodIn_r _ [6, 7, 8, 1, 9, 25, 26, 27, 28, 29, 30, 31, 32, 33, 34, 35, 36, 37] (by decide +kernel) (by decide +kernel)) (goodIn_sub (fun _ h => List.mem_cons_of_mem _ (List.mem_append_right _ h)) (by decide +kernel))
set_option maxRecDepth 20000 in
theorem gX2_isAbove_X2_needKey : GoodIn wsX2_isAbove (wsV RX2 81 RX2 yX2_needKey wsX2_needKey) := goodIn_app (goodIn_of _ (by decide +kernel)) ggX2_isAbove_X2_needKey
set_option maxRecDepth 20000 in
theorem ggX2_isAbove_X1_doorsOf : GoodIn wsX2_isAbove wsX1_doorsOf := goodIn_r _ [14, 15, 16, 17, 18, 13, 19, 20, 21, 22, 5, 23, 30, 31, 32, 33, 34, 35, 36, 37] (by decide +kernel) (by decide +kernel)
set_option maxRecDepth 20000 in
theorem gX2_isAbove_X1_doorsOf : GoodIn wsX2_isAbove (wsV RX2 103 RX1 yX1_doorsOf wsX1_doorsOf) := goodIn_app (goodIn_of _ (by decide +kernel)) ggX2_isAbove_X1_doorsOf
set_option maxRecDepth 20000 in
theorem ggX2_isAbove_X2_contains : GoodIn wsX2_isAbove wsX2_contains := goodIn_r _ [23] (by decide +kernel) (by decide +kernel)
set_option maxRecDepth 20000 in
theorem gX2_isAbove_X2_contains : GoodIn wsX2_isAbove (va_wsS RX2 113 yX2_contains wsX2_contains) := goodIn_app (goodIn_of _ (by decide +kernel)) ggX2_isAbove_X2_contains
theorem dX2_isAbove_0 : decode cX2_isAbove 0 = .ok (.aload_n 0, 1) := by decide +kernel
theorem dX2_isAbove_1 : decode cX2_isAbove 1 = .ok (.iload_n 1, 1) := by decide +kernel
theorem dX2_isAbove_2 : decode cX2_isAbove 2 = .ok (.invokevirtual 81, 3) := by decide +kernel
theorem dX2_isAbove_5 : decode cX2_isAbove 5 = .ok (.aload_n 0, 1) := by decide +kernel
theorem dX2_isAbove_6 : decode cX2_isAbove 6 = .ok (.iload_n 2, 1) := by decide +kernel
theorem dX2_isAbove_7 : decode cX2_isAbove 7 = .ok (.invokevirtual 81, 3) := by decide +kernel
theorem dX2_isAbove_10 : decode cX2_isAbove 10 = .ok (.aload_n 0, 1) := by decide +kernel
theorem dX2_isAbove_11 : decode cX2_isAbove 11 = .ok (.getfield 16, 3) := by decide +kernel
theorem dX2_isAbove_14 : decode cX2_isAbove 14 = .ok (.iload_n 1, 1) := by decide +kernel
theorem dX2_isAbove_15 : decode cX2_isAbove 15 = .ok (.invokevirtual 103, 3) := by decide +kernel
theorem dX2_isAbove_18 : decode cX2_isAbove 18 = .ok (.istore_n 3, 1) := by decide +kernel
theorem dX2_isAbove_19 : decode cX2_isAbove 19 = .ok (.aload_n 0, 1) := by decide +kernel
theorem dX2_isAbove_20 : decode cX2_isAbove 20 = .ok (.getfield 16, 3) := by decide +kernel
theorem dX2_isAbove_23 : decode cX2_isAbove 23 = .ok (.iload_n 2, 1) := by decide +kernel
theorem dX2_isAbove_24 : decode cX2_isAbove 24 = .ok (.invokevirtual 103, 3) := by decide +kernel
theorem dX2_isAbove_27 : decode cX2_isAbove 27 = .ok (.istore 4, 2) := by decide +kernel
theorem dX2_isAbove_29 : decode cX2_isAbove 29 = .ok (.iload_n 3, 1) := by decide +kernel
theorem dX2_isAbove_30 : decode cX2_isAbove 30 = .ok (.iload 4, 2) := by decide +kernel
theorem dX2_isAbove_32 : decode cX2_isAbove 32 = .ok (.invokestatic 113, 3) := by decide +kernel
theorem dX2_isAbove_35 : decode cX2_isAbove 35 = .ok (.ifCond .eq 13, 3) := by decide +kernel
theorem dX2_isAbove_38 : decode cX2_isAbove 38 = .ok (.iload_n 3, 1) := by decide +kernel
theorem dX2_isAbove_39 : decode cX2_isAbove 39 = .ok (.iload 4, 2) := by decide +kernel
theorem dX2_isAbove_41 : decode cX2_isAbove 41 = .ok (.if_icmp .eq 7, 3) := by decide +kernel
theorem dX2_isAbove_44 : decode cX2_isAbove 44 = .ok (.iconst 1, 1) := by decide +kernel
theorem dX2_isAbove_45 : decode cX2_isAbove 45 = .ok (.goto 4, 3) := by decide +kernel
theorem dX2_isAbove_48 : decode cX2_isAbove 48 = .ok (.iconst 0, 1) := by decide +kernel
theorem dX2_isAbove_49 : decode cX2_isAbove 49 = .ok (.ireturn, 1) := by decide +kernel
theorem dX2_work_0 : decode cX2_work 0 = .ok (.aload_n 0, 1) := by decide +kernel
theorem dX2_work_1 : decode cX2_work 1 = .ok (.getfield 16, 3) := by decide +kernel
theorem dX2_work_4 : decode cX2_work 4 = .ok (.getfield 116, 3) := by decide +kernel
theorem dX2_work_7 : decode cX2_work 7 = .ok (.ireturn, 1) := by decide +kernel
set_option maxRecDepth 20000 in
theorem ggX2_replace_X2_needKey : GoodIn wsX2_replace wsX2_needKey := goodIn_ca (goodIn_r _ [8, 9, 10, 1, 11, 87, 88, 89, 90, 91, 92, 93, 94, 95, 96, 97, 98, 99] (by decide +kernel) (by decide +kernel)) (goodIn_sub (fun _ h => List.mem_cons_of_mem _ (List.mem_append_right _ h)) (by decide +kernel))
set_option maxRecDepth 20000 in
theorem gX2_replace_X2_needKey : GoodIn wsX2_replace (wsV RX2 81 RX2 yX2_needKey wsX2_needKey) := goodIn_app (goodIn_of _ (by decide +kernel)) ggX2_replace_X2_needKey
set_option maxRecDepth 20000 in
theorem ggX2_replace_X1_bestCodeFor : GoodIn wsX2_replace wsX1_bestCodeFor := goodIn_r _ [16, 17, 18, 19, 20, 21, 22, 15, 23, 24, 25, 26, 27, 28, 29, 30, 31, 32, 33, 34, 35, 36, 37, 38, 39, 40, 41, 42, 7, 43, 44, 45, 46, 47, 48, 49, 50, 51, 52, 53, 54, 55, 56, 57, 58, 59, 92, 93, 94, 95, 96, 97, 98, 99] (by decide +kernel) (by decide +kernel)
set_option maxRecDepth 20000 in
theorem gX2_replace_X1_bestCodeFor : GoodIn wsX2_replace (wsV RX2 119 RX1 yX1_bestCodeFor wsX1_bestCodeFor) := goodIn_app (goodIn_of _ (by decide +kernel)) ggX2_replace_X1_bestCodeFor
set_option maxRecDepth 20000 in
theorem ggX2_replace_X1_giveCode : GoodIn wsX2_replace wsX1_giveCode := goodIn_r _ [63, 33, 25, 17, 26, 27, 15, 28, 64, 65, 66, 67, 52, 19, 68, 20, 21, 22, 23, 24, 53, 54, 55, 56, 57, 58, 59, 92, 93, 94, 95, 96, 97, 98, 99] (by decide +kernel) (by decide +kernel)
set_option maxRecDepth 20000 in
theorem gX2_replace_X1_giveCode : GoodIn wsX2_replace (wsV RX2 122 RX1 yX1_giveCode wsX1_giveCode) := goodIn_app (goodIn_of _ (by decide +kernel)) ggX2_replace_X1_giveCode
set_option maxRecDepth 20000 in
theorem ggX2_replace_X0_voidCopiesOf : GoodIn wsX2_replace wsX0_voidCopiesOf := goodIn_r _ [73, 74, 75, 76, 77, 78, 72, 79, 80, 81, 82, 83, 84, 85, 86, 100, 101, 102, 103, 104, 105, 106, 107] (by decide +kernel) (by decide +kernel)
set_option maxRecDepth 20000 in
theorem gX2_replace_X0_voidCopiesOf : GoodIn wsX2_replace (wsV RX2 125 RX0 yX0_voidCopiesOf wsX0_voidCopiesOf) := goodIn_app (goodIn_of _ (by decide +kernel)) ggX2_replace_X0_voidCopiesOf
theorem dX2_replace_0 : decode cX2_replace 0 = .ok (.aload_n 0, 1) := by decide +kernel
theorem dX2_replace_1 : decode cX2_replace 1 = .ok (.iload_n 1, 1) := by decide +kernel
theorem dX2_replace_2 : decode cX2_replace 2 = .ok (.invokevirtual 81, 3) := by decide +kernel
theorem dX2_replace_5 : decode cX2_replace 5 = .ok (.aload_n 0, 1) := by decide +kernel
theorem dX2_replace_6 : decode cX2_replace 6 = .ok (.getfield 16, 3) := by decide +kernel
theorem dX2_replace_9 : decode cX2_replace 9 = .ok (.iload_n 1, 1) := by decide +kernel
theorem dX2_replace_10 : decode cX2_replace 10 = .ok (.invokevirtual 119, 3) := by decide +kernel
theorem dX2_replace_13 : decode cX2_replace 13 = .ok (.istore_n 2, 1) := by decide +kernel
theorem dX2_replace_14 : decode cX2_replace 14 = .ok (.iload_n 2, 1) := by decide +kernel
theorem dX2_replace_15 : decode cX2_replace 15 = .ok (.iconst (-1), 1) := by decide +kernel
theorem dX2_replace_16 : decode cX2_replace 16 = .ok (.if_icmp .ne 5, 3) := by decide +kernel
theorem dX2_replace_19 : decode cX2_replace 19 = .ok (.iconst (-1), 1) := by decide +kernel
theorem dX2_replace_20 : decode cX2_replace 20 = .ok (.ireturn, 1) := by decide +kernel
theorem dX2_replace_21 : decode cX2_replace 21 = .ok (.aload_n 0, 1) := by decide +kernel
theorem dX2_replace_22 : decode cX2_replace 22 = .ok (.getfield 16, 3) := by decide +kernel
theorem dX2_replace_25 : decode cX2_replace 25 = .ok (.iload_n 1, 1) := by decide +kernel
theorem dX2_replace_26 : decode cX2_replace 26 = .ok (.iload_n 2, 1) := by decide +kernel
theorem dX2_replace_27 : decode cX2_replace 27 = .ok (.invokevirtual 122, 3) := by decide +kernel
theorem dX2_replace_30 : decode cX2_replace 30 = .ok (.aload_n 0, 1) := by decide +kernel
theorem dX2_replace_31 : decode cX2_replace 31 = .ok (.getfield 23, 3) := by decide +kernel
theorem dX2_replace_34 : decode cX2_replace 34 = .ok (.iload_n 1, 1) := by decide +kernel
theorem dX2_replace_35 : decode cX2_replace 35 = .ok (.aload_n 0, 1) := by decide +kernel
theorem dX2_replace_36 : decode cX2_replace 36 = .ok (.getfield 7, 3) := by decide +kernel
theorem dX2_replace_39 : decode cX2_replace 39 = .ok (.invokevirtual 125, 3) := by decide +kernel
theorem dX2_replace_42 : decode cX2_replace 42 = .ok (.iload_n 2, 1) := by decide +kernel
theorem dX2_replace_43 : decode cX2_replace 43 = .ok (.ireturn, 1) := by decide +kernel
set_option maxRecDepth 20000 in
theorem ggX2_cut_X2_needKey : GoodIn wsX2_cut wsX2_needKey := goodIn_ca (goodIn_r _ [9, 10, 11, 12, 13, 22, 23, 24, 25, 26, 35, 36, 37, 38, 39, 40, 41, 42] (by decide +kernel) (by decide +kernel)) (goodIn_sub (fun _ h => List.mem_cons_of_mem _ (List.mem_append_right _ h)) (by decide +kernel))
set_option maxRecDepth 20000 in
theorem gX2_cut_X2_needKey : GoodIn wsX2_cut (wsV RX2 81 RX2 yX2_needKey wsX2_needKey) := goodIn_app (goodIn_of _ (by decide +kernel)) ggX2_cut_X2_needKey
set_option maxRecDepth 20000 in
theorem ggX2_cut_X0_takeCopy : GoodIn wsX2_cut wsX0_takeCopy := goodIn_r _ [18, 19, 20, 21, 27, 28, 29, 30, 31, 32, 33, 34] (by decide +kernel) (by decide +kernel)
set_option maxRecDepth 20000 in
theorem gX2_cut_X0_takeCopy : GoodIn wsX2_cut (wsV RX2 133 RX0 yX0_takeCopy wsX0_takeCopy) := goodIn_app (goodIn_of _ (by decide +kernel)) ggX2_cut_X0_takeCopy
theorem dX2_cut_0 : decode cX2_cut 0 = .ok (.aload_n 0, 1) := by decide +kernel
theorem dX2_cut_1 : decode cX2_cut 1 = .ok (.iload_n 1, 1) := by decide +kernel
theorem dX2_cut_2 : decode cX2_cut 2 = .ok (.invokevirtual 81, 3) := by decide +kernel
theorem dX2_cut_5 : decode cX2_cut 5 = .ok (.aload_n 0, 1) := by decide +kernel
theorem dX2_cut_6 : decode cX2_cut 6 = .ok (.getfield 23, 3) := by decide +kernel
theorem dX2_cut_9 : decode cX2_cut 9 = .ok (.getfield 128, 3) := by decide +kernel
theorem dX2_cut_12 : decode cX2_cut 12 = .ok (.bipush 24, 2) := by decide +kernel
theorem dX2_cut_14 : decode cX2_cut 14 = .ok (.if_icmp .lt 13, 3) := by decide +kernel
theorem dX2_cut_17 : decode cX2_cut 17 = .ok (.new 44, 3) := by decide +kernel
theorem dX2_cut_20 : decode cX2_cut 20 = .ok (.dup, 1) := by decide +kernel
theorem dX2_cut_21 : decode cX2_cut 21 = .ok (.ldc 131, 2) := by decide +kernel
theorem dX2_cut_23 : decode cX2_cut 23 = .ok (.invokespecial 48, 3) := by decide +kernel
theorem dX2_cut_26 : decode cX2_cut 26 = .ok (.athrow, 1) := by decide +kernel
theorem dX2_cut_27 : decode cX2_cut 27 = .ok (.aload_n 0, 1) := by decide +kernel
theorem dX2_cut_28 : decode cX2_cut 28 = .ok (.getfield 23, 3) := by decide +kernel
theorem dX2_cut_31 : decode cX2_cut 31 = .ok (.iload_n 1, 1) := by decide +kernel
theorem dX2_cut_32 : decode cX2_cut 32 = .ok (.invokevirtual 133, 3) := by decide +kernel
theorem dX2_cut_35 : decode cX2_cut 35 = .ok (.ireturn, 1) := by decide +kernel
set_option maxRecDepth 20000 in
theorem ggX2_lend_X2_needCopy : GoodIn wsX2_lend wsX2_needCopy := goodIn_ca (goodIn_r _ [9, 10, 11, 3, 12, 42, 43, 44, 45, 46, 47, 48, 49, 50, 51, 52, 53, 54] (by decide +kernel) (by decide +kernel)) (goodIn_sub (fun _ h => List.mem_cons_of_mem _ (List.mem_append_left _ (List.mem_append_right _ h))) (by decide +kernel))
set_option maxRecDepth 20000 in
theorem gX2_lend_X2_needCopy : GoodIn wsX2_lend (wsV RX2 136 RX2 yX2_needCopy wsX2_needCopy) := goodIn_app (goodIn_of _ (by decide +kernel)) ggX2_lend_X2_needCopy
set_option maxRecDepth 20000 in
theorem ggX2_lend_X2_needPerson : GoodIn wsX2_lend wsX2_needPerson := goodIn_ca (goodIn_r _ [16, 10, 11] (by decide +kernel) (by decide +kernel)) (goodIn_sub (fun _ h => List.mem_cons_of_mem _ (List.mem_append_left _ (List.mem_append_right _ h))) (by decide +kernel))
set_option maxRecDepth 20000 in
theorem gX2_lend_X2_needPerson : GoodIn wsX2_lend (wsV RX2 139 RX2 yX2_needPerson wsX2_needPerson) := goodIn_app (goodIn_of _ (by decide +kernel)) ggX2_lend_X2_needPerson
set_option maxRecDepth 20000 in
theorem ggX2_lend_X2_needDays : GoodIn wsX2_lend wsX2_needDays := goodIn_ca (goodIn_r _ [20, 21, 22] (by decide +kernel) (by decide +kernel)) (goodIn_sub (fun _ h => List.mem_cons_of_mem _ (List.mem_append_right _ h)) (by decide +kernel))
set_option maxRecDepth 20000 in
theorem gX2_lend_X2_needDays : GoodIn wsX2_lend (wsV RX2 142 RX2 yX2_needDays wsX2_needDays) := goodIn_app (goodIn_of _ (by decide +kernel)) ggX2_lend_X2_needDays
set_option maxRecDepth 20000 in
theorem ggX2_lend_X0_canBeLent : GoodIn wsX2_lend wsX0_canBeLent := goodIn_r _ [27, 28, 29, 47, 48, 49, 50, 51, 52, 53, 54] (by decide +kernel) (by decide +kernel)
set_option maxRecDepth 20000 in
theorem gX2_lend_X0_canBeLent : GoodIn wsX2_lend (wsV RX2 145 RX0 yX0_canBeLent wsX0_canBeLent) := goodIn_app (goodIn_of _ (by decide +kernel)) ggX2_lend_X0_canBeLent
set_option maxRecDepth 20000 in
theorem ggX2_lend_X0_startLoan : GoodIn wsX2_lend wsX0_startLoan := goodIn_r _ [33, 29, 28, 34, 35, 36, 37, 38, 39, 40, 26, 41, 47, 48, 49, 50, 51, 52, 53, 54] (by decide +kernel) (by decide +kernel)
set_option maxRecDepth 20000 in
theorem gX2_lend_X0_startLoan : GoodIn wsX2_lend (wsV RX2 150 RX0 yX0_startLoan wsX0_startLoan) := goodIn_app (goodIn_of _ (by decide +kernel)) ggX2_lend_X0_startLoan
theorem dX2_lend_0 : decode cX2_lend 0 = .ok (.aload_n 0, 1) := by decide +kernel
theorem dX2_lend_1 : decode cX2_lend 1 = .ok (.iload_n 1, 1) := by decide +kernel
theorem dX2_lend_2 : decode cX2_lend 2 = .ok (.invokevirtual 136, 3) := by decide +kernel
theorem dX2_lend_5 : decode cX2_lend 5 = .ok (.aload_n 0, 1) := by decide +kernel
theorem dX2_lend_6 : decode cX2_lend 6 = .ok (.iload_n 2, 1) := by decide +kernel
theorem dX2_lend_7 : decode cX2_lend 7 = .ok (.invokevirtual 139, 3) := by decide +kernel
theorem dX2_lend_10 : decode cX2_lend 10 = .ok (.aload_n 0, 1) := by decide +kernel
theorem dX2_lend_11 : decode cX2_lend 11 = .ok (.iload_n 3, 1) := by decide +kernel
theorem dX2_lend_12 : decode cX2_lend 12 = .ok (.invokevirtual 142, 3) := by decide +kernel
theorem dX2_lend_15 : decode cX2_lend 15 = .ok (.aload_n 0, 1) := by decide +kernel
theorem dX2_lend_16 : decode cX2_lend 16 = .ok (.getfield 23, 3) := by decide +kernel
theorem dX2_lend_19 : decode cX2_lend 19 = .ok (.iload_n 1, 1) := by decide +kernel
theorem dX2_lend_20 : decode cX2_lend 20 = .ok (.invokevirtual 145, 3) := by decide +kernel
theorem dX2_lend_23 : decode cX2_lend 23 = .ok (.ifCond .ne 13, 3) := by decide +kernel
theorem dX2_lend_26 : decode cX2_lend 26 = .ok (.new 44, 3) := by decide +kernel
theorem dX2_lend_29 : decode cX2_lend 29 = .ok (.dup, 1) := by decide +kernel
theorem dX2_lend_30 : decode cX2_lend 30 = .ok (.ldc 148, 2) := by decide +kernel
theorem dX2_lend_32 : decode cX2_lend 32 = .ok (.invokespecial 48, 3) := by decide +kernel
theorem dX2_lend_35 : decode cX2_lend 35 = .ok (.athrow, 1) := by decide +kernel
theorem dX2_lend_36 : decode cX2_lend 36 = .ok (.aload_n 0, 1) := by decide +kernel
theorem dX2_lend_37 : decode cX2_lend 37 = .ok (.getfield 7, 3) := by decide +kernel
theorem dX2_lend_40 : decode cX2_lend 40 = .ok (.iload_n 3, 1) := by decide +kernel
theorem dX2_lend_41 : decode cX2_lend 41 = .ok (.iadd, 1) := by decide +kernel
theorem dX2_lend_42 : decode cX2_lend 42 = .ok (.istore 4, 2) := by decide +kernel
theorem dX2_lend_44 : decode cX2_lend 44 = .ok (.aload_n 0, 1) := by decide +kernel
theorem dX2_lend_45 : decode cX2_lend 45 = .ok (.getfield 23, 3) := by decide +kernel
theorem dX2_lend_48 : decode cX2_lend 48 = .ok (.iload_n 1, 1) := by decide +kernel
theorem dX2_lend_49 : decode cX2_lend 49 = .ok (.iload_n 2, 1) := by decide +kernel
theorem dX2_lend_50 : decode cX2_lend 50 = .ok (.aload_n 0, 1) := by decide +kernel
theorem dX2_lend_51 : decode cX2_lend 51 = .ok (.getfield 7, 3) := by decide +kernel
theorem dX2_lend_54 : decode cX2_lend 54 = .ok (.iload 4, 2) := by decide +kernel
theorem dX2_lend_56 : decode cX2_lend 56 = .ok (.invokevirtual 150, 3) := by decide +kernel
theorem dX2_lend_59 : decode cX2_lend 59 = .ok (.iload 4, 2) := by decide +kernel
theorem dX2_lend_61 : decode cX2_lend 61 = .ok (.ireturn, 1) := by decide +kernel
set_option maxRecDepth 20000 in
theorem ggX2_giveBack_X2_needCopy : GoodIn wsX2_giveBack wsX2_needCopy := goodIn_ca (goodIn_r _ [14, 15, 16, 3, 17, 35, 36, 37, 38, 39, 40, 41, 42, 43, 44, 45, 46, 47] (by decide +kernel) (by decide +kernel)) (goodIn_sub (fun _ h => List.mem_cons_of_mem _ (List.mem_append_right _ h)) (by decide +kernel))
set_option maxRecDepth 20000 in
theorem gX2_giveBack_X2_needCopy : GoodIn wsX2_giveBack (wsV RX2 136 RX2 yX2_needCopy wsX2_needCopy) := goodIn_app (goodIn_of _ (by decide +kernel)) ggX2_giveBack_X2_needCopy
set_option maxRecDepth 20000 in
theorem ggX2_giveBack_X0_dueOf : GoodIn wsX2_giveBack wsX0_dueOf := goodIn_r _ [22, 23, 24, 25, 26, 27, 21, 28, 29, 40, 41, 42, 43, 44, 45, 46, 47] (by decide +kernel) (by decide +kernel)
set_option maxRecDepth 20000 in
theorem gX2_giveBack_X0_dueOf : GoodIn wsX2_giveBack (wsV RX2 159 RX0 yX0_dueOf wsX0_dueOf) := goodIn_app (goodIn_of _ (by decide +kernel)) ggX2_giveBack_X0_dueOf
set_option maxRecDepth 20000 in
theorem ggX2_giveBack_X0_move : GoodIn wsX2_giveBack wsX0_move := goodIn_r _ [33, 23, 34, 25, 26, 27, 21, 28, 29, 40, 41, 42, 43, 44, 45, 46, 47] (by decide +kernel) (by decide +kernel)
set_option maxRecDepth 20000 in
theorem gX2_giveBack_X0_move : GoodIn wsX2_giveBack (wsV RX2 167 RX0 yX0_move wsX0_move) := goodIn_app (goodIn_of _ (by decide +kernel)) ggX2_giveBack_X0_move
theorem dX2_giveBack_0 : decode cX2_giveBack 0 = .ok (.aload_n 0, 1) := by decide +kernel
theorem dX2_giveBack_1 : decode cX2_giveBack 1 = .ok (.iload_n 1, 1) := by decide +kernel
theorem dX2_giveBack_2 : decode cX2_giveBack 2 = .ok (.invokevirtual 136, 3) := by decide +kernel
theorem dX2_giveBack_5 : decode cX2_giveBack 5 = .ok (.aload_n 0, 1) := by decide +kernel
theorem dX2_giveBack_6 : decode cX2_giveBack 6 = .ok (.getfield 23, 3) := by decide +kernel
theorem dX2_giveBack_9 : decode cX2_giveBack 9 = .ok (.getfield 154, 3) := by decide +kernel
theorem dX2_giveBack_12 : decode cX2_giveBack 12 = .ok (.iload_n 1, 1) := by decide +kernel
theorem dX2_giveBack_13 : decode cX2_giveBack 13 = .ok (.iaload, 1) := by decide +kernel
theorem dX2_giveBack_14 : decode cX2_giveBack 14 = .ok (.iconst 1, 1) := by decide +kernel
theorem dX2_giveBack_15 : decode cX2_giveBack 15 = .ok (.if_icmp .eq 13, 3) := by decide +kernel
theorem dX2_giveBack_18 : decode cX2_giveBack 18 = .ok (.new 44, 3) := by decide +kernel
theorem dX2_giveBack_21 : decode cX2_giveBack 21 = .ok (.dup, 1) := by decide +kernel
theorem dX2_giveBack_22 : decode cX2_giveBack 22 = .ok (.ldc 157, 2) := by decide +kernel
theorem dX2_giveBack_24 : decode cX2_giveBack 24 = .ok (.invokespecial 48, 3) := by decide +kernel
theorem dX2_giveBack_27 : decode cX2_giveBack 27 = .ok (.athrow, 1) := by decide +kernel
theorem dX2_giveBack_28 : decode cX2_giveBack 28 = .ok (.iconst 0, 1) := by decide +kernel
theorem dX2_giveBack_29 : decode cX2_giveBack 29 = .ok (.aload_n 0, 1) := by decide +kernel
theorem dX2_giveBack_30 : decode cX2_giveBack 30 = .ok (.getfield 7, 3) := by decide +kernel
theorem dX2_giveBack_33 : decode cX2_giveBack 33 = .ok (.aload_n 0, 1) := by decide +kernel
theorem dX2_giveBack_34 : decode cX2_giveBack 34 = .ok (.getfield 23, 3) := by decide +kernel
theorem dX2_giveBack_37 : decode cX2_giveBack 37 = .ok (.iload_n 1, 1) := by decide +kernel
theorem dX2_giveBack_38 : decode cX2_giveBack 38 = .ok (.invokevirtual 159, 3) := by decide +kernel
theorem dX2_giveBack_41 : decode cX2_giveBack 41 = .ok (.isub, 1) := by decide +kernel
theorem dX2_giveBack_42 : decode cX2_giveBack 42 = .ok (.invokestatic 162, 3) := by decide +kernel
theorem dX2_giveBack_45 : decode cX2_giveBack 45 = .ok (.istore_n 2, 1) := by decide +kernel
theorem dX2_giveBack_46 : decode cX2_giveBack 46 = .ok (.aload_n 0, 1) := by decide +kernel
theorem dX2_giveBack_47 : decode cX2_giveBack 47 = .ok (.getfield 23, 3) := by decide +kernel
theorem dX2_giveBack_50 : decode cX2_giveBack 50 = .ok (.iload_n 1, 1) := by decide +kernel
theorem dX2_giveBack_51 : decode cX2_giveBack 51 = .ok (.iconst 0, 1) := by decide +kernel
theorem dX2_giveBack_52 : decode cX2_giveBack 52 = .ok (.aload_n 0, 1) := by decide +kernel
theorem dX2_giveBack_53 : decode cX2_giveBack 53 = .ok (.getfield 7, 3) := by decide +kernel
theorem dX2_giveBack_56 : decode cX2_giveBack 56 = .ok (.invokevirtual 167, 3) := by decide +kernel
theorem dX2_giveBack_59 : decode cX2_giveBack 59 = .ok (.iload_n 2, 1) := by decide +kernel
theorem dX2_giveBack_60 : decode cX2_giveBack 60 = .ok (.ireturn, 1) := by decide +kernel
set_option maxRecDepth 20000 in
theorem ggX2_lose_X2_needCopy : GoodIn wsX2_lose wsX2_needCopy := goodIn_ca (goodIn_r _ [12, 13, 14, 3, 15, 42, 43, 44, 45, 46, 47, 48, 49, 50, 51, 52, 53, 54] (by decide +kernel) (by decide +kernel)) (goodIn_sub (fun _ h => List.mem_cons_of_mem _ (List.mem_append_right _ h)) (by decide +kernel))
set_option maxRecDepth 20000 in
theorem gX2_lose_X2_needCopy : GoodIn wsX2_lose (wsV RX2 136 RX2 yX2_needCopy wsX2_needCopy) := goodIn_app (goodIn_of _ (by decide +kernel)) ggX2_lose_X2_needCopy
set_option maxRecDepth 20000 in
theorem ggX2_lose_X0_move : GoodIn wsX2_lose wsX0_move := goodIn_r _ [20, 21, 22, 23, 24, 25, 19, 26, 27, 47, 48, 49, 50, 51, 52, 53, 54] (by decide +kernel) (by decide +kernel)
set_option maxRecDepth 20000 in
theorem gX2_lose_X0_move : GoodIn wsX2_lose (wsV RX2 167 RX0 yX0_move wsX0_move) := goodIn_app (goodIn_of _ (by decide +kernel)) ggX2_lose_X0_move
set_option maxRecDepth 20000 in
theorem ggX2_lose_X1_doorsOf : GoodIn wsX2_lose wsX1_doorsOf := goodIn_r _ [32, 33, 34, 35, 36, 31, 37, 38, 39, 40, 11, 41, 55, 56, 57, 58, 59, 60, 61, 62] (by decide +kernel) (by decide +kernel)
set_option maxRecDepth 20000 in
theorem gX2_lose_X1_doorsOf : GoodIn wsX2_lose (wsV RX2 103 RX1 yX1_doorsOf wsX1_doorsOf) := goodIn_app (goodIn_of _ (by decide +kernel)) ggX2_lose_X1_doorsOf
theorem dX2_lose_0 : decode cX2_lose 0 = .ok (.aload_n 0, 1) := by decide +kernel
theorem dX2_lose_1 : decode cX2_lose 1 = .ok (.iload_n 1, 1) := by decide +kernel
theorem dX2_lose_2 : decode cX2_lose 2 = .ok (.invokevirtual 136, 3) := by decide +kernel
theorem dX2_lose_5 : decode cX2_lose 5 = .ok (.aload_n 0, 1) := by decide +kernel
theorem dX2_lose_6 : decode cX2_lose 6 = .ok (.getfield 23, 3) := by decide +kernel
theorem dX2_lose_9 : decode cX2_lose 9 = .ok (.getfield 154, 3) := by decide +kernel
theorem dX2_lose_12 : decode cX2_lose 12 = .ok (.iload_n 1, 1) := by decide +kernel
theorem dX2_lose_13 : decode cX2_lose 13 = .ok (.iaload, 1) := by decide +kernel
theorem dX2_lose_14 : decode cX2_lose 14 = .ok (.istore_n 2, 1) := by decide +kernel
theorem dX2_lose_15 : decode cX2_lose 15 = .ok (.iload_n 2, 1) := by decide +kernel
theorem dX2_lose_16 : decode cX2_lose 16 = .ok (.iconst 2, 1) := by decide +kernel
theorem dX2_lose_17 : decode cX2_lose 17 = .ok (.if_icmp .eq 8, 3) := by decide +kernel
theorem dX2_lose_20 : decode cX2_lose 20 = .ok (.iload_n 2, 1) := by decide +kernel
theorem dX2_lose_21 : decode cX2_lose 21 = .ok (.iconst 3, 1) := by decide +kernel
theorem dX2_lose_22 : decode cX2_lose 22 = .ok (.if_icmp .ne 13, 3) := by decide +kernel
theorem dX2_lose_25 : decode cX2_lose 25 = .ok (.new 44, 3) := by decide +kernel
theorem dX2_lose_28 : decode cX2_lose 28 = .ok (.dup, 1) := by decide +kernel
theorem dX2_lose_29 : decode cX2_lose 29 = .ok (.ldc 171, 2) := by decide +kernel
theorem dX2_lose_31 : decode cX2_lose 31 = .ok (.invokespecial 48, 3) := by decide +kernel
theorem dX2_lose_34 : decode cX2_lose 34 = .ok (.athrow, 1) := by decide +kernel
theorem dX2_lose_35 : decode cX2_lose 35 = .ok (.aload_n 0, 1) := by decide +kernel
theorem dX2_lose_36 : decode cX2_lose 36 = .ok (.getfield 23, 3) := by decide +kernel
theorem dX2_lose_39 : decode cX2_lose 39 = .ok (.iload_n 1, 1) := by decide +kernel
theorem dX2_lose_40 : decode cX2_lose 40 = .ok (.iconst 2, 1) := by decide +kernel
theorem dX2_lose_41 : decode cX2_lose 41 = .ok (.aload_n 0, 1) := by decide +kernel
theorem dX2_lose_42 : decode cX2_lose 42 = .ok (.getfield 7, 3) := by decide +kernel
theorem dX2_lose_45 : decode cX2_lose 45 = .ok (.invokevirtual 167, 3) := by decide +kernel
theorem dX2_lose_48 : decode cX2_lose 48 = .ok (.aload_n 0, 1) := by decide +kernel
theorem dX2_lose_49 : decode cX2_lose 49 = .ok (.getfield 16, 3) := by decide +kernel
theorem dX2_lose_52 : decode cX2_lose 52 = .ok (.aload_n 0, 1) := by decide +kernel
theorem dX2_lose_53 : decode cX2_lose 53 = .ok (.getfield 23, 3) := by decide +kernel
theorem dX2_lose_56 : decode cX2_lose 56 = .ok (.getfield 173, 3) := by decide +kernel
theorem dX2_lose_59 : decode cX2_lose 59 = .ok (.iload_n 1, 1) := by decide +kernel
theorem dX2_lose_60 : decode cX2_lose 60 = .ok (.iaload, 1) := by decide +kernel
theorem dX2_lose_61 : decode cX2_lose 61 = .ok (.invokevirtual 103, 3) := by decide +kernel
theorem dX2_lose_64 : decode cX2_lose 64 = .ok (.ireturn, 1) := by decide +kernel
set_option maxRecDepth 20000 in
theorem ggX2_find_X2_needCopy : GoodIn wsX2_find wsX2_needCopy := goodIn_ca (goodIn_r _ [10, 11, 12, 3, 13, 56, 57, 58, 59, 60, 61, 62, 63, 64, 65, 66, 67, 68] (by decide +kernel) (by decide +kernel)) (goodIn_sub (fun _ h => List.mem_cons_of_mem _ (List.mem_append_right _ h)) (by decide +kernel))
set_option maxRecDepth 20000 in
theorem gX2_find_X2_needCopy : GoodIn wsX2_find (wsV RX2 136 RX2 yX2_needCopy wsX2_needCopy) := goodIn_app (goodIn_of _ (by decide +kernel)) ggX2_find_X2_needCopy
set_option maxRecDepth 20000 in
theorem ggX2_find_X0_move : GoodIn wsX2_find wsX0_move := goodIn_r _ [18, 19, 20, 21, 22, 23, 17, 24, 25, 61, 62, 63, 64, 65, 66, 67, 68] (by decide +kernel) (by decide +kernel)
set_option maxRecDepth 20000 in
theorem gX2_find_X0_move : GoodIn wsX2_find (wsV RX2 167 RX0 yX0_move wsX0_move) := goodIn_app (goodIn_of _ (by decide +kernel)) ggX2_find_X0_move
set_option maxRecDepth 20000 in
theorem ggX2_find_X2_doorsAtRisk : GoodIn wsX2_find wsX2_doorsAtRisk := goodIn_r _ [29, 30, 3, 31, 32, 33, 17, 34, 35, 19, 36, 37, 38, 39, 40, 41, 42, 43, 44, 45, 46, 47, 48, 49, 50, 51, 52, 53, 54, 9, 55, 56, 57, 58, 59, 60, 61, 62, 63, 64, 65, 66, 67, 68, 69, 70, 71, 72, 73, 74, 75, 76] (by decide +kernel) (by decide +kernel)
set_option maxRecDepth 20000 in
theorem gX2_find_X2_doorsAtRisk : GoodIn wsX2_find (wsV RX2 178 RX2 yX2_doorsAtRisk wsX2_doorsAtRisk) := goodIn_app (goodIn_of _ (by decide +kernel)) ggX2_find_X2_doorsAtRisk
theorem dX2_find_0 : decode cX2_find 0 = .ok (.aload_n 0, 1) := by decide +kernel
theorem dX2_find_1 : decode cX2_find 1 = .ok (.iload_n 1, 1) := by decide +kernel
theorem dX2_find_2 : decode cX2_find 2 = .ok (.invokevirtual 136, 3) := by decide +kernel
theorem dX2_find_5 : decode cX2_find 5 = .ok (.aload_n 0, 1) := by decide +kernel
theorem dX2_find_6 : decode cX2_find 6 = .ok (.getfield 23, 3) := by decide +kernel
theorem dX2_find_9 : decode cX2_find 9 = .ok (.getfield 154, 3) := by decide +kernel
theorem dX2_find_12 : decode cX2_find 12 = .ok (.iload_n 1, 1) := by decide +kernel
theorem dX2_find_13 : decode cX2_find 13 = .ok (.iaload, 1) := by decide +kernel
theorem dX2_find_14 : decode cX2_find 14 = .ok (.iconst 2, 1) := by decide +kernel
theorem dX2_find_15 : decode cX2_find 15 = .ok (.if_icmp .eq 13, 3) := by decide +kernel
theorem dX2_find_18 : decode cX2_find 18 = .ok (.new 44, 3) := by decide +kernel
theorem dX2_find_21 : decode cX2_find 21 = .ok (.dup, 1) := by decide +kernel
theorem dX2_find_22 : decode cX2_find 22 = .ok (.ldc 176, 2) := by decide +kernel
theorem dX2_find_24 : decode cX2_find 24 = .ok (.invokespecial 48, 3) := by decide +kernel
theorem dX2_find_27 : decode cX2_find 27 = .ok (.athrow, 1) := by decide +kernel
theorem dX2_find_28 : decode cX2_find 28 = .ok (.aload_n 0, 1) := by decide +kernel
theorem dX2_find_29 : decode cX2_find 29 = .ok (.getfield 23, 3) := by decide +kernel
theorem dX2_find_32 : decode cX2_find 32 = .ok (.iload_n 1, 1) := by decide +kernel
theorem dX2_find_33 : decode cX2_find 33 = .ok (.iconst 0, 1) := by decide +kernel
theorem dX2_find_34 : decode cX2_find 34 = .ok (.aload_n 0, 1) := by decide +kernel
theorem dX2_find_35 : decode cX2_find 35 = .ok (.getfield 7, 3) := by decide +kernel
theorem dX2_find_38 : decode cX2_find 38 = .ok (.invokevirtual 167, 3) := by decide +kernel
theorem dX2_find_41 : decode cX2_find 41 = .ok (.aload_n 0, 1) := by decide +kernel
theorem dX2_find_42 : decode cX2_find 42 = .ok (.invokevirtual 178, 3) := by decide +kernel
theorem dX2_find_45 : decode cX2_find 45 = .ok (.ireturn, 1) := by decide +kernel
set_option maxRecDepth 20000 in
theorem ggX2_pass_X2_needDays : GoodIn wsX2_pass wsX2_needDays := goodIn_ca (goodIn_r _ [8, 9, 10] (by decide +kernel) (by decide +kernel)) (goodIn_sub (fun _ h => List.mem_cons_of_mem _ (List.mem_append_right _ h)) (by decide +kernel))
set_option maxRecDepth 20000 in
theorem gX2_pass_X2_needDays : GoodIn wsX2_pass (wsV RX2 142 RX2 yX2_needDays wsX2_needDays) := goodIn_app (goodIn_of _ (by decide +kernel)) ggX2_pass_X2_needDays
theorem dX2_pass_0 : decode cX2_pass 0 = .ok (.aload_n 0, 1) := by decide +kernel
theorem dX2_pass_1 : decode cX2_pass 1 = .ok (.iload_n 1, 1) := by decide +kernel
theorem dX2_pass_2 : decode cX2_pass 2 = .ok (.invokevirtual 142, 3) := by decide +kernel
theorem dX2_pass_5 : decode cX2_pass 5 = .ok (.aload_n 0, 1) := by decide +kernel
theorem dX2_pass_6 : decode cX2_pass 6 = .ok (.getfield 7, 3) := by decide +kernel
theorem dX2_pass_9 : decode cX2_pass 9 = .ok (.iload_n 1, 1) := by decide +kernel
theorem dX2_pass_10 : decode cX2_pass 10 = .ok (.iadd, 1) := by decide +kernel
theorem dX2_pass_11 : decode cX2_pass 11 = .ok (.sipush 9999, 3) := by decide +kernel
theorem dX2_pass_14 : decode cX2_pass 14 = .ok (.if_icmp .le 13, 3) := by decide +kernel
theorem dX2_pass_17 : decode cX2_pass 17 = .ok (.new 44, 3) := by decide +kernel
theorem dX2_pass_20 : decode cX2_pass 20 = .ok (.dup, 1) := by decide +kernel
theorem dX2_pass_21 : decode cX2_pass 21 = .ok (.ldc 181, 2) := by decide +kernel
theorem dX2_pass_23 : decode cX2_pass 23 = .ok (.invokespecial 48, 3) := by decide +kernel
theorem dX2_pass_26 : decode cX2_pass 26 = .ok (.athrow, 1) := by decide +kernel
theorem dX2_pass_27 : decode cX2_pass 27 = .ok (.aload_n 0, 1) := by decide +kernel
theorem dX2_pass_28 : decode cX2_pass 28 = .ok (.dup, 1) := by decide +kernel
theorem dX2_pass_29 : decode cX2_pass 29 = .ok (.getfield 7, 3) := by decide +kernel
theorem dX2_pass_32 : decode cX2_pass 32 = .ok (.iload_n 1, 1) := by decide +kernel
theorem dX2_pass_33 : decode cX2_pass 33 = .ok (.iadd, 1) := by decide +kernel
theorem dX2_pass_34 : decode cX2_pass 34 = .ok (.putfield 7, 3) := by decide +kernel
theorem dX2_pass_37 : decode cX2_pass 37 = .ok (.aload_n 0, 1) := by decide +kernel
theorem dX2_pass_38 : decode cX2_pass 38 = .ok (.getfield 7, 3) := by decide +kernel
theorem dX2_pass_41 : decode cX2_pass 41 = .ok (.ireturn, 1) := by decide +kernel
theorem dX2_today_0 : decode cX2_today 0 = .ok (.aload_n 0, 1) := by decide +kernel
theorem dX2_today_1 : decode cX2_today 1 = .ok (.getfield 7, 3) := by decide +kernel
theorem dX2_today_4 : decode cX2_today 4 = .ok (.ireturn, 1) := by decide +kernel
theorem dX2_copyCount_0 : decode cX2_copyCount 0 = .ok (.aload_n 0, 1) := by decide +kernel
theorem dX2_copyCount_1 : decode cX2_copyCount 1 = .ok (.getfield 23, 3) := by decide +kernel
theorem dX2_copyCount_4 : decode cX2_copyCount 4 = .ok (.getfield 128, 3) := by decide +kernel
theorem dX2_copyCount_7 : decode cX2_copyCount 7 = .ok (.ireturn, 1) := by decide +kernel
set_option maxRecDepth 20000 in
theorem ggX2_copy_X2_needCopy : GoodIn wsX2_copy wsX2_needCopy := goodIn_ca (goodIn_r _ [11, 1, 2, 3, 12, 30, 31, 32, 33, 34, 35, 36, 37, 38, 39, 40, 41, 42] (by decide +kernel) (by decide +kernel)) (goodIn_sub (fun _ h => List.mem_cons_of_mem _ (List.mem_append_right _ h)) (by decide +kernel))
set_option maxRecDepth 20000 in
theorem gX2_copy_X2_needCopy : GoodIn wsX2_copy (wsV RX2 136 RX2 yX2_needCopy wsX2_needCopy) := goodIn_app (goodIn_of _ (by decide +kernel)) ggX2_copy_X2_needCopy
set_option maxRecDepth 20000 in
theorem ggX2_copy_X0_holderOf : GoodIn wsX2_copy wsX0_holderOf := goodIn_r _ [17, 18, 19, 20, 21, 22, 16, 23, 24, 35, 36, 37, 38, 39, 40, 41, 42] (by decide +kernel) (by decide +kernel)
set_option maxRecDepth 20000 in
theorem gX2_copy_X0_holderOf : GoodIn wsX2_copy (wsV RX2 183 RX0 yX0_holderOf wsX0_holderOf) := goodIn_app (goodIn_of _ (by decide +kernel)) ggX2_copy_X0_holderOf
set_option maxRecDepth 20000 in
theorem ggX2_copy_X0_dueOf : GoodIn wsX2_copy wsX0_dueOf := goodIn_r _ [28, 18, 29, 20, 21, 22, 16, 23, 24, 35, 36, 37, 38, 39, 40, 41, 42] (by decide +kernel) (by decide +kernel)
set_option maxRecDepth 20000 in
theorem gX2_copy_X0_dueOf : GoodIn wsX2_copy (wsV RX2 159 RX0 yX0_dueOf wsX0_dueOf) := goodIn_app (goodIn_of _ (by decide +kernel)) ggX2_copy_X0_dueOf
theorem dX2_copy_0 : decode cX2_copy 0 = .ok (.aload_n 0, 1) := by decide +kernel
theorem dX2_copy_1 : decode cX2_copy 1 = .ok (.iload_n 1, 1) := by decide +kernel
theorem dX2_copy_2 : decode cX2_copy 2 = .ok (.invokevirtual 136, 3) := by decide +kernel
theorem dX2_copy_5 : decode cX2_copy 5 = .ok (.iload_n 2, 1) := by decide +kernel
theorem dX2_copy_6 : decode cX2_copy 6 = .ok (.tableswitch 82 0 4 #[34, 44, 54, 63, 72], 34) := by decide +kernel
theorem dX2_copy_40 : decode cX2_copy 40 = .ok (.aload_n 0, 1) := by decide +kernel
theorem dX2_copy_41 : decode cX2_copy 41 = .ok (.getfield 23, 3) := by decide +kernel
theorem dX2_copy_44 : decode cX2_copy 44 = .ok (.getfield 173, 3) := by decide +kernel
theorem dX2_copy_47 : decode cX2_copy 47 = .ok (.iload_n 1, 1) := by decide +kernel
theorem dX2_copy_48 : decode cX2_copy 48 = .ok (.iaload, 1) := by decide +kernel
theorem dX2_copy_49 : decode cX2_copy 49 = .ok (.ireturn, 1) := by decide +kernel
theorem dX2_copy_50 : decode cX2_copy 50 = .ok (.aload_n 0, 1) := by decide +kernel
theorem dX2_copy_51 : decode cX2_copy 51 = .ok (.getfield 23, 3) := by decide +kernel
theorem dX2_copy_54 : decode cX2_copy 54 = .ok (.getfield 154, 3) := by decide +kernel
theorem dX2_copy_57 : decode cX2_copy 57 = .ok (.iload_n 1, 1) := by decide +kernel
theorem dX2_copy_58 : decode cX2_copy 58 = .ok (.iaload, 1) := by decide +kernel
theorem dX2_copy_59 : decode cX2_copy 59 = .ok (.ireturn, 1) := by decide +kernel
theorem dX2_copy_60 : decode cX2_copy 60 = .ok (.aload_n 0, 1) := by decide +kernel
theorem dX2_copy_61 : decode cX2_copy 61 = .ok (.getfield 23, 3) := by decide +kernel
theorem dX2_copy_64 : decode cX2_copy 64 = .ok (.iload_n 1, 1) := by decide +kernel
theorem dX2_copy_65 : decode cX2_copy 65 = .ok (.invokevirtual 183, 3) := by decide +kernel
theorem dX2_copy_68 : decode cX2_copy 68 = .ok (.ireturn, 1) := by decide +kernel
theorem dX2_copy_69 : decode cX2_copy 69 = .ok (.aload_n 0, 1) := by decide +kernel
theorem dX2_copy_70 : decode cX2_copy 70 = .ok (.getfield 23, 3) := by decide +kernel
theorem dX2_copy_73 : decode cX2_copy 73 = .ok (.iload_n 1, 1) := by decide +kernel
theorem dX2_copy_74 : decode cX2_copy 74 = .ok (.invokevirtual 159, 3) := by decide +kernel
theorem dX2_copy_77 : decode cX2_copy 77 = .ok (.ireturn, 1) := by decide +kernel
theorem dX2_copy_78 : decode cX2_copy 78 = .ok (.aload_n 0, 1) := by decide +kernel
theorem dX2_copy_79 : decode cX2_copy 79 = .ok (.getfield 23, 3) := by decide +kernel
theorem dX2_copy_82 : decode cX2_copy 82 = .ok (.getfield 186, 3) := by decide +kernel
theorem dX2_copy_85 : decode cX2_copy 85 = .ok (.iload_n 1, 1) := by decide +kernel
theorem dX2_copy_86 : decode cX2_copy 86 = .ok (.iaload, 1) := by decide +kernel
theorem dX2_copy_87 : decode cX2_copy 87 = .ok (.ireturn, 1) := by decide +kernel
theorem dX2_copy_88 : decode cX2_copy 88 = .ok (.new 87, 3) := by decide +kernel
theorem dX2_copy_91 : decode cX2_copy 91 = .ok (.dup, 1) := by decide +kernel
theorem dX2_copy_92 : decode cX2_copy 92 = .ok (.ldc 189, 2) := by decide +kernel
theorem dX2_copy_94 : decode cX2_copy 94 = .ok (.invokespecial 91, 3) := by decide +kernel
theorem dX2_copy_97 : decode cX2_copy 97 = .ok (.athrow, 1) := by decide +kernel
set_option maxRecDepth 20000 in
theorem ggX2_overdue_X0_copiesDueBefore : GoodIn wsX2_overdue wsX0_copiesDueBefore := goodIn_r _ [7, 8, 9, 10, 11, 12, 6, 13, 14, 15, 16, 17, 18, 19, 25, 26, 27, 28, 29, 30, 31, 32] (by decide +kernel) (by decide +kernel)
set_option maxRecDepth 20000 in
theorem gX2_overdue_X0_copiesDueBefore : GoodIn wsX2_overdue (wsV RX2 191 RX0 yX0_copiesDueBefore wsX0_copiesDueBefore) := goodIn_app (goodIn_of _ (by decide +kernel)) ggX2_overdue_X0_copiesDueBefore
theorem dX2_overdue_0 : decode cX2_overdue 0 = .ok (.aload_n 0, 1) := by decide +kernel
theorem dX2_overdue_1 : decode cX2_overdue 1 = .ok (.getfield 23, 3) := by decide +kernel
theorem dX2_overdue_4 : decode cX2_overdue 4 = .ok (.aload_n 0, 1) := by decide +kernel
theorem dX2_overdue_5 : decode cX2_overdue 5 = .ok (.getfield 7, 3) := by decide +kernel
theorem dX2_overdue_8 : decode cX2_overdue 8 = .ok (.invokevirtual 191, 3) := by decide +kernel
theorem dX2_overdue_11 : decode cX2_overdue 11 = .ok (.ireturn, 1) := by decide +kernel
set_option maxRecDepth 20000 in
theorem ggX2_holderAt_X2_needCopy : GoodIn wsX2_holderAt wsX2_needCopy := goodIn_ca (goodIn_r _ [9, 10, 11, 4, 12, 22, 23, 24, 25, 26, 27, 28, 29, 30, 31, 32, 33, 34] (by decide +kernel) (by decide +kernel)) (goodIn_sub (fun _ h => List.mem_cons_of_mem _ (List.mem_append_right _ h)) (by decide +kernel))
set_option maxRecDepth 20000 in
theorem gX2_holderAt_X2_needCopy : GoodIn wsX2_holderAt (wsV RX2 136 RX2 yX2_needCopy wsX2_needCopy) := goodIn_app (goodIn_of _ (by decide +kernel)) ggX2_holderAt_X2_needCopy
set_option maxRecDepth 20000 in
theorem ggX2_holderAt_X0_holderOn : GoodIn wsX2_holderAt wsX0_holderOn := goodIn_r _ [17, 18, 19, 20, 21, 27, 28, 29, 30, 31, 32, 33, 34] (by decide +kernel) (by decide +kernel)
set_option maxRecDepth 20000 in
theorem gX2_holderAt_X0_holderOn : GoodIn wsX2_holderAt (wsV RX2 196 RX0 yX0_holderOn wsX0_holderOn) := goodIn_app (goodIn_of _ (by decide +kernel)) ggX2_holderAt_X0_holderOn
theorem dX2_holderAt_0 : decode cX2_holderAt 0 = .ok (.aload_n 0, 1) := by decide +kernel
theorem dX2_holderAt_1 : decode cX2_holderAt 1 = .ok (.iload_n 1, 1) := by decide +kernel
theorem dX2_holderAt_2 : decode cX2_holderAt 2 = .ok (.invokevirtual 136, 3) := by decide +kernel
theorem dX2_holderAt_5 : decode cX2_holderAt 5 = .ok (.iload_n 2, 1) := by decide +kernel
theorem dX2_holderAt_6 : decode cX2_holderAt 6 = .ok (.ifCond .lt 11, 3) := by decide +kernel
theorem dX2_holderAt_9 : decode cX2_holderAt 9 = .ok (.iload_n 2, 1) := by decide +kernel
theorem dX2_holderAt_10 : decode cX2_holderAt 10 = .ok (.aload_n 0, 1) := by decide +kernel
theorem dX2_holderAt_11 : decode cX2_holderAt 11 = .ok (.getfield 7, 3) := by decide +kernel
theorem dX2_holderAt_14 : decode cX2_holderAt 14 = .ok (.if_icmp .le 13, 3) := by decide +kernel
theorem dX2_holderAt_17 : decode cX2_holderAt 17 = .ok (.new 34, 3) := by decide +kernel
theorem dX2_holderAt_20 : decode cX2_holderAt 20 = .ok (.dup, 1) := by decide +kernel
theorem dX2_holderAt_21 : decode cX2_holderAt 21 = .ok (.ldc 194, 2) := by decide +kernel
theorem dX2_holderAt_23 : decode cX2_holderAt 23 = .ok (.invokespecial 38, 3) := by decide +kernel
theorem dX2_holderAt_26 : decode cX2_holderAt 26 = .ok (.athrow, 1) := by decide +kernel
theorem dX2_holderAt_27 : decode cX2_holderAt 27 = .ok (.aload_n 0, 1) := by decide +kernel
theorem dX2_holderAt_28 : decode cX2_holderAt 28 = .ok (.getfield 23, 3) := by decide +kernel
theorem dX2_holderAt_31 : decode cX2_holderAt 31 = .ok (.iload_n 1, 1) := by decide +kernel
theorem dX2_holderAt_32 : decode cX2_holderAt 32 = .ok (.iload_n 2, 1) := by decide +kernel
theorem dX2_holderAt_33 : decode cX2_holderAt 33 = .ok (.invokevirtual 196, 3) := by decide +kernel
theorem dX2_holderAt_36 : decode cX2_holderAt 36 = .ok (.ireturn, 1) := by decide +kernel
set_option maxRecDepth 20000 in
theorem ggX2_reach_X2_needPerson : GoodIn wsX2_reach wsX2_needPerson := goodIn_ca (goodIn_r _ [5, 6, 7] (by decide +kernel) (by decide +kernel)) (goodIn_sub (fun _ h => List.mem_cons_of_mem _ (List.mem_append_right _ h)) (by decide +kernel))
set_option maxRecDepth 20000 in
theorem gX2_reach_X2_needPerson : GoodIn wsX2_reach (wsV RX2 139 RX2 yX2_needPerson wsX2_needPerson) := goodIn_app (goodIn_of _ (by decide +kernel)) ggX2_reach_X2_needPerson
set_option maxRecDepth 20000 in
theorem ggX2_reach_X2_doorsReached : GoodIn wsX2_reach wsX2_doorsReached := goodIn_r _ [11, 12, 13, 14, 15, 16, 17, 18, 19, 20, 21, 22, 23, 24, 25, 26, 27, 28, 29, 30, 31, 32, 33, 34, 35, 36, 37, 38, 39, 40, 41, 42, 43, 44, 45, 46, 47, 48, 49, 4, 50, 51, 52, 53, 54, 55, 56, 57, 58, 59, 60, 61, 62, 63, 64, 65, 66, 67, 68, 69, 70, 71] (by decide +kernel) (by decide +kernel)
set_option maxRecDepth 20000 in
theorem gX2_reach_X2_doorsReached : GoodIn wsX2_reach (wsV RX2 199 RX2 yX2_doorsReached wsX2_doorsReached) := goodIn_app (goodIn_of _ (by decide +kernel)) ggX2_reach_X2_doorsReached
theorem dX2_reach_0 : decode cX2_reach 0 = .ok (.aload_n 0, 1) := by decide +kernel
theorem dX2_reach_1 : decode cX2_reach 1 = .ok (.iload_n 1, 1) := by decide +kernel
theorem dX2_reach_2 : decode cX2_reach 2 = .ok (.invokevirtual 139, 3) := by decide +kernel
theorem dX2_reach_5 : decode cX2_reach 5 = .ok (.aload_n 0, 1) := by decide +kernel
theorem dX2_reach_6 : decode cX2_reach 6 = .ok (.iload_n 1, 1) := by decide +kernel
theorem dX2_reach_7 : decode cX2_reach 7 = .ok (.invokevirtual 199, 3) := by decide +kernel
theorem dX2_reach_10 : decode cX2_reach 10 = .ok (.ireturn, 1) := by decide +kernel
set_option maxRecDepth 20000 in
theorem ggX2_risk_X2_doorsAtRisk : GoodIn wsX2_risk wsX2_doorsAtRisk := goodIn_r _ [5, 6, 7, 8, 9, 10, 11, 12, 13, 14, 15, 16, 17, 18, 19, 20, 21, 22, 23, 24, 25, 26, 27, 28, 29, 30, 31, 32, 33, 4, 34, 35, 36, 37, 38, 39, 40, 41, 42, 43, 44, 45, 46, 47, 48, 49, 50, 51, 52, 53, 54, 55] (by decide +kernel) (by decide +kernel)
set_option maxRecDepth 20000 in
theorem gX2_risk_X2_doorsAtRisk : GoodIn wsX2_risk (wsV RX2 178 RX2 yX2_doorsAtRisk wsX2_doorsAtRisk) := goodIn_app (goodIn_of _ (by decide +kernel)) ggX2_risk_X2_doorsAtRisk
theorem dX2_risk_0 : decode cX2_risk 0 = .ok (.aload_n 0, 1) := by decide +kernel
theorem dX2_risk_1 : decode cX2_risk 1 = .ok (.invokevirtual 178, 3) := by decide +kernel
theorem dX2_risk_4 : decode cX2_risk 4 = .ok (.ireturn, 1) := by decide +kernel
set_option maxRecDepth 20000 in
theorem ggX2_suggest_X2_needPerson : GoodIn wsX2_suggest wsX2_needPerson := goodIn_ca (goodIn_r _ [13, 14, 15] (by decide +kernel) (by decide +kernel)) (goodIn_sub (fun _ h => List.mem_cons_of_mem _ (List.mem_append_right _ h)) (by decide +kernel))
set_option maxRecDepth 20000 in
theorem gX2_suggest_X2_needPerson : GoodIn wsX2_suggest (wsV RX2 139 RX2 yX2_needPerson wsX2_needPerson) := goodIn_app (goodIn_of _ (by decide +kernel)) ggX2_suggest_X2_needPerson
set_option maxRecDepth 20000 in
theorem ggX2_suggest_X2_isSetOf : GoodIn wsX2_suggest wsX2_isSetOf := goodIn_r _ [18] (by decide +kernel) (by decide +kernel)
set_option maxRecDepth 20000 in
theorem gX2_suggest_X2_isSetOf : GoodIn wsX2_suggest (va_wsS RX2 202 yX2_isSetOf wsX2_isSetOf) := goodIn_app (goodIn_of _ (by decide +kernel)) ggX2_suggest_X2_isSetOf
set_option maxRecDepth 20000 in
theorem ggX2_suggest_X0_firstToLend : GoodIn wsX2_suggest wsX0_firstToLend := goodIn_r _ [23, 24, 25, 26, 27, 28, 22, 29, 30, 31, 102, 103, 104, 105, 106, 107, 108, 109] (by decide +kernel) (by decide +kernel)
set_option maxRecDepth 20000 in
theorem gX2_suggest_X0_firstToLend : GoodIn wsX2_suggest (wsV RX2 207 RX0 yX0_firstToLend wsX0_firstToLend) := goodIn_app (goodIn_of _ (by decide +kernel)) ggX2_suggest_X0_firstToLend
set_option maxRecDepth 20000 in
theorem ggX2_suggest_X1_doorsOf : GoodIn wsX2_suggest wsX1_doorsOf := goodIn_r _ [36, 37, 38, 39, 40, 35, 41, 42, 43, 44, 12, 45, 94, 95, 96, 97, 98, 99, 100, 101] (by decide +kernel) (by decide +kernel)
set_option maxRecDepth 20000 in
theorem gX2_suggest_X1_doorsOf : GoodIn wsX2_suggest (wsV RX2 103 RX1 yX1_doorsOf wsX1_doorsOf) := goodIn_app (goodIn_of _ (by decide +kernel)) ggX2_suggest_X1_doorsOf
set_option maxRecDepth 20000 in
theorem ggX2_suggest_X2_doorsReached : GoodIn wsX2_suggest wsX2_doorsReached := goodIn_r _ [49, 3, 7, 50, 51, 52, 22, 53, 24, 25, 54, 55, 56, 57, 30, 58, 59, 60, 61, 62, 31, 63, 64, 65, 35, 66, 67, 68, 33, 34, 36, 37, 38, 39, 40, 41, 42, 43, 44, 12, 45, 89, 90, 91, 92, 93, 102, 103, 104, 105, 106, 107, 108, 109, 94, 95, 96, 97, 98, 99, 100, 101] (by decide +kernel) (by decide +kernel)
set_option maxRecDepth 20000 in
theorem gX2_suggest_X2_doorsReached : GoodIn wsX2_suggest (wsV RX2 199 RX2 yX2_doorsReached wsX2_doorsReached) := goodIn_app (goodIn_of _ (by decide +kernel)) ggX2_suggest_X2_doorsReached
set_option maxRecDepth 20000 in
theorem ggX2_suggest_X2_bestCopies : GoodIn wsX2_suggest wsX2_bestCopies := goodIn_r _ [72, 3, 5, 73, 74, 75, 12, 76, 8, 77, 44, 45, 78, 79, 80, 81, 6, 82, 83, 84, 85, 86, 87, 88, 89, 90, 91, 92, 93, 94, 95, 96, 97, 98, 99, 100, 101] (by decide +kernel) (by decide +kernel)
set_option maxRecDepth 20000 in
theorem gX2_suggest_X2_bestCopies : GoodIn wsX2_suggest (wsV RX2 210 RX2 yX2_bestCopies wsX2_bestCopies) := goodIn_app (goodIn_of _ (by decide +kernel)) ggX2_suggest_X2_bestCopies
theorem dX2_suggest_0 : decode cX2_suggest 0 = .ok (.aload_n 0, 1) := by decide +kernel
theorem dX2_suggest_1 : decode cX2_suggest 1 = .ok (.iload_n 1, 1) := by decide +kernel
theorem dX2_suggest_2 : decode cX2_suggest 2 = .ok (.invokevirtual 139, 3) := by decide +kernel
theorem dX2_suggest_5 : decode cX2_suggest 5 = .ok (.aload_n 0, 1) := by decide +kernel
theorem dX2_suggest_6 : decode cX2_suggest 6 = .ok (.getfield 16, 3) := by decide +kernel
theorem dX2_suggest_9 : decode cX2_suggest 9 = .ok (.getfield 63, 3) := by decide +kernel
theorem dX2_suggest_12 : decode cX2_suggest 12 = .ok (.iload_n 2, 1) := by decide +kernel
theorem dX2_suggest_13 : decode cX2_suggest 13 = .ok (.invokestatic 202, 3) := by decide +kernel
theorem dX2_suggest_16 : decode cX2_suggest 16 = .ok (.ifCond .ne 13, 3) := by decide +kernel
theorem dX2_suggest_19 : decode cX2_suggest 19 = .ok (.new 34, 3) := by decide +kernel
theorem dX2_suggest_22 : decode cX2_suggest 22 = .ok (.dup, 1) := by decide +kernel
theorem dX2_suggest_23 : decode cX2_suggest 23 = .ok (.ldc 205, 2) := by decide +kernel
theorem dX2_suggest_25 : decode cX2_suggest 25 = .ok (.invokespecial 38, 3) := by decide +kernel
theorem dX2_suggest_28 : decode cX2_suggest 28 = .ok (.athrow, 1) := by decide +kernel
theorem dX2_suggest_29 : decode cX2_suggest 29 = .ok (.iconst 0, 1) := by decide +kernel
theorem dX2_suggest_30 : decode cX2_suggest 30 = .ok (.istore_n 3, 1) := by decide +kernel
theorem dX2_suggest_31 : decode cX2_suggest 31 = .ok (.iload_n 3, 1) := by decide +kernel
theorem dX2_suggest_32 : decode cX2_suggest 32 = .ok (.aload_n 0, 1) := by decide +kernel
theorem dX2_suggest_33 : decode cX2_suggest 33 = .ok (.getfield 16, 3) := by decide +kernel
theorem dX2_suggest_36 : decode cX2_suggest 36 = .ok (.getfield 41, 3) := by decide +kernel
theorem dX2_suggest_39 : decode cX2_suggest 39 = .ok (.if_icmp .ge 37, 3) := by decide +kernel
theorem dX2_suggest_42 : decode cX2_suggest 42 = .ok (.aload_n 0, 1) := by decide +kernel
theorem dX2_suggest_43 : decode cX2_suggest 43 = .ok (.getfield 27, 3) := by decide +kernel
theorem dX2_suggest_46 : decode cX2_suggest 46 = .ok (.iload_n 3, 1) := by decide +kernel
theorem dX2_suggest_47 : decode cX2_suggest 47 = .ok (.aload_n 0, 1) := by decide +kernel
theorem dX2_suggest_48 : decode cX2_suggest 48 = .ok (.getfield 23, 3) := by decide +kernel
theorem dX2_suggest_51 : decode cX2_suggest 51 = .ok (.iload_n 3, 1) := by decide +kernel
theorem dX2_suggest_52 : decode cX2_suggest 52 = .ok (.invokevirtual 207, 3) := by decide +kernel
theorem dX2_suggest_55 : decode cX2_suggest 55 = .ok (.iastore, 1) := by decide +kernel
theorem dX2_suggest_56 : decode cX2_suggest 56 = .ok (.aload_n 0, 1) := by decide +kernel
theorem dX2_suggest_57 : decode cX2_suggest 57 = .ok (.getfield 31, 3) := by decide +kernel
theorem dX2_suggest_60 : decode cX2_suggest 60 = .ok (.iload_n 3, 1) := by decide +kernel
theorem dX2_suggest_61 : decode cX2_suggest 61 = .ok (.aload_n 0, 1) := by decide +kernel
theorem dX2_suggest_62 : decode cX2_suggest 62 = .ok (.getfield 16, 3) := by decide +kernel
theorem dX2_suggest_65 : decode cX2_suggest 65 = .ok (.iload_n 3, 1) := by decide +kernel
theorem dX2_suggest_66 : decode cX2_suggest 66 = .ok (.invokevirtual 103, 3) := by decide +kernel
theorem dX2_suggest_69 : decode cX2_suggest 69 = .ok (.iastore, 1) := by decide +kernel
theorem dX2_suggest_70 : decode cX2_suggest 70 = .ok (.iinc 3 1, 3) := by decide +kernel
theorem dX2_suggest_73 : decode cX2_suggest 73 = .ok (.goto (-42), 3) := by decide +kernel
theorem dX2_suggest_76 : decode cX2_suggest 76 = .ok (.aload_n 0, 1) := by decide +kernel
theorem dX2_suggest_77 : decode cX2_suggest 77 = .ok (.aload_n 0, 1) := by decide +kernel
theorem dX2_suggest_78 : decode cX2_suggest 78 = .ok (.iload_n 1, 1) := by decide +kernel
theorem dX2_suggest_79 : decode cX2_suggest 79 = .ok (.invokevirtual 199, 3) := by decide +kernel
theorem dX2_suggest_82 : decode cX2_suggest 82 = .ok (.iload_n 2, 1) := by decide +kernel
theorem dX2_suggest_83 : decode cX2_suggest 83 = .ok (.invokevirtual 210, 3) := by decide +kernel
theorem dX2_suggest_86 : decode cX2_suggest 86 = .ok (.ireturn, 1) := by decide +kernel
set_option maxRecDepth 20000 in
theorem ggX2_exposure_X2_doorsAtRisk : GoodIn wsX2_exposure wsX2_doorsAtRisk := goodIn_r _ [7, 1, 8, 9, 10, 11, 12, 13, 14, 15, 16, 17, 18, 19, 20, 21, 22, 23, 24, 25, 26, 27, 28, 29, 30, 31, 32, 33, 34, 6, 35, 61, 62, 63, 64, 65, 74, 75, 76, 77, 78, 79, 80, 81, 66, 67, 68, 69, 70, 71, 72, 73] (by decide +kernel) (by decide +kernel)
set_option maxRecDepth 20000 in
theorem gX2_exposure_X2_doorsAtRisk : GoodIn wsX2_exposure (wsV RX2 178 RX2 yX2_doorsAtRisk wsX2_doorsAtRisk) := goodIn_app (goodIn_of _ (by decide +kernel)) ggX2_exposure_X2_doorsAtRisk
set_option maxRecDepth 20000 in
theorem ggX2_exposure_X2_doorsReached : GoodIn wsX2_exposure wsX2_doorsReached := goodIn_r _ [39, 1, 8, 40, 41, 42, 12, 43, 14, 16, 44, 45, 46, 47, 15, 48, 49, 50, 51, 52, 53, 17, 18, 19, 20, 21, 22, 23, 24, 25, 26, 27, 28, 29, 30, 31, 32, 33, 34, 6, 35, 61, 62, 63, 64, 65, 74, 75, 76, 77, 78, 79, 80, 81, 66, 67, 68, 69, 70, 71, 72, 73] (by decide +kernel) (by decide +kernel)
set_option maxRecDepth 20000 in
theorem gX2_exposure_X2_doorsReached : GoodIn wsX2_exposure (wsV RX2 199 RX2 yX2_doorsReached wsX2_doorsReached) := goodIn_app (goodIn_of _ (by decide +kernel)) ggX2_exposure_X2_doorsReached
set_option maxRecDepth 20000 in
theorem ggX2_exposure_J6_bitCount_0f7a4 : GoodIn wsX2_exposure wsJ6_bitCount_0f7a4 := goodIn_r _ [57, 58, 59, 60] (by decide +kernel) (by decide +kernel)
set_option maxRecDepth 20000 in
theorem gX2_exposure_J6_bitCount_0f7a4 : GoodIn wsX2_exposure (va_wsS RX2 213 yJ6_bitCount_0f7a4 wsJ6_bitCount_0f7a4) := goodIn_app (goodIn_of _ (by decide +kernel)) ggX2_exposure_J6_bitCount_0f7a4
theorem dX2_exposure_0 : decode cX2_exposure 0 = .ok (.aload_n 0, 1) := by decide +kernel
theorem dX2_exposure_1 : decode cX2_exposure 1 = .ok (.getfield 16, 3) := by decide +kernel
theorem dX2_exposure_4 : decode cX2_exposure 4 = .ok (.getfield 63, 3) := by decide +kernel
theorem dX2_exposure_7 : decode cX2_exposure 7 = .ok (.ifCond .gt 5, 3) := by decide +kernel
theorem dX2_exposure_10 : decode cX2_exposure 10 = .ok (.dconst 0, 1) := by decide +kernel
theorem dX2_exposure_11 : decode cX2_exposure 11 = .ok (.dreturn, 1) := by decide +kernel
theorem dX2_exposure_12 : decode cX2_exposure 12 = .ok (.aload_n 0, 1) := by decide +kernel
theorem dX2_exposure_13 : decode cX2_exposure 13 = .ok (.invokevirtual 178, 3) := by decide +kernel
theorem dX2_exposure_16 : decode cX2_exposure 16 = .ok (.istore_n 1, 1) := by decide +kernel
theorem dX2_exposure_17 : decode cX2_exposure 17 = .ok (.iconst 0, 1) := by decide +kernel
theorem dX2_exposure_18 : decode cX2_exposure 18 = .ok (.istore_n 2, 1) := by decide +kernel
theorem dX2_exposure_19 : decode cX2_exposure 19 = .ok (.iload_n 2, 1) := by decide +kernel
theorem dX2_exposure_20 : decode cX2_exposure 20 = .ok (.bipush 8, 2) := by decide +kernel
theorem dX2_exposure_22 : decode cX2_exposure 22 = .ok (.if_icmp .ge 17, 3) := by decide +kernel
theorem dX2_exposure_25 : decode cX2_exposure 25 = .ok (.iload_n 1, 1) := by decide +kernel
theorem dX2_exposure_26 : decode cX2_exposure 26 = .ok (.aload_n 0, 1) := by decide +kernel
theorem dX2_exposure_27 : decode cX2_exposure 27 = .ok (.iload_n 2, 1) := by decide +kernel
theorem dX2_exposure_28 : decode cX2_exposure 28 = .ok (.invokevirtual 199, 3) := by decide +kernel
theorem dX2_exposure_31 : decode cX2_exposure 31 = .ok (.ior, 1) := by decide +kernel
theorem dX2_exposure_32 : decode cX2_exposure 32 = .ok (.istore_n 1, 1) := by decide +kernel
theorem dX2_exposure_33 : decode cX2_exposure 33 = .ok (.iinc 2 1, 3) := by decide +kernel
theorem dX2_exposure_36 : decode cX2_exposure 36 = .ok (.goto (-17), 3) := by decide +kernel
theorem dX2_exposure_39 : decode cX2_exposure 39 = .ok (.iload_n 1, 1) := by decide +kernel
theorem dX2_exposure_40 : decode cX2_exposure 40 = .ok (.invokestatic 213, 3) := by decide +kernel
theorem dX2_exposure_43 : decode cX2_exposure 43 = .ok (.i2d, 1) := by decide +kernel
theorem dX2_exposure_44 : decode cX2_exposure 44 = .ok (.aload_n 0, 1) := by decide +kernel
theorem dX2_exposure_45 : decode cX2_exposure 45 = .ok (.getfield 16, 3) := by decide +kernel
theorem dX2_exposure_48 : decode cX2_exposure 48 = .ok (.getfield 63, 3) := by decide +kernel
theorem dX2_exposure_51 : decode cX2_exposure 51 = .ok (.i2d, 1) := by decide +kernel
theorem dX2_exposure_52 : decode cX2_exposure 52 = .ok (.ddiv, 1) := by decide +kernel
theorem dX2_exposure_53 : decode cX2_exposure 53 = .ok (.dreturn, 1) := by decide +kernel
set_option maxRecDepth 20000 in
theorem ggX2_digest_X2_mix : GoodIn wsX2_digest wsX2_mix := goodIn_r _ [13, 14] (by decide +kernel) (by decide +kernel)
set_option maxRecDepth 20000 in
theorem gX2_digest_X2_mix : GoodIn wsX2_digest (va_wsS RX2 220 yX2_mix wsX2_mix) := goodIn_app (goodIn_of _ (by decide +kernel)) ggX2_digest_X2_mix
set_option maxRecDepth 20000 in
theorem ggX2_digest_X2_mixDoor : GoodIn wsX2_digest wsX2_mixDoor := goodIn_r _ [18, 2, 19, 10, 11, 12, 13, 14, 20, 21, 22, 23, 24, 25, 50, 51, 52, 53, 54, 55, 56, 57, 58, 59, 60, 61, 62] (by decide +kernel) (by decide +kernel)
set_option maxRecDepth 20000 in
theorem gX2_digest_X2_mixDoor : GoodIn wsX2_digest (wsV RX2 224 RX2 yX2_mixDoor wsX2_mixDoor) := goodIn_app (goodIn_of _ (by decide +kernel)) ggX2_digest_X2_mixDoor
set_option maxRecDepth 20000 in
theorem ggX2_digest_X2_mixCopy : GoodIn wsX2_digest wsX2_mixCopy := goodIn_r _ [29, 8, 30, 31, 32, 10, 11, 12, 13, 14, 33, 34, 35, 36, 37, 38, 39, 40, 41, 42, 43, 44, 45, 46, 47, 48, 49, 50, 51, 52, 53, 54, 63, 64, 65, 66, 67, 68, 69, 70] (by decide +kernel) (by decide +kernel)
set_option maxRecDepth 20000 in
theorem gX2_digest_X2_mixCopy : GoodIn wsX2_digest (wsV RX2 228 RX2 yX2_mixCopy wsX2_mixCopy) := goodIn_app (goodIn_of _ (by decide +kernel)) ggX2_digest_X2_mixCopy
theorem dX2_digest_0 : decode cX2_digest 0 = .ok (.ldc2_w 218, 3) := by decide +kernel
theorem dX2_digest_3 : decode cX2_digest 3 = .ok (.lstore_n 1, 1) := by decide +kernel
theorem dX2_digest_4 : decode cX2_digest 4 = .ok (.lload_n 1, 1) := by decide +kernel
theorem dX2_digest_5 : decode cX2_digest 5 = .ok (.aload_n 0, 1) := by decide +kernel
theorem dX2_digest_6 : decode cX2_digest 6 = .ok (.getfield 16, 3) := by decide +kernel
theorem dX2_digest_9 : decode cX2_digest 9 = .ok (.getfield 41, 3) := by decide +kernel
theorem dX2_digest_12 : decode cX2_digest 12 = .ok (.i2l, 1) := by decide +kernel
theorem dX2_digest_13 : decode cX2_digest 13 = .ok (.invokestatic 220, 3) := by decide +kernel
theorem dX2_digest_16 : decode cX2_digest 16 = .ok (.lstore_n 1, 1) := by decide +kernel
theorem dX2_digest_17 : decode cX2_digest 17 = .ok (.iconst 0, 1) := by decide +kernel
theorem dX2_digest_18 : decode cX2_digest 18 = .ok (.istore_n 3, 1) := by decide +kernel
theorem dX2_digest_19 : decode cX2_digest 19 = .ok (.iload_n 3, 1) := by decide +kernel
theorem dX2_digest_20 : decode cX2_digest 20 = .ok (.aload_n 0, 1) := by decide +kernel
theorem dX2_digest_21 : decode cX2_digest 21 = .ok (.getfield 16, 3) := by decide +kernel
theorem dX2_digest_24 : decode cX2_digest 24 = .ok (.getfield 41, 3) := by decide +kernel
theorem dX2_digest_27 : decode cX2_digest 27 = .ok (.if_icmp .ge 24, 3) := by decide +kernel
theorem dX2_digest_30 : decode cX2_digest 30 = .ok (.lload_n 1, 1) := by decide +kernel
theorem dX2_digest_31 : decode cX2_digest 31 = .ok (.aload_n 0, 1) := by decide +kernel
theorem dX2_digest_32 : decode cX2_digest 32 = .ok (.getfield 16, 3) := by decide +kernel
theorem dX2_digest_35 : decode cX2_digest 35 = .ok (.getfield 84, 3) := by decide +kernel
theorem dX2_digest_38 : decode cX2_digest 38 = .ok (.iload_n 3, 1) := by decide +kernel
theorem dX2_digest_39 : decode cX2_digest 39 = .ok (.iaload, 1) := by decide +kernel
theorem dX2_digest_40 : decode cX2_digest 40 = .ok (.i2l, 1) := by decide +kernel
theorem dX2_digest_41 : decode cX2_digest 41 = .ok (.invokestatic 220, 3) := by decide +kernel
theorem dX2_digest_44 : decode cX2_digest 44 = .ok (.lstore_n 1, 1) := by decide +kernel
theorem dX2_digest_45 : decode cX2_digest 45 = .ok (.iinc 3 1, 3) := by decide +kernel
theorem dX2_digest_48 : decode cX2_digest 48 = .ok (.goto (-29), 3) := by decide +kernel
theorem dX2_digest_51 : decode cX2_digest 51 = .ok (.lload_n 1, 1) := by decide +kernel
theorem dX2_digest_52 : decode cX2_digest 52 = .ok (.aload_n 0, 1) := by decide +kernel
theorem dX2_digest_53 : decode cX2_digest 53 = .ok (.getfield 16, 3) := by decide +kernel
theorem dX2_digest_56 : decode cX2_digest 56 = .ok (.getfield 63, 3) := by decide +kernel
theorem dX2_digest_59 : decode cX2_digest 59 = .ok (.i2l, 1) := by decide +kernel
theorem dX2_digest_60 : decode cX2_digest 60 = .ok (.invokestatic 220, 3) := by decide +kernel
theorem dX2_digest_63 : decode cX2_digest 63 = .ok (.lstore_n 1, 1) := by decide +kernel
theorem dX2_digest_64 : decode cX2_digest 64 = .ok (.iconst 0, 1) := by decide +kernel
theorem dX2_digest_65 : decode cX2_digest 65 = .ok (.istore_n 3, 1) := by decide +kernel
theorem dX2_digest_66 : decode cX2_digest 66 = .ok (.iload_n 3, 1) := by decide +kernel
theorem dX2_digest_67 : decode cX2_digest 67 = .ok (.aload_n 0, 1) := by decide +kernel
theorem dX2_digest_68 : decode cX2_digest 68 = .ok (.getfield 16, 3) := by decide +kernel
theorem dX2_digest_71 : decode cX2_digest 71 = .ok (.getfield 63, 3) := by decide +kernel
theorem dX2_digest_74 : decode cX2_digest 74 = .ok (.if_icmp .ge 16, 3) := by decide +kernel
theorem dX2_digest_77 : decode cX2_digest 77 = .ok (.aload_n 0, 1) := by decide +kernel
theorem dX2_digest_78 : decode cX2_digest 78 = .ok (.lload_n 1, 1) := by decide +kernel
theorem dX2_digest_79 : decode cX2_digest 79 = .ok (.iload_n 3, 1) := by decide +kernel
theorem dX2_digest_80 : decode cX2_digest 80 = .ok (.invokevirtual 224, 3) := by decide +kernel
theorem dX2_digest_83 : decode cX2_digest 83 = .ok (.lstore_n 1, 1) := by decide +kernel
theorem dX2_digest_84 : decode cX2_digest 84 = .ok (.iinc 3 1, 3) := by decide +kernel
theorem dX2_digest_87 : decode cX2_digest 87 = .ok (.goto (-21), 3) := by decide +kernel
theorem dX2_digest_90 : decode cX2_digest 90 = .ok (.lload_n 1, 1) := by decide +kernel
theorem dX2_digest_91 : decode cX2_digest 91 = .ok (.aload_n 0, 1) := by decide +kernel
theorem dX2_digest_92 : decode cX2_digest 92 = .ok (.getfield 16, 3) := by decide +kernel
theorem dX2_digest_95 : decode cX2_digest 95 = .ok (.getfield 116, 3) := by decide +kernel
theorem dX2_digest_98 : decode cX2_digest 98 = .ok (.i2l, 1) := by decide +kernel
theorem dX2_digest_99 : decode cX2_digest 99 = .ok (.invokestatic 220, 3) := by decide +kernel
theorem dX2_digest_102 : decode cX2_digest 102 = .ok (.lstore_n 1, 1) := by decide +kernel
theorem dX2_digest_103 : decode cX2_digest 103 = .ok (.lload_n 1, 1) := by decide +kernel
theorem dX2_digest_104 : decode cX2_digest 104 = .ok (.aload_n 0, 1) := by decide +kernel
theorem dX2_digest_105 : decode cX2_digest 105 = .ok (.getfield 7, 3) := by decide +kernel
theorem dX2_digest_108 : decode cX2_digest 108 = .ok (.i2l, 1) := by decide +kernel
theorem dX2_digest_109 : decode cX2_digest 109 = .ok (.invokestatic 220, 3) := by decide +kernel
theorem dX2_digest_112 : decode cX2_digest 112 = .ok (.lstore_n 1, 1) := by decide +kernel
theorem dX2_digest_113 : decode cX2_digest 113 = .ok (.lload_n 1, 1) := by decide +kernel
theorem dX2_digest_114 : decode cX2_digest 114 = .ok (.aload_n 0, 1) := by decide +kernel
theorem dX2_digest_115 : decode cX2_digest 115 = .ok (.getfield 23, 3) := by decide +kernel
theorem dX2_digest_118 : decode cX2_digest 118 = .ok (.getfield 128, 3) := by decide +kernel
theorem dX2_digest_121 : decode cX2_digest 121 = .ok (.i2l, 1) := by decide +kernel
theorem dX2_digest_122 : decode cX2_digest 122 = .ok (.invokestatic 220, 3) := by decide +kernel
theorem dX2_digest_125 : decode cX2_digest 125 = .ok (.lstore_n 1, 1) := by decide +kernel
theorem dX2_digest_126 : decode cX2_digest 126 = .ok (.iconst 0, 1) := by decide +kernel
theorem dX2_digest_127 : decode cX2_digest 127 = .ok (.istore_n 3, 1) := by decide +kernel
theorem dX2_digest_128 : decode cX2_digest 128 = .ok (.iload_n 3, 1) := by decide +kernel
theorem dX2_digest_129 : decode cX2_digest 129 = .ok (.aload_n 0, 1) := by decide +kernel
theorem dX2_digest_130 : decode cX2_digest 130 = .ok (.getfield 23, 3) := by decide +kernel
theorem dX2_digest_133 : decode cX2_digest 133 = .ok (.getfield 128, 3) := by decide +kernel
theorem dX2_digest_136 : decode cX2_digest 136 = .ok (.if_icmp .ge 16, 3) := by decide +kernel
theorem dX2_digest_139 : decode cX2_digest 139 = .ok (.aload_n 0, 1) := by decide +kernel
theorem dX2_digest_140 : decode cX2_digest 140 = .ok (.lload_n 1, 1) := by decide +kernel
theorem dX2_digest_141 : decode cX2_digest 141 = .ok (.iload_n 3, 1) := by decide +kernel
theorem dX2_digest_142 : decode cX2_digest 142 = .ok (.invokevirtual 228, 3) := by decide +kernel
theorem dX2_digest_145 : decode cX2_digest 145 = .ok (.lstore_n 1, 1) := by decide +kernel
theorem dX2_digest_146 : decode cX2_digest 146 = .ok (.iinc 3 1, 3) := by decide +kernel
theorem dX2_digest_149 : decode cX2_digest 149 = .ok (.goto (-21), 3) := by decide +kernel
theorem dX2_digest_152 : decode cX2_digest 152 = .ok (.lload_n 1, 1) := by decide +kernel
theorem dX2_digest_153 : decode cX2_digest 153 = .ok (.lreturn, 1) := by decide +kernel
theorem dX2_needKey_0 : decode cX2_needKey 0 = .ok (.iload_n 1, 1) := by decide +kernel
theorem dX2_needKey_1 : decode cX2_needKey 1 = .ok (.ifCond .lt 14, 3) := by decide +kernel
theorem dX2_needKey_4 : decode cX2_needKey 4 = .ok (.iload_n 1, 1) := by decide +kernel
theorem dX2_needKey_5 : decode cX2_needKey 5 = .ok (.aload_n 0, 1) := by decide +kernel
theorem dX2_needKey_6 : decode cX2_needKey 6 = .ok (.getfield 16, 3) := by decide +kernel
theorem dX2_needKey_9 : decode cX2_needKey 9 = .ok (.getfield 41, 3) := by decide +kernel
theorem dX2_needKey_12 : decode cX2_needKey 12 = .ok (.if_icmp .lt 13, 3) := by decide +kernel
theorem dX2_needKey_15 : decode cX2_needKey 15 = .ok (.new 87, 3) := by decide +kernel
theorem dX2_needKey_18 : decode cX2_needKey 18 = .ok (.dup, 1) := by decide +kernel
theorem dX2_needKey_19 : decode cX2_needKey 19 = .ok (.ldc 231, 2) := by decide +kernel
theorem dX2_needKey_21 : decode cX2_needKey 21 = .ok (.invokespecial 91, 3) := by decide +kernel
theorem dX2_needKey_24 : decode cX2_needKey 24 = .ok (.athrow, 1) := by decide +kernel
theorem dX2_needKey_25 : decode cX2_needKey 25 = .ok (.return_, 1) := by decide +kernel
theorem dX2_needDoor_0 : decode cX2_needDoor 0 = .ok (.iload_n 1, 1) := by decide +kernel
theorem dX2_needDoor_1 : decode cX2_needDoor 1 = .ok (.ifCond .lt 14, 3) := by decide +kernel
theorem dX2_needDoor_4 : decode cX2_needDoor 4 = .ok (.iload_n 1, 1) := by decide +kernel
theorem dX2_needDoor_5 : decode cX2_needDoor 5 = .ok (.aload_n 0, 1) := by decide +kernel
theorem dX2_needDoor_6 : decode cX2_needDoor 6 = .ok (.getfield 16, 3) := by decide +kernel
theorem dX2_needDoor_9 : decode cX2_needDoor 9 = .ok (.getfield 63, 3) := by decide +kernel
theorem dX2_needDoor_12 : decode cX2_needDoor 12 = .ok (.if_icmp .lt 13, 3) := by decide +kernel
theorem dX2_needDoor_15 : decode cX2_needDoor 15 = .ok (.new 87, 3) := by decide +kernel
theorem dX2_needDoor_18 : decode cX2_needDoor 18 = .ok (.dup, 1) := by decide +kernel
theorem dX2_needDoor_19 : decode cX2_needDoor 19 = .ok (.ldc 233, 2) := by decide +kernel
theorem dX2_needDoor_21 : decode cX2_needDoor 21 = .ok (.invokespecial 91, 3) := by decide +kernel
theorem dX2_needDoor_24 : decode cX2_needDoor 24 = .ok (.athrow, 1) := by decide +kernel
theorem dX2_needDoor_25 : decode cX2_needDoor 25 = .ok (.return_, 1) := by decide +kernel
theorem dX2_needCopy_0 : decode cX2_needCopy 0 = .ok (.iload_n 1, 1) := by decide +kernel
theorem dX2_needCopy_1 : decode cX2_needCopy 1 = .ok (.ifCond .lt 14, 3) := by decide +kernel
theorem dX2_needCopy_4 : decode cX2_needCopy 4 = .ok (.iload_n 1, 1) := by decide +kernel
theorem dX2_needCopy_5 : decode cX2_needCopy 5 = .ok (.aload_n 0, 1) := by decide +kernel
theorem dX2_needCopy_6 : decode cX2_needCopy 6 = .ok (.getfield 23, 3) := by decide +kernel
theorem dX2_needCopy_9 : decode cX2_needCopy 9 = .ok (.getfield 128, 3) := by decide +kernel
theorem dX2_needCopy_12 : decode cX2_needCopy 12 = .ok (.if_icmp .lt 13, 3) := by decide +kernel
theorem dX2_needCopy_15 : decode cX2_needCopy 15 = .ok (.new 87, 3) := by decide +kernel
theorem dX2_needCopy_18 : decode cX2_needCopy 18 = .ok (.dup, 1) := by decide +kernel
theorem dX2_needCopy_19 : decode cX2_needCopy 19 = .ok (.ldc 235, 2) := by decide +kernel
theorem dX2_needCopy_21 : decode cX2_needCopy 21 = .ok (.invokespecial 91, 3) := by decide +kernel
theorem dX2_needCopy_24 : decode cX2_needCopy 24 = .ok (.athrow, 1) := by decide +kernel
theorem dX2_needCopy_25 : decode cX2_needCopy 25 = .ok (.return_, 1) := by decide +kernel
theorem dX2_needPerson_0 : decode cX2_needPerson 0 = .ok (.iload_n 1, 1) := by decide +kernel
theorem dX2_needPerson_1 : decode cX2_needPerson 1 = .ok (.ifCond .lt 9, 3) := by decide +kernel
theorem dX2_needPerson_4 : decode cX2_needPerson 4 = .ok (.iload_n 1, 1) := by decide +kernel
theorem dX2_needPerson_5 : decode cX2_needPerson 5 = .ok (.bipush 8, 2) := by decide +kernel
theorem dX2_needPerson_7 : decode cX2_needPerson 7 = .ok (.if_icmp .lt 13, 3) := by decide +kernel
theorem dX2_needPerson_10 : decode cX2_needPerson 10 = .ok (.new 87, 3) := by decide +kernel
theorem dX2_needPerson_13 : decode cX2_needPerson 13 = .ok (.dup, 1) := by decide +kernel
theorem dX2_needPerson_14 : decode cX2_needPerson 14 = .ok (.ldc 237, 2) := by decide +kernel
theorem dX2_needPerson_16 : decode cX2_needPerson 16 = .ok (.invokespecial 91, 3) := by decide +kernel
theorem dX2_needPerson_19 : decode cX2_needPerson 19 = .ok (.athrow, 1) := by decide +kernel
theorem dX2_needPerson_20 : decode cX2_needPerson 20 = .ok (.return_, 1) := by decide +kernel
set_option maxRecDepth 20000 in
theorem ggX2_needRights_X2_isSetOf : GoodIn wsX2_needRights wsX2_isSetOf := goodIn_r _ [8] (by decide +kernel) (by decide +kernel)
set_option maxRecDepth 20000 in
theorem gX2_needRights_X2_isSetOf : GoodIn wsX2_needRights (va_wsS RX2 202 yX2_isSetOf wsX2_isSetOf) := goodIn_app (goodIn_of _ (by decide +kernel)) ggX2_needRights_X2_isSetOf
theorem dX2_needRights_0 : decode cX2_needRights 0 = .ok (.aload_n 0, 1) := by decide +kernel
theorem dX2_needRights_1 : decode cX2_needRights 1 = .ok (.getfield 16, 3) := by decide +kernel
theorem dX2_needRights_4 : decode cX2_needRights 4 = .ok (.getfield 41, 3) := by decide +kernel
theorem dX2_needRights_7 : decode cX2_needRights 7 = .ok (.iload_n 1, 1) := by decide +kernel
theorem dX2_needRights_8 : decode cX2_needRights 8 = .ok (.invokestatic 202, 3) := by decide +kernel
theorem dX2_needRights_11 : decode cX2_needRights 11 = .ok (.ifCond .ne 13, 3) := by decide +kernel
theorem dX2_needRights_14 : decode cX2_needRights 14 = .ok (.new 34, 3) := by decide +kernel
theorem dX2_needRights_17 : decode cX2_needRights 17 = .ok (.dup, 1) := by decide +kernel
theorem dX2_needRights_18 : decode cX2_needRights 18 = .ok (.ldc 239, 2) := by decide +kernel
theorem dX2_needRights_20 : decode cX2_needRights 20 = .ok (.invokespecial 38, 3) := by decide +kernel
theorem dX2_needRights_23 : decode cX2_needRights 23 = .ok (.athrow, 1) := by decide +kernel
theorem dX2_needRights_24 : decode cX2_needRights 24 = .ok (.return_, 1) := by decide +kernel
theorem dX2_needDays_0 : decode cX2_needDays 0 = .ok (.iload_n 1, 1) := by decide +kernel
theorem dX2_needDays_1 : decode cX2_needDays 1 = .ok (.iconst 1, 1) := by decide +kernel
theorem dX2_needDays_2 : decode cX2_needDays 2 = .ok (.if_icmp .lt 9, 3) := by decide +kernel
theorem dX2_needDays_5 : decode cX2_needDays 5 = .ok (.iload_n 1, 1) := by decide +kernel
theorem dX2_needDays_6 : decode cX2_needDays 6 = .ok (.bipush 99, 2) := by decide +kernel
theorem dX2_needDays_8 : decode cX2_needDays 8 = .ok (.if_icmp .le 13, 3) := by decide +kernel
theorem dX2_needDays_11 : decode cX2_needDays 11 = .ok (.new 34, 3) := by decide +kernel
theorem dX2_needDays_14 : decode cX2_needDays 14 = .ok (.dup, 1) := by decide +kernel
theorem dX2_needDays_15 : decode cX2_needDays 15 = .ok (.ldc 241, 2) := by decide +kernel
theorem dX2_needDays_17 : decode cX2_needDays 17 = .ok (.invokespecial 38, 3) := by decide +kernel
theorem dX2_needDays_20 : decode cX2_needDays 20 = .ok (.athrow, 1) := by decide +kernel
theorem dX2_needDays_21 : decode cX2_needDays 21 = .ok (.return_, 1) := by decide +kernel
theorem dX2_isSetOf_0 : decode cX2_isSetOf 0 = .ok (.iload_n 1, 1) := by decide +kernel
theorem dX2_isSetOf_1 : decode cX2_isSetOf 1 = .ok (.iconst 1, 1) := by decide +kernel
theorem dX2_isSetOf_2 : decode cX2_isSetOf 2 = .ok (.iload_n 0, 1) := by decide +kernel
theorem dX2_isSetOf_3 : decode cX2_isSetOf 3 = .ok (.ishl, 1) := by decide +kernel
theorem dX2_isSetOf_4 : decode cX2_isSetOf 4 = .ok (.ineg, 1) := by decide +kernel
theorem dX2_isSetOf_5 : decode cX2_isSetOf 5 = .ok (.iand, 1) := by decide +kernel
theorem dX2_isSetOf_6 : decode cX2_isSetOf 6 = .ok (.ifCond .ne 7, 3) := by decide +kernel
theorem dX2_isSetOf_9 : decode cX2_isSetOf 9 = .ok (.iconst 1, 1) := by decide +kernel
theorem dX2_isSetOf_10 : decode cX2_isSetOf 10 = .ok (.goto 4, 3) := by decide +kernel
theorem dX2_isSetOf_13 : decode cX2_isSetOf 13 = .ok (.iconst 0, 1) := by decide +kernel
theorem dX2_isSetOf_14 : decode cX2_isSetOf 14 = .ok (.ireturn, 1) := by decide +kernel
theorem dX2_contains_0 : decode cX2_contains 0 = .ok (.iload_n 1, 1) := by decide +kernel
theorem dX2_contains_1 : decode cX2_contains 1 = .ok (.iload_n 0, 1) := by decide +kernel
theorem dX2_contains_2 : decode cX2_contains 2 = .ok (.iconst (-1), 1) := by decide +kernel
theorem dX2_contains_3 : decode cX2_contains 3 = .ok (.ixor, 1) := by decide +kernel
theorem dX2_contains_4 : decode cX2_contains 4 = .ok (.iand, 1) := by decide +kernel
theorem dX2_contains_5 : decode cX2_contains 5 = .ok (.ifCond .ne 7, 3) := by decide +kernel
theorem dX2_contains_8 : decode cX2_contains 8 = .ok (.iconst 1, 1) := by decide +kernel
theorem dX2_contains_9 : decode cX2_contains 9 = .ok (.goto 4, 3) := by decide +kernel
theorem dX2_contains_12 : decode cX2_contains 12 = .ok (.iconst 0, 1) := by decide +kernel
theorem dX2_contains_13 : decode cX2_contains 13 = .ok (.ireturn, 1) := by decide +kernel
set_option maxRecDepth 20000 in
theorem ggX2_doorsReached_X0_keysHeldBy : GoodIn wsX2_doorsReached wsX0_keysHeldBy := goodIn_r _ [7, 8, 9, 10, 11, 12, 6, 13, 14, 15, 16, 17, 18, 19, 20, 46, 47, 48, 49, 50, 51, 52, 53] (by decide +kernel) (by decide +kernel)
set_option maxRecDepth 20000 in
theorem gX2_doorsReached_X0_keysHeldBy : GoodIn wsX2_doorsReached (wsV RX2 243 RX0 yX0_keysHeldBy wsX0_keysHeldBy) := goodIn_app (goodIn_of _ (by decide +kernel)) ggX2_doorsReached_X0_keysHeldBy
set_option maxRecDepth 20000 in
theorem ggX2_doorsReached_X1_doorsOfAll : GoodIn wsX2_doorsReached wsX1_doorsOfAll := goodIn_r _ [25, 26, 27, 28, 29, 24, 30, 31, 32, 33, 34, 35, 36, 37, 38, 39, 40, 54, 55, 56, 57, 58, 59, 60, 61] (by decide +kernel) (by decide +kernel)
set_option maxRecDepth 20000 in
theorem gX2_doorsReached_X1_doorsOfAll : GoodIn wsX2_doorsReached (wsV RX2 246 RX1 yX1_doorsOfAll wsX1_doorsOfAll) := goodIn_app (goodIn_of _ (by decide +kernel)) ggX2_doorsReached_X1_doorsOfAll
theorem dX2_doorsReached_0 : decode cX2_doorsReached 0 = .ok (.aload_n 0, 1) := by decide +kernel
theorem dX2_doorsReached_1 : decode cX2_doorsReached 1 = .ok (.getfield 16, 3) := by decide +kernel
theorem dX2_doorsReached_4 : decode cX2_doorsReached 4 = .ok (.aload_n 0, 1) := by decide +kernel
theorem dX2_doorsReached_5 : decode cX2_doorsReached 5 = .ok (.getfield 23, 3) := by decide +kernel
theorem dX2_doorsReached_8 : decode cX2_doorsReached 8 = .ok (.iload_n 1, 1) := by decide +kernel
theorem dX2_doorsReached_9 : decode cX2_doorsReached 9 = .ok (.invokevirtual 243, 3) := by decide +kernel
theorem dX2_doorsReached_12 : decode cX2_doorsReached 12 = .ok (.invokevirtual 246, 3) := by decide +kernel
theorem dX2_doorsReached_15 : decode cX2_doorsReached 15 = .ok (.ireturn, 1) := by decide +kernel
set_option maxRecDepth 20000 in
theorem ggX2_doorsAtRisk_X0_keysLost : GoodIn wsX2_doorsAtRisk wsX0_keysLost := goodIn_r _ [7, 8, 9, 10, 36, 37, 38, 39, 40, 41, 42, 43] (by decide +kernel) (by decide +kernel)
set_option maxRecDepth 20000 in
theorem gX2_doorsAtRisk_X0_keysLost : GoodIn wsX2_doorsAtRisk (wsV RX2 249 RX0 yX0_keysLost wsX0_keysLost) := goodIn_app (goodIn_of _ (by decide +kernel)) ggX2_doorsAtRisk_X0_keysLost
set_option maxRecDepth 20000 in
theorem ggX2_doorsAtRisk_X1_doorsOfAll : GoodIn wsX2_doorsAtRisk wsX1_doorsOfAll := goodIn_r _ [15, 16, 17, 18, 19, 14, 20, 21, 22, 23, 24, 25, 26, 27, 28, 29, 30, 44, 45, 46, 47, 48, 49, 50, 51] (by decide +kernel) (by decide +kernel)
set_option maxRecDepth 20000 in
theorem gX2_doorsAtRisk_X1_doorsOfAll : GoodIn wsX2_doorsAtRisk (wsV RX2 246 RX1 yX1_doorsOfAll wsX1_doorsOfAll) := goodIn_app (goodIn_of _ (by decide +kernel)) ggX2_doorsAtRisk_X1_doorsOfAll
theorem dX2_doorsAtRisk_0 : decode cX2_doorsAtRisk 0 = .ok (.aload_n 0, 1) := by decide +kernel
theorem dX2_doorsAtRisk_1 : decode cX2_doorsAtRisk 1 = .ok (.getfield 16, 3) := by decide +kernel
theorem dX2_doorsAtRisk_4 : decode cX2_doorsAtRisk 4 = .ok (.aload_n 0, 1) := by decide +kernel
theorem dX2_doorsAtRisk_5 : decode cX2_doorsAtRisk 5 = .ok (.getfield 23, 3) := by decide +kernel
theorem dX2_doorsAtRisk_8 : decode cX2_doorsAtRisk 8 = .ok (.invokevirtual 249, 3) := by decide +kernel
theorem dX2_doorsAtRisk_11 : decode cX2_doorsAtRisk 11 = .ok (.invokevirtual 246, 3) := by decide +kernel
theorem dX2_doorsAtRisk_14 : decode cX2_doorsAtRisk 14 = .ok (.ireturn, 1) := by decide +kernel
set_option maxRecDepth 20000 in
theorem ggX2_bestCopies_X2_doorsOpenedBy : GoodIn wsX2_bestCopies wsX2_doorsOpenedBy := goodIn_r _ [7, 1, 2, 8, 24, 25, 26, 27, 28, 29, 30, 31, 32, 33, 34, 35, 36] (by decide +kernel) (by decide +kernel)
set_option maxRecDepth 20000 in
theorem gX2_bestCopies_X2_doorsOpenedBy : GoodIn wsX2_bestCopies (wsV RX2 252 RX2 yX2_doorsOpenedBy wsX2_doorsOpenedBy) := goodIn_app (goodIn_of _ (by decide +kernel)) ggX2_bestCopies_X2_doorsOpenedBy
set_option maxRecDepth 20000 in
theorem ggX2_bestCopies_X2_contains : GoodIn wsX2_bestCopies wsX2_contains := goodIn_r _ [11] (by decide +kernel) (by decide +kernel)
set_option maxRecDepth 20000 in
theorem gX2_bestCopies_X2_contains : GoodIn wsX2_bestCopies (va_wsS RX2 113 yX2_contains wsX2_contains) := goodIn_app (goodIn_of _ (by decide +kernel)) ggX2_bestCopies_X2_contains
set_option maxRecDepth 20000 in
theorem ggX2_bestCopies_X2_copiesOf : GoodIn wsX2_bestCopies wsX2_copiesOf := goodIn_r _ [15, 1, 2, 16, 24, 25, 26, 27, 28, 29, 30, 31, 32, 33, 34, 35, 36] (by decide +kernel) (by decide +kernel)
set_option maxRecDepth 20000 in
theorem gX2_bestCopies_X2_copiesOf : GoodIn wsX2_bestCopies (wsV RX2 255 RX2 yX2_copiesOf wsX2_copiesOf) := goodIn_app (goodIn_of _ (by decide +kernel)) ggX2_bestCopies_X2_copiesOf
set_option maxRecDepth 20000 in
theorem ggX2_bestCopies_J6_bitCount_0f7a4 : GoodIn wsX2_bestCopies wsJ6_bitCount_0f7a4 := goodIn_r _ [20, 21, 22, 23] (by decide +kernel) (by decide +kernel)
set_option maxRecDepth 20000 in
theorem gX2_bestCopies_J6_bitCount_0f7a4 : GoodIn wsX2_bestCopies (va_wsS RX2 213 yJ6_bitCount_0f7a4 wsJ6_bitCount_0f7a4) := goodIn_app (goodIn_of _ (by decide +kernel)) ggX2_bestCopies_J6_bitCount_0f7a4
theorem dX2_bestCopies_0 : decode cX2_bestCopies 0 = .ok (.iconst (-1), 1) := by decide +kernel
theorem dX2_bestCopies_1 : decode cX2_bestCopies 1 = .ok (.istore_n 3, 1) := by decide +kernel
theorem dX2_bestCopies_2 : decode cX2_bestCopies 2 = .ok (.iconst 0, 1) := by decide +kernel
theorem dX2_bestCopies_3 : decode cX2_bestCopies 3 = .ok (.istore 4, 2) := by decide +kernel
theorem dX2_bestCopies_5 : decode cX2_bestCopies 5 = .ok (.iconst 0, 1) := by decide +kernel
theorem dX2_bestCopies_6 : decode cX2_bestCopies 6 = .ok (.istore 5, 2) := by decide +kernel
theorem dX2_bestCopies_8 : decode cX2_bestCopies 8 = .ok (.iload 5, 2) := by decide +kernel
theorem dX2_bestCopies_10 : decode cX2_bestCopies 10 = .ok (.iconst 1, 1) := by decide +kernel
theorem dX2_bestCopies_11 : decode cX2_bestCopies 11 = .ok (.aload_n 0, 1) := by decide +kernel
theorem dX2_bestCopies_12 : decode cX2_bestCopies 12 = .ok (.getfield 16, 3) := by decide +kernel
theorem dX2_bestCopies_15 : decode cX2_bestCopies 15 = .ok (.getfield 41, 3) := by decide +kernel
theorem dX2_bestCopies_18 : decode cX2_bestCopies 18 = .ok (.ishl, 1) := by decide +kernel
theorem dX2_bestCopies_19 : decode cX2_bestCopies 19 = .ok (.if_icmp .ge 97, 3) := by decide +kernel
theorem dX2_bestCopies_22 : decode cX2_bestCopies 22 = .ok (.iload_n 1, 1) := by decide +kernel
theorem dX2_bestCopies_23 : decode cX2_bestCopies 23 = .ok (.aload_n 0, 1) := by decide +kernel
theorem dX2_bestCopies_24 : decode cX2_bestCopies 24 = .ok (.iload 5, 2) := by decide +kernel
theorem dX2_bestCopies_26 : decode cX2_bestCopies 26 = .ok (.invokevirtual 252, 3) := by decide +kernel
theorem dX2_bestCopies_29 : decode cX2_bestCopies 29 = .ok (.ior, 1) := by decide +kernel
theorem dX2_bestCopies_30 : decode cX2_bestCopies 30 = .ok (.istore 6, 2) := by decide +kernel
theorem dX2_bestCopies_32 : decode cX2_bestCopies 32 = .ok (.iload 6, 2) := by decide +kernel
theorem dX2_bestCopies_34 : decode cX2_bestCopies 34 = .ok (.iload_n 2, 1) := by decide +kernel
theorem dX2_bestCopies_35 : decode cX2_bestCopies 35 = .ok (.invokestatic 113, 3) := by decide +kernel
theorem dX2_bestCopies_38 : decode cX2_bestCopies 38 = .ok (.ifCond .eq 12, 3) := by decide +kernel
theorem dX2_bestCopies_41 : decode cX2_bestCopies 41 = .ok (.aload_n 0, 1) := by decide +kernel
theorem dX2_bestCopies_42 : decode cX2_bestCopies 42 = .ok (.iload 5, 2) := by decide +kernel
theorem dX2_bestCopies_44 : decode cX2_bestCopies 44 = .ok (.invokevirtual 255, 3) := by decide +kernel
theorem dX2_bestCopies_47 : decode cX2_bestCopies 47 = .ok (.goto 4, 3) := by decide +kernel
theorem dX2_bestCopies_50 : decode cX2_bestCopies 50 = .ok (.iconst (-1), 1) := by decide +kernel
theorem dX2_bestCopies_51 : decode cX2_bestCopies 51 = .ok (.istore 7, 2) := by decide +kernel
theorem dX2_bestCopies_53 : decode cX2_bestCopies 53 = .ok (.iload 7, 2) := by decide +kernel
theorem dX2_bestCopies_55 : decode cX2_bestCopies 55 = .ok (.iconst (-1), 1) := by decide +kernel
theorem dX2_bestCopies_56 : decode cX2_bestCopies 56 = .ok (.if_icmp .ne 6, 3) := by decide +kernel
theorem dX2_bestCopies_59 : decode cX2_bestCopies 59 = .ok (.goto 51, 3) := by decide +kernel
theorem dX2_bestCopies_62 : decode cX2_bestCopies 62 = .ok (.iload 7, 2) := by decide +kernel
theorem dX2_bestCopies_64 : decode cX2_bestCopies 64 = .ok (.invokestatic 213, 3) := by decide +kernel
theorem dX2_bestCopies_67 : decode cX2_bestCopies 67 = .ok (.bipush 9, 2) := by decide +kernel
theorem dX2_bestCopies_69 : decode cX2_bestCopies 69 = .ok (.imul, 1) := by decide +kernel
theorem dX2_bestCopies_70 : decode cX2_bestCopies 70 = .ok (.iload 6, 2) := by decide +kernel
theorem dX2_bestCopies_72 : decode cX2_bestCopies 72 = .ok (.invokestatic 213, 3) := by decide +kernel
theorem dX2_bestCopies_75 : decode cX2_bestCopies 75 = .ok (.iadd, 1) := by decide +kernel
theorem dX2_bestCopies_76 : decode cX2_bestCopies 76 = .ok (.istore 8, 2) := by decide +kernel
theorem dX2_bestCopies_78 : decode cX2_bestCopies 78 = .ok (.iload_n 3, 1) := by decide +kernel
theorem dX2_bestCopies_79 : decode cX2_bestCopies 79 = .ok (.iconst (-1), 1) := by decide +kernel
theorem dX2_bestCopies_80 : decode cX2_bestCopies 80 = .ok (.if_icmp .eq 23, 3) := by decide +kernel
theorem dX2_bestCopies_83 : decode cX2_bestCopies 83 = .ok (.iload 8, 2) := by decide +kernel
theorem dX2_bestCopies_85 : decode cX2_bestCopies 85 = .ok (.iload 4, 2) := by decide +kernel
theorem dX2_bestCopies_87 : decode cX2_bestCopies 87 = .ok (.if_icmp .lt 16, 3) := by decide +kernel
theorem dX2_bestCopies_90 : decode cX2_bestCopies 90 = .ok (.iload 8, 2) := by decide +kernel
theorem dX2_bestCopies_92 : decode cX2_bestCopies 92 = .ok (.iload 4, 2) := by decide +kernel
theorem dX2_bestCopies_94 : decode cX2_bestCopies 94 = .ok (.if_icmp .ne 16, 3) := by decide +kernel
theorem dX2_bestCopies_97 : decode cX2_bestCopies 97 = .ok (.iload 7, 2) := by decide +kernel
theorem dX2_bestCopies_99 : decode cX2_bestCopies 99 = .ok (.iload_n 3, 1) := by decide +kernel
theorem dX2_bestCopies_100 : decode cX2_bestCopies 100 = .ok (.if_icmp .ge 10, 3) := by decide +kernel
theorem dX2_bestCopies_103 : decode cX2_bestCopies 103 = .ok (.iload 7, 2) := by decide +kernel
theorem dX2_bestCopies_105 : decode cX2_bestCopies 105 = .ok (.istore_n 3, 1) := by decide +kernel
theorem dX2_bestCopies_106 : decode cX2_bestCopies 106 = .ok (.iload 8, 2) := by decide +kernel
theorem dX2_bestCopies_108 : decode cX2_bestCopies 108 = .ok (.istore 4, 2) := by decide +kernel
theorem dX2_bestCopies_110 : decode cX2_bestCopies 110 = .ok (.iinc 5 1, 3) := by decide +kernel
theorem dX2_bestCopies_113 : decode cX2_bestCopies 113 = .ok (.goto (-105), 3) := by decide +kernel
theorem dX2_bestCopies_116 : decode cX2_bestCopies 116 = .ok (.iload_n 3, 1) := by decide +kernel
theorem dX2_bestCopies_117 : decode cX2_bestCopies 117 = .ok (.ireturn, 1) := by decide +kernel
theorem dX2_doorsOpenedBy_0 : decode cX2_doorsOpenedBy 0 = .ok (.iconst 0, 1) := by decide +kernel
theorem dX2_doorsOpenedBy_1 : decode cX2_doorsOpenedBy 1 = .ok (.istore_n 2, 1) := by decide +kernel
theorem dX2_doorsOpenedBy_2 : decode cX2_doorsOpenedBy 2 = .ok (.iconst 0, 1) := by decide +kernel
theorem dX2_doorsOpenedBy_3 : decode cX2_doorsOpenedBy 3 = .ok (.istore_n 3, 1) := by decide +kernel
theorem dX2_doorsOpenedBy_4 : decode cX2_doorsOpenedBy 4 = .ok (.iload_n 3, 1) := by decide +kernel
theorem dX2_doorsOpenedBy_5 : decode cX2_doorsOpenedBy 5 = .ok (.aload_n 0, 1) := by decide +kernel
theorem dX2_doorsOpenedBy_6 : decode cX2_doorsOpenedBy 6 = .ok (.getfield 16, 3) := by decide +kernel
theorem dX2_doorsOpenedBy_9 : decode cX2_doorsOpenedBy 9 = .ok (.getfield 41, 3) := by decide +kernel
theorem dX2_doorsOpenedBy_12 : decode cX2_doorsOpenedBy 12 = .ok (.if_icmp .ge 27, 3) := by decide +kernel
theorem dX2_doorsOpenedBy_15 : decode cX2_doorsOpenedBy 15 = .ok (.iload_n 1, 1) := by decide +kernel
theorem dX2_doorsOpenedBy_16 : decode cX2_doorsOpenedBy 16 = .ok (.iload_n 3, 1) := by decide +kernel
theorem dX2_doorsOpenedBy_17 : decode cX2_doorsOpenedBy 17 = .ok (.ishr, 1) := by decide +kernel
theorem dX2_doorsOpenedBy_18 : decode cX2_doorsOpenedBy 18 = .ok (.iconst 1, 1) := by decide +kernel
theorem dX2_doorsOpenedBy_19 : decode cX2_doorsOpenedBy 19 = .ok (.iand, 1) := by decide +kernel
theorem dX2_doorsOpenedBy_20 : decode cX2_doorsOpenedBy 20 = .ok (.iconst 1, 1) := by decide +kernel
theorem dX2_doorsOpenedBy_21 : decode cX2_doorsOpenedBy 21 = .ok (.if_icmp .ne 12, 3) := by decide +kernel
theorem dX2_doorsOpenedBy_24 : decode cX2_doorsOpenedBy 24 = .ok (.iload_n 2, 1) := by decide +kernel
theorem dX2_doorsOpenedBy_25 : decode cX2_doorsOpenedBy 25 = .ok (.aload_n 0, 1) := by decide +kernel
theorem dX2_doorsOpenedBy_26 : decode cX2_doorsOpenedBy 26 = .ok (.getfield 31, 3) := by decide +kernel
theorem dX2_doorsOpenedBy_29 : decode cX2_doorsOpenedBy 29 = .ok (.iload_n 3, 1) := by decide +kernel
theorem dX2_doorsOpenedBy_30 : decode cX2_doorsOpenedBy 30 = .ok (.iaload, 1) := by decide +kernel
theorem dX2_doorsOpenedBy_31 : decode cX2_doorsOpenedBy 31 = .ok (.ior, 1) := by decide +kernel
theorem dX2_doorsOpenedBy_32 : decode cX2_doorsOpenedBy 32 = .ok (.istore_n 2, 1) := by decide +kernel
theorem dX2_doorsOpenedBy_33 : decode cX2_doorsOpenedBy 33 = .ok (.iinc 3 1, 3) := by decide +kernel
theorem dX2_doorsOpenedBy_36 : decode cX2_doorsOpenedBy 36 = .ok (.goto (-32), 3) := by decide +kernel
theorem dX2_doorsOpenedBy_39 : decode cX2_doorsOpenedBy 39 = .ok (.iload_n 2, 1) := by decide +kernel
theorem dX2_doorsOpenedBy_40 : decode cX2_doorsOpenedBy 40 = .ok (.ireturn, 1) := by decide +kernel
theorem dX2_copiesOf_0 : decode cX2_copiesOf 0 = .ok (.iconst 0, 1) := by decide +kernel
theorem dX2_copiesOf_1 : decode cX2_copiesOf 1 = .ok (.istore_n 2, 1) := by decide +kernel
theorem dX2_copiesOf_2 : decode cX2_copiesOf 2 = .ok (.iconst 0, 1) := by decide +kernel
theorem dX2_copiesOf_3 : decode cX2_copiesOf 3 = .ok (.istore_n 3, 1) := by decide +kernel
theorem dX2_copiesOf_4 : decode cX2_copiesOf 4 = .ok (.iload_n 3, 1) := by decide +kernel
theorem dX2_copiesOf_5 : decode cX2_copiesOf 5 = .ok (.aload_n 0, 1) := by decide +kernel
theorem dX2_copiesOf_6 : decode cX2_copiesOf 6 = .ok (.getfield 16, 3) := by decide +kernel
theorem dX2_copiesOf_9 : decode cX2_copiesOf 9 = .ok (.getfield 41, 3) := by decide +kernel
theorem dX2_copiesOf_12 : decode cX2_copiesOf 12 = .ok (.if_icmp .ge 41, 3) := by decide +kernel
theorem dX2_copiesOf_15 : decode cX2_copiesOf 15 = .ok (.iload_n 1, 1) := by decide +kernel
theorem dX2_copiesOf_16 : decode cX2_copiesOf 16 = .ok (.iload_n 3, 1) := by decide +kernel
theorem dX2_copiesOf_17 : decode cX2_copiesOf 17 = .ok (.ishr, 1) := by decide +kernel
theorem dX2_copiesOf_18 : decode cX2_copiesOf 18 = .ok (.iconst 1, 1) := by decide +kernel
theorem dX2_copiesOf_19 : decode cX2_copiesOf 19 = .ok (.iand, 1) := by decide +kernel
theorem dX2_copiesOf_20 : decode cX2_copiesOf 20 = .ok (.iconst 1, 1) := by decide +kernel
theorem dX2_copiesOf_21 : decode cX2_copiesOf 21 = .ok (.if_icmp .ne 26, 3) := by decide +kernel
theorem dX2_copiesOf_24 : decode cX2_copiesOf 24 = .ok (.aload_n 0, 1) := by decide +kernel
theorem dX2_copiesOf_25 : decode cX2_copiesOf 25 = .ok (.getfield 27, 3) := by decide +kernel
theorem dX2_copiesOf_28 : decode cX2_copiesOf 28 = .ok (.iload_n 3, 1) := by decide +kernel
theorem dX2_copiesOf_29 : decode cX2_copiesOf 29 = .ok (.iaload, 1) := by decide +kernel
theorem dX2_copiesOf_30 : decode cX2_copiesOf 30 = .ok (.iconst (-1), 1) := by decide +kernel
theorem dX2_copiesOf_31 : decode cX2_copiesOf 31 = .ok (.if_icmp .ne 5, 3) := by decide +kernel
theorem dX2_copiesOf_34 : decode cX2_copiesOf 34 = .ok (.iconst (-1), 1) := by decide +kernel
theorem dX2_copiesOf_35 : decode cX2_copiesOf 35 = .ok (.ireturn, 1) := by decide +kernel
theorem dX2_copiesOf_36 : decode cX2_copiesOf 36 = .ok (.iload_n 2, 1) := by decide +kernel
theorem dX2_copiesOf_37 : decode cX2_copiesOf 37 = .ok (.iconst 1, 1) := by decide +kernel
theorem dX2_copiesOf_38 : decode cX2_copiesOf 38 = .ok (.aload_n 0, 1) := by decide +kernel
theorem dX2_copiesOf_39 : decode cX2_copiesOf 39 = .ok (.getfield 27, 3) := by decide +kernel
theorem dX2_copiesOf_42 : decode cX2_copiesOf 42 = .ok (.iload_n 3, 1) := by decide +kernel
theorem dX2_copiesOf_43 : decode cX2_copiesOf 43 = .ok (.iaload, 1) := by decide +kernel
theorem dX2_copiesOf_44 : decode cX2_copiesOf 44 = .ok (.ishl, 1) := by decide +kernel
theorem dX2_copiesOf_45 : decode cX2_copiesOf 45 = .ok (.ior, 1) := by decide +kernel
theorem dX2_copiesOf_46 : decode cX2_copiesOf 46 = .ok (.istore_n 2, 1) := by decide +kernel
theorem dX2_copiesOf_47 : decode cX2_copiesOf 47 = .ok (.iinc 3 1, 3) := by decide +kernel
theorem dX2_copiesOf_50 : decode cX2_copiesOf 50 = .ok (.goto (-46), 3) := by decide +kernel
theorem dX2_copiesOf_53 : decode cX2_copiesOf 53 = .ok (.iload_n 2, 1) := by decide +kernel
theorem dX2_copiesOf_54 : decode cX2_copiesOf 54 = .ok (.ireturn, 1) := by decide +kernel
set_option maxRecDepth 20000 in
theorem ggX2_mixDoor_X2_mix : GoodIn wsX2_mixDoor wsX2_mix := goodIn_r _ [6, 7] (by decide +kernel) (by decide +kernel)
set_option maxRecDepth 20000 in
theorem gX2_mixDoor_X2_mix : GoodIn wsX2_mixDoor (va_wsS RX2 220 yX2_mix wsX2_mix) := goodIn_app (goodIn_of _ (by decide +kernel)) ggX2_mixDoor_X2_mix
set_option maxRecDepth 20000 in
theorem ggX2_mixDoor_X1_pinsAt : GoodIn wsX2_mixDoor wsX1_pinsAt := goodIn_r _ [12, 13, 19, 20, 21, 22, 23, 24, 25, 26] (by decide +kernel) (by decide +kernel)
set_option maxRecDepth 20000 in
theorem gX2_mixDoor_X1_pinsAt : GoodIn wsX2_mixDoor (wsV RX2 92 RX1 yX1_pinsAt wsX1_pinsAt) := goodIn_app (goodIn_of _ (by decide +kernel)) ggX2_mixDoor_X1_pinsAt
theorem dX2_mixDoor_0 : decode cX2_mixDoor 0 = .ok (.lload_n 1, 1) := by decide +kernel
theorem dX2_mixDoor_1 : decode cX2_mixDoor 1 = .ok (.aload_n 0, 1) := by decide +kernel
theorem dX2_mixDoor_2 : decode cX2_mixDoor 2 = .ok (.getfield 16, 3) := by decide +kernel
theorem dX2_mixDoor_5 : decode cX2_mixDoor 5 = .ok (.getfield 74, 3) := by decide +kernel
theorem dX2_mixDoor_8 : decode cX2_mixDoor 8 = .ok (.iload_n 3, 1) := by decide +kernel
theorem dX2_mixDoor_9 : decode cX2_mixDoor 9 = .ok (.iaload, 1) := by decide +kernel
theorem dX2_mixDoor_10 : decode cX2_mixDoor 10 = .ok (.i2l, 1) := by decide +kernel
theorem dX2_mixDoor_11 : decode cX2_mixDoor 11 = .ok (.invokestatic 220, 3) := by decide +kernel
theorem dX2_mixDoor_14 : decode cX2_mixDoor 14 = .ok (.lstore 4, 2) := by decide +kernel
theorem dX2_mixDoor_16 : decode cX2_mixDoor 16 = .ok (.iconst 0, 1) := by decide +kernel
theorem dX2_mixDoor_17 : decode cX2_mixDoor 17 = .ok (.istore 6, 2) := by decide +kernel
theorem dX2_mixDoor_19 : decode cX2_mixDoor 19 = .ok (.iload 6, 2) := by decide +kernel
theorem dX2_mixDoor_21 : decode cX2_mixDoor 21 = .ok (.iconst 5, 1) := by decide +kernel
theorem dX2_mixDoor_22 : decode cX2_mixDoor 22 = .ok (.if_icmp .ge 27, 3) := by decide +kernel
theorem dX2_mixDoor_25 : decode cX2_mixDoor 25 = .ok (.lload 4, 2) := by decide +kernel
theorem dX2_mixDoor_27 : decode cX2_mixDoor 27 = .ok (.aload_n 0, 1) := by decide +kernel
theorem dX2_mixDoor_28 : decode cX2_mixDoor 28 = .ok (.getfield 16, 3) := by decide +kernel
theorem dX2_mixDoor_31 : decode cX2_mixDoor 31 = .ok (.iload_n 3, 1) := by decide +kernel
theorem dX2_mixDoor_32 : decode cX2_mixDoor 32 = .ok (.iload 6, 2) := by decide +kernel
theorem dX2_mixDoor_34 : decode cX2_mixDoor 34 = .ok (.invokevirtual 92, 3) := by decide +kernel
theorem dX2_mixDoor_37 : decode cX2_mixDoor 37 = .ok (.i2l, 1) := by decide +kernel
theorem dX2_mixDoor_38 : decode cX2_mixDoor 38 = .ok (.invokestatic 220, 3) := by decide +kernel
theorem dX2_mixDoor_41 : decode cX2_mixDoor 41 = .ok (.lstore 4, 2) := by decide +kernel
theorem dX2_mixDoor_43 : decode cX2_mixDoor 43 = .ok (.iinc 6 1, 3) := by decide +kernel
theorem dX2_mixDoor_46 : decode cX2_mixDoor 46 = .ok (.goto (-27), 3) := by decide +kernel
theorem dX2_mixDoor_49 : decode cX2_mixDoor 49 = .ok (.lload 4, 2) := by decide +kernel
theorem dX2_mixDoor_51 : decode cX2_mixDoor 51 = .ok (.lreturn, 1) := by decide +kernel
set_option maxRecDepth 20000 in
theorem ggX2_mixCopy_X2_mix : GoodIn wsX2_mixCopy wsX2_mix := goodIn_r _ [8, 9] (by decide +kernel) (by decide +kernel)
set_option maxRecDepth 20000 in
theorem gX2_mixCopy_X2_mix : GoodIn wsX2_mixCopy (va_wsS RX2 220 yX2_mix wsX2_mix) := goodIn_app (goodIn_of _ (by decide +kernel)) ggX2_mixCopy_X2_mix
set_option maxRecDepth 20000 in
theorem ggX2_mixCopy_X0_holderOf : GoodIn wsX2_mixCopy wsX0_holderOf := goodIn_r _ [14, 15, 16, 17, 18, 19, 13, 20, 21, 32, 33, 34, 35, 36, 37, 38, 39] (by decide +kernel) (by decide +kernel)
set_option maxRecDepth 20000 in
theorem gX2_mixCopy_X0_holderOf : GoodIn wsX2_mixCopy (wsV RX2 183 RX0 yX0_holderOf wsX0_holderOf) := goodIn_app (goodIn_of _ (by decide +kernel)) ggX2_mixCopy_X0_holderOf
set_option maxRecDepth 20000 in
theorem ggX2_mixCopy_X0_dueOf : GoodIn wsX2_mixCopy wsX0_dueOf := goodIn_r _ [25, 15, 26, 17, 18, 19, 13, 20, 21, 32, 33, 34, 35, 36, 37, 38, 39] (by decide +kernel) (by decide +kernel)
set_option maxRecDepth 20000 in
theorem gX2_mixCopy_X0_dueOf : GoodIn wsX2_mixCopy (wsV RX2 159 RX0 yX0_dueOf wsX0_dueOf) := goodIn_app (goodIn_of _ (by decide +kernel)) ggX2_mixCopy_X0_dueOf
theorem dX2_mixCopy_0 : decode cX2_mixCopy 0 = .ok (.lload_n 1, 1) := by decide +kernel
theorem dX2_mixCopy_1 : decode cX2_mixCopy 1 = .ok (.aload_n 0, 1) := by decide +kernel
theorem dX2_mixCopy_2 : decode cX2_mixCopy 2 = .ok (.getfield 23, 3) := by decide +kernel
theorem dX2_mixCopy_5 : decode cX2_mixCopy 5 = .ok (.getfield 173, 3) := by decide +kernel
theorem dX2_mixCopy_8 : decode cX2_mixCopy 8 = .ok (.iload_n 3, 1) := by decide +kernel
theorem dX2_mixCopy_9 : decode cX2_mixCopy 9 = .ok (.iaload, 1) := by decide +kernel
theorem dX2_mixCopy_10 : decode cX2_mixCopy 10 = .ok (.i2l, 1) := by decide +kernel
theorem dX2_mixCopy_11 : decode cX2_mixCopy 11 = .ok (.invokestatic 220, 3) := by decide +kernel
theorem dX2_mixCopy_14 : decode cX2_mixCopy 14 = .ok (.lstore 4, 2) := by decide +kernel
theorem dX2_mixCopy_16 : decode cX2_mixCopy 16 = .ok (.lload 4, 2) := by decide +kernel
theorem dX2_mixCopy_18 : decode cX2_mixCopy 18 = .ok (.aload_n 0, 1) := by decide +kernel
theorem dX2_mixCopy_19 : decode cX2_mixCopy 19 = .ok (.getfield 23, 3) := by decide +kernel
theorem dX2_mixCopy_22 : decode cX2_mixCopy 22 = .ok (.getfield 154, 3) := by decide +kernel
theorem dX2_mixCopy_25 : decode cX2_mixCopy 25 = .ok (.iload_n 3, 1) := by decide +kernel
theorem dX2_mixCopy_26 : decode cX2_mixCopy 26 = .ok (.iaload, 1) := by decide +kernel
theorem dX2_mixCopy_27 : decode cX2_mixCopy 27 = .ok (.i2l, 1) := by decide +kernel
theorem dX2_mixCopy_28 : decode cX2_mixCopy 28 = .ok (.invokestatic 220, 3) := by decide +kernel
theorem dX2_mixCopy_31 : decode cX2_mixCopy 31 = .ok (.lstore 4, 2) := by decide +kernel
theorem dX2_mixCopy_33 : decode cX2_mixCopy 33 = .ok (.lload 4, 2) := by decide +kernel
theorem dX2_mixCopy_35 : decode cX2_mixCopy 35 = .ok (.aload_n 0, 1) := by decide +kernel
theorem dX2_mixCopy_36 : decode cX2_mixCopy 36 = .ok (.getfield 23, 3) := by decide +kernel
theorem dX2_mixCopy_39 : decode cX2_mixCopy 39 = .ok (.iload_n 3, 1) := by decide +kernel
theorem dX2_mixCopy_40 : decode cX2_mixCopy 40 = .ok (.invokevirtual 183, 3) := by decide +kernel
theorem dX2_mixCopy_43 : decode cX2_mixCopy 43 = .ok (.i2l, 1) := by decide +kernel
theorem dX2_mixCopy_44 : decode cX2_mixCopy 44 = .ok (.invokestatic 220, 3) := by decide +kernel
theorem dX2_mixCopy_47 : decode cX2_mixCopy 47 = .ok (.lstore 4, 2) := by decide +kernel
theorem dX2_mixCopy_49 : decode cX2_mixCopy 49 = .ok (.lload 4, 2) := by decide +kernel
theorem dX2_mixCopy_51 : decode cX2_mixCopy 51 = .ok (.aload_n 0, 1) := by decide +kernel
theorem dX2_mixCopy_52 : decode cX2_mixCopy 52 = .ok (.getfield 23, 3) := by decide +kernel
theorem dX2_mixCopy_55 : decode cX2_mixCopy 55 = .ok (.iload_n 3, 1) := by decide +kernel
theorem dX2_mixCopy_56 : decode cX2_mixCopy 56 = .ok (.invokevirtual 159, 3) := by decide +kernel
theorem dX2_mixCopy_59 : decode cX2_mixCopy 59 = .ok (.i2l, 1) := by decide +kernel
theorem dX2_mixCopy_60 : decode cX2_mixCopy 60 = .ok (.invokestatic 220, 3) := by decide +kernel
theorem dX2_mixCopy_63 : decode cX2_mixCopy 63 = .ok (.lstore 4, 2) := by decide +kernel
theorem dX2_mixCopy_65 : decode cX2_mixCopy 65 = .ok (.lload 4, 2) := by decide +kernel
theorem dX2_mixCopy_67 : decode cX2_mixCopy 67 = .ok (.aload_n 0, 1) := by decide +kernel
theorem dX2_mixCopy_68 : decode cX2_mixCopy 68 = .ok (.getfield 23, 3) := by decide +kernel
theorem dX2_mixCopy_71 : decode cX2_mixCopy 71 = .ok (.getfield 186, 3) := by decide +kernel
theorem dX2_mixCopy_74 : decode cX2_mixCopy 74 = .ok (.iload_n 3, 1) := by decide +kernel
theorem dX2_mixCopy_75 : decode cX2_mixCopy 75 = .ok (.iaload, 1) := by decide +kernel
theorem dX2_mixCopy_76 : decode cX2_mixCopy 76 = .ok (.i2l, 1) := by decide +kernel
theorem dX2_mixCopy_77 : decode cX2_mixCopy 77 = .ok (.invokestatic 220, 3) := by decide +kernel
theorem dX2_mixCopy_80 : decode cX2_mixCopy 80 = .ok (.lreturn, 1) := by decide +kernel
theorem dX2_mix_0 : decode cX2_mix 0 = .ok (.lload_n 0, 1) := by decide +kernel
theorem dX2_mix_1 : decode cX2_mix 1 = .ok (.ldc2_w 258, 3) := by decide +kernel
theorem dX2_mix_4 : decode cX2_mix 4 = .ok (.lmul, 1) := by decide +kernel
theorem dX2_mix_5 : decode cX2_mix 5 = .ok (.lload_n 2, 1) := by decide +kernel
theorem dX2_mix_6 : decode cX2_mix 6 = .ok (.ladd, 1) := by decide +kernel
theorem dX2_mix_7 : decode cX2_mix 7 = .ok (.lreturn, 1) := by decide +kernel
end
section
theorem dX3_init_0 : decode cX3_init 0 = .ok (.aload_n 0, 1) := by decide +kernel
theorem dX3_init_1 : decode cX3_init 1 = .ok (.invokespecial 1, 3) := by decide +kernel
theorem dX3_init_4 : decode cX3_init 4 = .ok (.aload_n 0, 1) := by decide +kernel
theorem dX3_init_5 : decode cX3_init 5 = .ok (.bipush 8, 2) := by decide +kernel
theorem dX3_init_7 : decode cX3_init 7 = .ok (.newarray .int, 2) := by decide +kernel
theorem dX3_init_9 : decode cX3_init 9 = .ok (.putfield 9, 3) := by decide +kernel
theorem dX3_init_12 : decode cX3_init 12 = .ok (.aload_n 0, 1) := by decide +kernel
theorem dX3_init_13 : decode cX3_init 13 = .ok (.bipush 8, 2) := by decide +kernel
theorem dX3_init_15 : decode cX3_init 15 = .ok (.newarray .int, 2) := by decide +kernel
theorem dX3_init_17 : decode cX3_init 17 = .ok (.putfield 13, 3) := by decide +kernel
theorem dX3_init_20 : decode cX3_init 20 = .ok (.aload_n 0, 1) := by decide +kernel
theorem dX3_init_21 : decode cX3_init 21 = .ok (.bipush 24, 2) := by decide +kernel
theorem dX3_init_23 : decode cX3_init 23 = .ok (.newarray .int, 2) := by decide +kernel
theorem dX3_init_25 : decode cX3_init 25 = .ok (.putfield 16, 3) := by decide +kernel
theorem dX3_init_28 : decode cX3_init 28 = .ok (.aload_n 0, 1) := by decide +kernel
theorem dX3_init_29 : decode cX3_init 29 = .ok (.bipush 24, 2) := by decide +kernel
theorem dX3_init_31 : decode cX3_init 31 = .ok (.newarray .int, 2) := by decide +kernel
theorem dX3_init_33 : decode cX3_init 33 = .ok (.putfield 19, 3) := by decide +kernel
theorem dX3_init_36 : decode cX3_init 36 = .ok (.aload_n 0, 1) := by decide +kernel
theorem dX3_init_37 : decode cX3_init 37 = .ok (.bipush 24, 2) := by decide +kernel
theorem dX3_init_39 : decode cX3_init 39 = .ok (.newarray .int, 2) := by decide +kernel
theorem dX3_init_41 : decode cX3_init 41 = .ok (.putfield 22, 3) := by decide +kernel
theorem dX3_init_44 : decode cX3_init 44 = .ok (.aload_n 0, 1) := by decide +kernel
theorem dX3_init_45 : decode cX3_init 45 = .ok (.bipush 24, 2) := by decide +kernel
theorem dX3_init_47 : decode cX3_init 47 = .ok (.newarray .int, 2) := by decide +kernel
theorem dX3_init_49 : decode cX3_init 49 = .ok (.putfield 25, 3) := by decide +kernel
theorem dX3_init_52 : decode cX3_init 52 = .ok (.aload_n 0, 1) := by decide +kernel
theorem dX3_init_53 : decode cX3_init 53 = .ok (.sipush 216, 3) := by decide +kernel
theorem dX3_init_56 : decode cX3_init 56 = .ok (.newarray .int, 2) := by decide +kernel
theorem dX3_init_58 : decode cX3_init 58 = .ok (.putfield 28, 3) := by decide +kernel
theorem dX3_init_61 : decode cX3_init 61 = .ok (.aload_n 0, 1) := by decide +kernel
theorem dX3_init_62 : decode cX3_init 62 = .ok (.sipush 216, 3) := by decide +kernel
theorem dX3_init_65 : decode cX3_init 65 = .ok (.newarray .int, 2) := by decide +kernel
theorem dX3_init_67 : decode cX3_init 67 = .ok (.putfield 31, 3) := by decide +kernel
theorem dX3_init_70 : decode cX3_init 70 = .ok (.aload_n 0, 1) := by decide +kernel
theorem dX3_init_71 : decode cX3_init 71 = .ok (.sipush 216, 3) := by decide +kernel
theorem dX3_init_74 : decode cX3_init 74 = .ok (.newarray .int, 2) := by decide +kernel
theorem dX3_init_76 : decode cX3_init 76 = .ok (.putfield 34, 3) := by decide +kernel
theorem dX3_init_79 : decode cX3_init 79 = .ok (.return_, 1) := by decide +kernel
theorem dX3_thrown_0 : decode cX3_thrown 0 = .ok (.aload_n 0, 1) := by decide +kernel
theorem dX3_thrown_1 : decode cX3_thrown 1 = .ok (.getfield 37, 3) := by decide +kernel
theorem dX3_thrown_4 : decode cX3_thrown 4 = .ok (.ireturn, 1) := by decide +kernel
theorem dX3_fail_0 : decode cX3_fail 0 = .ok (.aload_n 0, 1) := by decide +kernel
theorem dX3_fail_1 : decode cX3_fail 1 = .ok (.iload_n 1, 1) := by decide +kernel
theorem dX3_fail_2 : decode cX3_fail 2 = .ok (.putfield 37, 3) := by decide +kernel
theorem dX3_fail_5 : decode cX3_fail 5 = .ok (.iconst 0, 1) := by decide +kernel
theorem dX3_fail_6 : decode cX3_fail 6 = .ok (.ireturn, 1) := by decide +kernel
theorem dX3_isKey_0 : decode cX3_isKey 0 = .ok (.iload_n 1, 1) := by decide +kernel
theorem dX3_isKey_1 : decode cX3_isKey 1 = .ok (.ifCond .lt 15, 3) := by decide +kernel
theorem dX3_isKey_4 : decode cX3_isKey 4 = .ok (.iload_n 1, 1) := by decide +kernel
theorem dX3_isKey_5 : decode cX3_isKey 5 = .ok (.aload_n 0, 1) := by decide +kernel
theorem dX3_isKey_6 : decode cX3_isKey 6 = .ok (.getfield 41, 3) := by decide +kernel
theorem dX3_isKey_9 : decode cX3_isKey 9 = .ok (.if_icmp .ge 7, 3) := by decide +kernel
theorem dX3_isKey_12 : decode cX3_isKey 12 = .ok (.iconst 1, 1) := by decide +kernel
theorem dX3_isKey_13 : decode cX3_isKey 13 = .ok (.goto 4, 3) := by decide +kernel
theorem dX3_isKey_16 : decode cX3_isKey 16 = .ok (.iconst 0, 1) := by decide +kernel
theorem dX3_isKey_17 : decode cX3_isKey 17 = .ok (.ireturn, 1) := by decide +kernel
theorem dX3_isDoor_0 : decode cX3_isDoor 0 = .ok (.iload_n 1, 1) := by decide +kernel
theorem dX3_isDoor_1 : decode cX3_isDoor 1 = .ok (.ifCond .lt 15, 3) := by decide +kernel
theorem dX3_isDoor_4 : decode cX3_isDoor 4 = .ok (.iload_n 1, 1) := by decide +kernel
theorem dX3_isDoor_5 : decode cX3_isDoor 5 = .ok (.aload_n 0, 1) := by decide +kernel
theorem dX3_isDoor_6 : decode cX3_isDoor 6 = .ok (.getfield 44, 3) := by decide +kernel
theorem dX3_isDoor_9 : decode cX3_isDoor 9 = .ok (.if_icmp .ge 7, 3) := by decide +kernel
theorem dX3_isDoor_12 : decode cX3_isDoor 12 = .ok (.iconst 1, 1) := by decide +kernel
theorem dX3_isDoor_13 : decode cX3_isDoor 13 = .ok (.goto 4, 3) := by decide +kernel
theorem dX3_isDoor_16 : decode cX3_isDoor 16 = .ok (.iconst 0, 1) := by decide +kernel
theorem dX3_isDoor_17 : decode cX3_isDoor 17 = .ok (.ireturn, 1) := by decide +kernel
theorem dX3_isCopy_0 : decode cX3_isCopy 0 = .ok (.iload_n 1, 1) := by decide +kernel
theorem dX3_isCopy_1 : decode cX3_isCopy 1 = .ok (.ifCond .lt 15, 3) := by decide +kernel
theorem dX3_isCopy_4 : decode cX3_isCopy 4 = .ok (.iload_n 1, 1) := by decide +kernel
theorem dX3_isCopy_5 : decode cX3_isCopy 5 = .ok (.aload_n 0, 1) := by decide +kernel
theorem dX3_isCopy_6 : decode cX3_isCopy 6 = .ok (.getfield 47, 3) := by decide +kernel
theorem dX3_isCopy_9 : decode cX3_isCopy 9 = .ok (.if_icmp .ge 7, 3) := by decide +kernel
theorem dX3_isCopy_12 : decode cX3_isCopy 12 = .ok (.iconst 1, 1) := by decide +kernel
theorem dX3_isCopy_13 : decode cX3_isCopy 13 = .ok (.goto 4, 3) := by decide +kernel
theorem dX3_isCopy_16 : decode cX3_isCopy 16 = .ok (.iconst 0, 1) := by decide +kernel
theorem dX3_isCopy_17 : decode cX3_isCopy 17 = .ok (.ireturn, 1) := by decide +kernel
theorem dX3_isPerson_0 : decode cX3_isPerson 0 = .ok (.iload_n 0, 1) := by decide +kernel
theorem dX3_isPerson_1 : decode cX3_isPerson 1 = .ok (.ifCond .lt 13, 3) := by decide +kernel
theorem dX3_isPerson_4 : decode cX3_isPerson 4 = .ok (.iload_n 0, 1) := by decide +kernel
theorem dX3_isPerson_5 : decode cX3_isPerson 5 = .ok (.bipush 8, 2) := by decide +kernel
theorem dX3_isPerson_7 : decode cX3_isPerson 7 = .ok (.if_icmp .ge 7, 3) := by decide +kernel
theorem dX3_isPerson_10 : decode cX3_isPerson 10 = .ok (.iconst 1, 1) := by decide +kernel
theorem dX3_isPerson_11 : decode cX3_isPerson 11 = .ok (.goto 4, 3) := by decide +kernel
theorem dX3_isPerson_14 : decode cX3_isPerson 14 = .ok (.iconst 0, 1) := by decide +kernel
theorem dX3_isPerson_15 : decode cX3_isPerson 15 = .ok (.ireturn, 1) := by decide +kernel
theorem dX3_areKeys_0 : decode cX3_areKeys 0 = .ok (.iload_n 1, 1) := by decide +kernel
theorem dX3_areKeys_1 : decode cX3_areKeys 1 = .ok (.ifCond .lt 17, 3) := by decide +kernel
theorem dX3_areKeys_4 : decode cX3_areKeys 4 = .ok (.iload_n 1, 1) := by decide +kernel
theorem dX3_areKeys_5 : decode cX3_areKeys 5 = .ok (.iconst 1, 1) := by decide +kernel
theorem dX3_areKeys_6 : decode cX3_areKeys 6 = .ok (.aload_n 0, 1) := by decide +kernel
theorem dX3_areKeys_7 : decode cX3_areKeys 7 = .ok (.getfield 41, 3) := by decide +kernel
theorem dX3_areKeys_10 : decode cX3_areKeys 10 = .ok (.ishl, 1) := by decide +kernel
theorem dX3_areKeys_11 : decode cX3_areKeys 11 = .ok (.if_icmp .ge 7, 3) := by decide +kernel
theorem dX3_areKeys_14 : decode cX3_areKeys 14 = .ok (.iconst 1, 1) := by decide +kernel
theorem dX3_areKeys_15 : decode cX3_areKeys 15 = .ok (.goto 4, 3) := by decide +kernel
theorem dX3_areKeys_18 : decode cX3_areKeys 18 = .ok (.iconst 0, 1) := by decide +kernel
theorem dX3_areKeys_19 : decode cX3_areKeys 19 = .ok (.ireturn, 1) := by decide +kernel
theorem dX3_has_0 : decode cX3_has 0 = .ok (.iload_n 0, 1) := by decide +kernel
theorem dX3_has_1 : decode cX3_has 1 = .ok (.iload_n 1, 1) := by decide +kernel
theorem dX3_has_2 : decode cX3_has 2 = .ok (.ishr, 1) := by decide +kernel
theorem dX3_has_3 : decode cX3_has 3 = .ok (.iconst 1, 1) := by decide +kernel
theorem dX3_has_4 : decode cX3_has 4 = .ok (.iand, 1) := by decide +kernel
theorem dX3_has_5 : decode cX3_has 5 = .ok (.iconst 1, 1) := by decide +kernel
theorem dX3_has_6 : decode cX3_has 6 = .ok (.if_icmp .ne 7, 3) := by decide +kernel
theorem dX3_has_9 : decode cX3_has 9 = .ok (.iconst 1, 1) := by decide +kernel
theorem dX3_has_10 : decode cX3_has 10 = .ok (.goto 4, 3) := by decide +kernel
theorem dX3_has_13 : decode cX3_has 13 = .ok (.iconst 0, 1) := by decide +kernel
theorem dX3_has_14 : decode cX3_has 14 = .ok (.ireturn, 1) := by decide +kernel
theorem dX3_digit_0 : decode cX3_digit 0 = .ok (.iload_n 0, 1) := by decide +kernel
theorem dX3_digit_1 : decode cX3_digit 1 = .ok (.iconst 2, 1) := by decide +kernel
theorem dX3_digit_2 : decode cX3_digit 2 = .ok (.iconst 4, 1) := by decide +kernel
theorem dX3_digit_3 : decode cX3_digit 3 = .ok (.iload_n 1, 1) := by decide +kernel
theorem dX3_digit_4 : decode cX3_digit 4 = .ok (.isub, 1) := by decide +kernel
theorem dX3_digit_5 : decode cX3_digit 5 = .ok (.imul, 1) := by decide +kernel
theorem dX3_digit_6 : decode cX3_digit 6 = .ok (.ishr, 1) := by decide +kernel
theorem dX3_digit_7 : decode cX3_digit 7 = .ok (.iconst 3, 1) := by decide +kernel
theorem dX3_digit_8 : decode cX3_digit 8 = .ok (.iand, 1) := by decide +kernel
theorem dX3_digit_9 : decode cX3_digit 9 = .ok (.ireturn, 1) := by decide +kernel
set_option maxRecDepth 20000 in
theorem ggX3_pinsOf_X3_has : GoodIn wsX3_pinsOf wsX3_has := goodIn_r _ [7] (by decide +kernel) (by decide +kernel)
set_option maxRecDepth 20000 in
theorem gX3_pinsOf_X3_has : GoodIn wsX3_pinsOf (va_wsS RX3 50 yX3_has wsX3_has) := goodIn_app (goodIn_of _ (by decide +kernel)) ggX3_pinsOf_X3_has
set_option maxRecDepth 20000 in
theorem ggX3_pinsOf_X3_digit : GoodIn wsX3_pinsOf wsX3_digit := goodIn_r _ [10] (by decide +kernel) (by decide +kernel)
set_option maxRecDepth 20000 in
theorem gX3_pinsOf_X3_digit : GoodIn wsX3_pinsOf (va_wsS RX3 54 yX3_digit wsX3_digit) := goodIn_app (goodIn_of _ (by decide +kernel)) ggX3_pinsOf_X3_digit
theorem dX3_pinsOf_0 : decode cX3_pinsOf 0 = .ok (.iconst 0, 1) := by decide +kernel
theorem dX3_pinsOf_1 : decode cX3_pinsOf 1 = .ok (.istore_n 3, 1) := by decide +kernel
theorem dX3_pinsOf_2 : decode cX3_pinsOf 2 = .ok (.iconst 0, 1) := by decide +kernel
theorem dX3_pinsOf_3 : decode cX3_pinsOf 3 = .ok (.istore 4, 2) := by decide +kernel
theorem dX3_pinsOf_5 : decode cX3_pinsOf 5 = .ok (.iload 4, 2) := by decide +kernel
theorem dX3_pinsOf_7 : decode cX3_pinsOf 7 = .ok (.aload_n 0, 1) := by decide +kernel
theorem dX3_pinsOf_8 : decode cX3_pinsOf 8 = .ok (.getfield 41, 3) := by decide +kernel
theorem dX3_pinsOf_11 : decode cX3_pinsOf 11 = .ok (.if_icmp .ge 39, 3) := by decide +kernel
theorem dX3_pinsOf_14 : decode cX3_pinsOf 14 = .ok (.aload_n 0, 1) := by decide +kernel
theorem dX3_pinsOf_15 : decode cX3_pinsOf 15 = .ok (.getfield 13, 3) := by decide +kernel
theorem dX3_pinsOf_18 : decode cX3_pinsOf 18 = .ok (.iload_n 1, 1) := by decide +kernel
theorem dX3_pinsOf_19 : decode cX3_pinsOf 19 = .ok (.iaload, 1) := by decide +kernel
theorem dX3_pinsOf_20 : decode cX3_pinsOf 20 = .ok (.iload 4, 2) := by decide +kernel
theorem dX3_pinsOf_22 : decode cX3_pinsOf 22 = .ok (.invokestatic 50, 3) := by decide +kernel
theorem dX3_pinsOf_25 : decode cX3_pinsOf 25 = .ok (.ifCond .eq 19, 3) := by decide +kernel
theorem dX3_pinsOf_28 : decode cX3_pinsOf 28 = .ok (.iload_n 3, 1) := by decide +kernel
theorem dX3_pinsOf_29 : decode cX3_pinsOf 29 = .ok (.iconst 1, 1) := by decide +kernel
theorem dX3_pinsOf_30 : decode cX3_pinsOf 30 = .ok (.aload_n 0, 1) := by decide +kernel
theorem dX3_pinsOf_31 : decode cX3_pinsOf 31 = .ok (.getfield 9, 3) := by decide +kernel
theorem dX3_pinsOf_34 : decode cX3_pinsOf 34 = .ok (.iload 4, 2) := by decide +kernel
theorem dX3_pinsOf_36 : decode cX3_pinsOf 36 = .ok (.iaload, 1) := by decide +kernel
theorem dX3_pinsOf_37 : decode cX3_pinsOf 37 = .ok (.iload_n 2, 1) := by decide +kernel
theorem dX3_pinsOf_38 : decode cX3_pinsOf 38 = .ok (.invokestatic 54, 3) := by decide +kernel
theorem dX3_pinsOf_41 : decode cX3_pinsOf 41 = .ok (.ishl, 1) := by decide +kernel
theorem dX3_pinsOf_42 : decode cX3_pinsOf 42 = .ok (.ior, 1) := by decide +kernel
theorem dX3_pinsOf_43 : decode cX3_pinsOf 43 = .ok (.istore_n 3, 1) := by decide +kernel
theorem dX3_pinsOf_44 : decode cX3_pinsOf 44 = .ok (.iinc 4 1, 3) := by decide +kernel
theorem dX3_pinsOf_47 : decode cX3_pinsOf 47 = .ok (.goto (-42), 3) := by decide +kernel
theorem dX3_pinsOf_50 : decode cX3_pinsOf 50 = .ok (.iload_n 3, 1) := by decide +kernel
theorem dX3_pinsOf_51 : decode cX3_pinsOf 51 = .ok (.ireturn, 1) := by decide +kernel
set_option maxRecDepth 20000 in
theorem ggX3_allPins_X3_pinsOf : GoodIn wsX3_allPins wsX3_pinsOf := goodIn_r _ [5, 6, 7, 8, 9, 10, 4, 11, 12, 13, 14, 15, 16, 17, 18, 19, 20, 21, 22, 23, 24, 25, 26, 27, 28, 29] (by decide +kernel) (by decide +kernel)
set_option maxRecDepth 20000 in
theorem gX3_allPins_X3_pinsOf : GoodIn wsX3_allPins (wsV RX3 58 RX3 yX3_pinsOf wsX3_pinsOf) := goodIn_app (goodIn_of _ (by decide +kernel)) ggX3_allPins_X3_pinsOf
theorem dX3_allPins_0 : decode cX3_allPins 0 = .ok (.iconst 0, 1) := by decide +kernel
theorem dX3_allPins_1 : decode cX3_allPins 1 = .ok (.istore_n 2, 1) := by decide +kernel
theorem dX3_allPins_2 : decode cX3_allPins 2 = .ok (.iconst 0, 1) := by decide +kernel
theorem dX3_allPins_3 : decode cX3_allPins 3 = .ok (.istore_n 3, 1) := by decide +kernel
theorem dX3_allPins_4 : decode cX3_allPins 4 = .ok (.iload_n 3, 1) := by decide +kernel
theorem dX3_allPins_5 : decode cX3_allPins 5 = .ok (.iconst 5, 1) := by decide +kernel
theorem dX3_allPins_6 : decode cX3_allPins 6 = .ok (.if_icmp .ge 21, 3) := by decide +kernel
theorem dX3_allPins_9 : decode cX3_allPins 9 = .ok (.bipush 16, 2) := by decide +kernel
theorem dX3_allPins_11 : decode cX3_allPins 11 = .ok (.iload_n 2, 1) := by decide +kernel
theorem dX3_allPins_12 : decode cX3_allPins 12 = .ok (.imul, 1) := by decide +kernel
theorem dX3_allPins_13 : decode cX3_allPins 13 = .ok (.aload_n 0, 1) := by decide +kernel
theorem dX3_allPins_14 : decode cX3_allPins 14 = .ok (.iload_n 1, 1) := by decide +kernel
theorem dX3_allPins_15 : decode cX3_allPins 15 = .ok (.iload_n 3, 1) := by decide +kernel
theorem dX3_allPins_16 : decode cX3_allPins 16 = .ok (.invokevirtual 58, 3) := by decide +kernel
theorem dX3_allPins_19 : decode cX3_allPins 19 = .ok (.iadd, 1) := by decide +kernel
theorem dX3_allPins_20 : decode cX3_allPins 20 = .ok (.istore_n 2, 1) := by decide +kernel
theorem dX3_allPins_21 : decode cX3_allPins 21 = .ok (.iinc 3 1, 3) := by decide +kernel
theorem dX3_allPins_24 : decode cX3_allPins 24 = .ok (.goto (-20), 3) := by decide +kernel
theorem dX3_allPins_27 : decode cX3_allPins 27 = .ok (.iload_n 2, 1) := by decide +kernel
theorem dX3_allPins_28 : decode cX3_allPins 28 = .ok (.ireturn, 1) := by decide +kernel
set_option maxRecDepth 20000 in
theorem ggX3_opensWith_X3_pinsOf : GoodIn wsX3_opensWith wsX3_pinsOf := goodIn_r _ [5, 6, 7, 8, 9, 10, 4, 11, 12, 13, 14, 15, 16, 17, 18, 19, 20, 21, 22, 23, 24, 25, 26, 27, 28, 29] (by decide +kernel) (by decide +kernel)
set_option maxRecDepth 20000 in
theorem gX3_opensWith_X3_pinsOf : GoodIn wsX3_opensWith (wsV RX3 58 RX3 yX3_pinsOf wsX3_pinsOf) := goodIn_app (goodIn_of _ (by decide +kernel)) ggX3_opensWith_X3_pinsOf
set_option maxRecDepth 20000 in
theorem ggX3_opensWith_X3_digit : GoodIn wsX3_opensWith wsX3_digit := goodIn_r _ [14] (by decide +kernel) (by decide +kernel)
set_option maxRecDepth 20000 in
theorem gX3_opensWith_X3_digit : GoodIn wsX3_opensWith (va_wsS RX3 54 yX3_digit wsX3_digit) := goodIn_app (goodIn_of _ (by decide +kernel)) ggX3_opensWith_X3_digit
set_option maxRecDepth 20000 in
theorem ggX3_opensWith_X3_has : GoodIn wsX3_opensWith wsX3_has := goodIn_r _ [11] (by decide +kernel) (by decide +kernel)
set_option maxRecDepth 20000 in
theorem gX3_opensWith_X3_has : GoodIn wsX3_opensWith (va_wsS RX3 50 yX3_has wsX3_has) := goodIn_app (goodIn_of _ (by decide +kernel)) ggX3_opensWith_X3_has
theorem dX3_opensWith_0 : decode cX3_opensWith 0 = .ok (.iconst 1, 1) := by decide +kernel
theorem dX3_opensWith_1 : decode cX3_opensWith 1 = .ok (.istore_n 3, 1) := by decide +kernel
theorem dX3_opensWith_2 : decode cX3_opensWith 2 = .ok (.iconst 0, 1) := by decide +kernel
theorem dX3_opensWith_3 : decode cX3_opensWith 3 = .ok (.istore 4, 2) := by decide +kernel
theorem dX3_opensWith_5 : decode cX3_opensWith 5 = .ok (.iload 4, 2) := by decide +kernel
theorem dX3_opensWith_7 : decode cX3_opensWith 7 = .ok (.iconst 5, 1) := by decide +kernel
theorem dX3_opensWith_8 : decode cX3_opensWith 8 = .ok (.if_icmp .ge 38, 3) := by decide +kernel
theorem dX3_opensWith_11 : decode cX3_opensWith 11 = .ok (.iload_n 3, 1) := by decide +kernel
theorem dX3_opensWith_12 : decode cX3_opensWith 12 = .ok (.ifCond .eq 26, 3) := by decide +kernel
theorem dX3_opensWith_15 : decode cX3_opensWith 15 = .ok (.aload_n 0, 1) := by decide +kernel
theorem dX3_opensWith_16 : decode cX3_opensWith 16 = .ok (.iload_n 2, 1) := by decide +kernel
theorem dX3_opensWith_17 : decode cX3_opensWith 17 = .ok (.iload 4, 2) := by decide +kernel
theorem dX3_opensWith_19 : decode cX3_opensWith 19 = .ok (.invokevirtual 58, 3) := by decide +kernel
theorem dX3_opensWith_22 : decode cX3_opensWith 22 = .ok (.iload_n 1, 1) := by decide +kernel
theorem dX3_opensWith_23 : decode cX3_opensWith 23 = .ok (.iload 4, 2) := by decide +kernel
theorem dX3_opensWith_25 : decode cX3_opensWith 25 = .ok (.invokestatic 54, 3) := by decide +kernel
theorem dX3_opensWith_28 : decode cX3_opensWith 28 = .ok (.invokestatic 50, 3) := by decide +kernel
theorem dX3_opensWith_31 : decode cX3_opensWith 31 = .ok (.ifCond .eq 7, 3) := by decide +kernel
theorem dX3_opensWith_34 : decode cX3_opensWith 34 = .ok (.iconst 1, 1) := by decide +kernel
theorem dX3_opensWith_35 : decode cX3_opensWith 35 = .ok (.goto 4, 3) := by decide +kernel
theorem dX3_opensWith_38 : decode cX3_opensWith 38 = .ok (.iconst 0, 1) := by decide +kernel
theorem dX3_opensWith_39 : decode cX3_opensWith 39 = .ok (.istore_n 3, 1) := by decide +kernel
theorem dX3_opensWith_40 : decode cX3_opensWith 40 = .ok (.iinc 4 1, 3) := by decide +kernel
theorem dX3_opensWith_43 : decode cX3_opensWith 43 = .ok (.goto (-38), 3) := by decide +kernel
theorem dX3_opensWith_46 : decode cX3_opensWith 46 = .ok (.iload_n 3, 1) := by decide +kernel
theorem dX3_opensWith_47 : decode cX3_opensWith 47 = .ok (.ireturn, 1) := by decide +kernel
set_option maxRecDepth 20000 in
theorem ggX3_doorsOf_X3_opensWith : GoodIn wsX3_doorsOf wsX3_opensWith := goodIn_r _ [6, 7, 8, 9, 5, 10, 11, 12, 13, 14, 15, 16, 17, 18, 19, 20, 21, 22, 23, 24, 25, 26, 27, 28, 29, 30, 31, 32, 33, 34] (by decide +kernel) (by decide +kernel)
set_option maxRecDepth 20000 in
theorem gX3_doorsOf_X3_opensWith : GoodIn wsX3_doorsOf (wsV RX3 61 RX3 yX3_opensWith wsX3_opensWith) := goodIn_app (goodIn_of _ (by decide +kernel)) ggX3_doorsOf_X3_opensWith
theorem dX3_doorsOf_0 : decode cX3_doorsOf 0 = .ok (.iconst 0, 1) := by decide +kernel
theorem dX3_doorsOf_1 : decode cX3_doorsOf 1 = .ok (.istore_n 2, 1) := by decide +kernel
theorem dX3_doorsOf_2 : decode cX3_doorsOf 2 = .ok (.iconst 0, 1) := by decide +kernel
theorem dX3_doorsOf_3 : decode cX3_doorsOf 3 = .ok (.istore_n 3, 1) := by decide +kernel
theorem dX3_doorsOf_4 : decode cX3_doorsOf 4 = .ok (.iload_n 3, 1) := by decide +kernel
theorem dX3_doorsOf_5 : decode cX3_doorsOf 5 = .ok (.aload_n 0, 1) := by decide +kernel
theorem dX3_doorsOf_6 : decode cX3_doorsOf 6 = .ok (.getfield 44, 3) := by decide +kernel
theorem dX3_doorsOf_9 : decode cX3_doorsOf 9 = .ok (.if_icmp .ge 24, 3) := by decide +kernel
theorem dX3_doorsOf_12 : decode cX3_doorsOf 12 = .ok (.aload_n 0, 1) := by decide +kernel
theorem dX3_doorsOf_13 : decode cX3_doorsOf 13 = .ok (.iload_n 1, 1) := by decide +kernel
theorem dX3_doorsOf_14 : decode cX3_doorsOf 14 = .ok (.iload_n 3, 1) := by decide +kernel
theorem dX3_doorsOf_15 : decode cX3_doorsOf 15 = .ok (.invokevirtual 61, 3) := by decide +kernel
theorem dX3_doorsOf_18 : decode cX3_doorsOf 18 = .ok (.ifCond .eq 9, 3) := by decide +kernel
theorem dX3_doorsOf_21 : decode cX3_doorsOf 21 = .ok (.iload_n 2, 1) := by decide +kernel
theorem dX3_doorsOf_22 : decode cX3_doorsOf 22 = .ok (.iconst 1, 1) := by decide +kernel
theorem dX3_doorsOf_23 : decode cX3_doorsOf 23 = .ok (.iload_n 3, 1) := by decide +kernel
theorem dX3_doorsOf_24 : decode cX3_doorsOf 24 = .ok (.ishl, 1) := by decide +kernel
theorem dX3_doorsOf_25 : decode cX3_doorsOf 25 = .ok (.ior, 1) := by decide +kernel
theorem dX3_doorsOf_26 : decode cX3_doorsOf 26 = .ok (.istore_n 2, 1) := by decide +kernel
theorem dX3_doorsOf_27 : decode cX3_doorsOf 27 = .ok (.iinc 3 1, 3) := by decide +kernel
theorem dX3_doorsOf_30 : decode cX3_doorsOf 30 = .ok (.goto (-26), 3) := by decide +kernel
theorem dX3_doorsOf_33 : decode cX3_doorsOf 33 = .ok (.iload_n 2, 1) := by decide +kernel
theorem dX3_doorsOf_34 : decode cX3_doorsOf 34 = .ok (.ireturn, 1) := by decide +kernel
set_option maxRecDepth 20000 in
theorem ggX3_strayCount_X3_opensWith : GoodIn wsX3_strayCount wsX3_opensWith := goodIn_r _ [9, 10, 11, 12, 8, 13, 1, 4, 3, 14, 15, 16, 17, 18, 19, 20, 21, 22, 23, 24, 25, 26, 27, 28, 29, 30, 31, 32, 33, 34] (by decide +kernel) (by decide +kernel)
set_option maxRecDepth 20000 in
theorem gX3_strayCount_X3_opensWith : GoodIn wsX3_strayCount (wsV RX3 61 RX3 yX3_opensWith wsX3_opensWith) := goodIn_app (goodIn_of _ (by decide +kernel)) ggX3_strayCount_X3_opensWith
set_option maxRecDepth 20000 in
theorem ggX3_strayCount_X3_has : GoodIn wsX3_strayCount wsX3_has := goodIn_r _ [16] (by decide +kernel) (by decide +kernel)
set_option maxRecDepth 20000 in
theorem gX3_strayCount_X3_has : GoodIn wsX3_strayCount (va_wsS RX3 50 yX3_has wsX3_has) := goodIn_app (goodIn_of _ (by decide +kernel)) ggX3_strayCount_X3_has
theorem dX3_strayCount_0 : decode cX3_strayCount 0 = .ok (.iconst 0, 1) := by decide +kernel
theorem dX3_strayCount_1 : decode cX3_strayCount 1 = .ok (.istore_n 1, 1) := by decide +kernel
theorem dX3_strayCount_2 : decode cX3_strayCount 2 = .ok (.iconst 0, 1) := by decide +kernel
theorem dX3_strayCount_3 : decode cX3_strayCount 3 = .ok (.istore_n 2, 1) := by decide +kernel
theorem dX3_strayCount_4 : decode cX3_strayCount 4 = .ok (.iload_n 2, 1) := by decide +kernel
theorem dX3_strayCount_5 : decode cX3_strayCount 5 = .ok (.aload_n 0, 1) := by decide +kernel
theorem dX3_strayCount_6 : decode cX3_strayCount 6 = .ok (.getfield 41, 3) := by decide +kernel
theorem dX3_strayCount_9 : decode cX3_strayCount 9 = .ok (.if_icmp .ge 60, 3) := by decide +kernel
theorem dX3_strayCount_12 : decode cX3_strayCount 12 = .ok (.iconst 0, 1) := by decide +kernel
theorem dX3_strayCount_13 : decode cX3_strayCount 13 = .ok (.istore_n 3, 1) := by decide +kernel
theorem dX3_strayCount_14 : decode cX3_strayCount 14 = .ok (.iload_n 3, 1) := by decide +kernel
theorem dX3_strayCount_15 : decode cX3_strayCount 15 = .ok (.aload_n 0, 1) := by decide +kernel
theorem dX3_strayCount_16 : decode cX3_strayCount 16 = .ok (.getfield 44, 3) := by decide +kernel
theorem dX3_strayCount_19 : decode cX3_strayCount 19 = .ok (.if_icmp .ge 44, 3) := by decide +kernel
theorem dX3_strayCount_22 : decode cX3_strayCount 22 = .ok (.iload_n 1, 1) := by decide +kernel
theorem dX3_strayCount_23 : decode cX3_strayCount 23 = .ok (.aload_n 0, 1) := by decide +kernel
theorem dX3_strayCount_24 : decode cX3_strayCount 24 = .ok (.aload_n 0, 1) := by decide +kernel
theorem dX3_strayCount_25 : decode cX3_strayCount 25 = .ok (.getfield 9, 3) := by decide +kernel
theorem dX3_strayCount_28 : decode cX3_strayCount 28 = .ok (.iload_n 2, 1) := by decide +kernel
theorem dX3_strayCount_29 : decode cX3_strayCount 29 = .ok (.iaload, 1) := by decide +kernel
theorem dX3_strayCount_30 : decode cX3_strayCount 30 = .ok (.iload_n 3, 1) := by decide +kernel
theorem dX3_strayCount_31 : decode cX3_strayCount 31 = .ok (.invokevirtual 61, 3) := by decide +kernel
theorem dX3_strayCount_34 : decode cX3_strayCount 34 = .ok (.ifCond .eq 20, 3) := by decide +kernel
theorem dX3_strayCount_37 : decode cX3_strayCount 37 = .ok (.aload_n 0, 1) := by decide +kernel
theorem dX3_strayCount_38 : decode cX3_strayCount 38 = .ok (.getfield 13, 3) := by decide +kernel
theorem dX3_strayCount_41 : decode cX3_strayCount 41 = .ok (.iload_n 3, 1) := by decide +kernel
theorem dX3_strayCount_42 : decode cX3_strayCount 42 = .ok (.iaload, 1) := by decide +kernel
theorem dX3_strayCount_43 : decode cX3_strayCount 43 = .ok (.iload_n 2, 1) := by decide +kernel
theorem dX3_strayCount_44 : decode cX3_strayCount 44 = .ok (.invokestatic 50, 3) := by decide +kernel
theorem dX3_strayCount_47 : decode cX3_strayCount 47 = .ok (.ifCond .ne 7, 3) := by decide +kernel
theorem dX3_strayCount_50 : decode cX3_strayCount 50 = .ok (.iconst 1, 1) := by decide +kernel
theorem dX3_strayCount_51 : decode cX3_strayCount 51 = .ok (.goto 4, 3) := by decide +kernel
theorem dX3_strayCount_54 : decode cX3_strayCount 54 = .ok (.iconst 0, 1) := by decide +kernel
theorem dX3_strayCount_55 : decode cX3_strayCount 55 = .ok (.iadd, 1) := by decide +kernel
theorem dX3_strayCount_56 : decode cX3_strayCount 56 = .ok (.istore_n 1, 1) := by decide +kernel
theorem dX3_strayCount_57 : decode cX3_strayCount 57 = .ok (.iinc 3 1, 3) := by decide +kernel
theorem dX3_strayCount_60 : decode cX3_strayCount 60 = .ok (.goto (-46), 3) := by decide +kernel
theorem dX3_strayCount_63 : decode cX3_strayCount 63 = .ok (.iinc 2 1, 3) := by decide +kernel
theorem dX3_strayCount_66 : decode cX3_strayCount 66 = .ok (.goto (-62), 3) := by decide +kernel
theorem dX3_strayCount_69 : decode cX3_strayCount 69 = .ok (.iload_n 1, 1) := by decide +kernel
theorem dX3_strayCount_70 : decode cX3_strayCount 70 = .ok (.ireturn, 1) := by decide +kernel
set_option maxRecDepth 20000 in
theorem ggX3_addKey_X3_fail : GoodIn wsX3_addKey wsX3_fail := goodIn_r _ [8, 1, 9, 10, 11, 12, 13, 14, 15, 16, 17, 18, 19, 20, 21, 22, 23] (by decide +kernel) (by decide +kernel)
set_option maxRecDepth 20000 in
theorem gX3_addKey_X3_fail : GoodIn wsX3_addKey (wsV RX3 64 RX3 yX3_fail wsX3_fail) := goodIn_app (goodIn_of _ (by decide +kernel)) ggX3_addKey_X3_fail
theorem dX3_addKey_0 : decode cX3_addKey 0 = .ok (.aload_n 0, 1) := by decide +kernel
theorem dX3_addKey_1 : decode cX3_addKey 1 = .ok (.iconst 0, 1) := by decide +kernel
theorem dX3_addKey_2 : decode cX3_addKey 2 = .ok (.putfield 37, 3) := by decide +kernel
theorem dX3_addKey_5 : decode cX3_addKey 5 = .ok (.iload_n 1, 1) := by decide +kernel
theorem dX3_addKey_6 : decode cX3_addKey 6 = .ok (.ifCond .lt 10, 3) := by decide +kernel
theorem dX3_addKey_9 : decode cX3_addKey 9 = .ok (.iload_n 1, 1) := by decide +kernel
theorem dX3_addKey_10 : decode cX3_addKey 10 = .ok (.sipush 1024, 3) := by decide +kernel
theorem dX3_addKey_13 : decode cX3_addKey 13 = .ok (.if_icmp .lt 9, 3) := by decide +kernel
theorem dX3_addKey_16 : decode cX3_addKey 16 = .ok (.aload_n 0, 1) := by decide +kernel
theorem dX3_addKey_17 : decode cX3_addKey 17 = .ok (.iconst 1, 1) := by decide +kernel
theorem dX3_addKey_18 : decode cX3_addKey 18 = .ok (.invokevirtual 64, 3) := by decide +kernel
theorem dX3_addKey_21 : decode cX3_addKey 21 = .ok (.ireturn, 1) := by decide +kernel
theorem dX3_addKey_22 : decode cX3_addKey 22 = .ok (.aload_n 0, 1) := by decide +kernel
theorem dX3_addKey_23 : decode cX3_addKey 23 = .ok (.getfield 41, 3) := by decide +kernel
theorem dX3_addKey_26 : decode cX3_addKey 26 = .ok (.bipush 8, 2) := by decide +kernel
theorem dX3_addKey_28 : decode cX3_addKey 28 = .ok (.if_icmp .ne 9, 3) := by decide +kernel
theorem dX3_addKey_31 : decode cX3_addKey 31 = .ok (.aload_n 0, 1) := by decide +kernel
theorem dX3_addKey_32 : decode cX3_addKey 32 = .ok (.iconst 2, 1) := by decide +kernel
theorem dX3_addKey_33 : decode cX3_addKey 33 = .ok (.invokevirtual 64, 3) := by decide +kernel
theorem dX3_addKey_36 : decode cX3_addKey 36 = .ok (.ireturn, 1) := by decide +kernel
theorem dX3_addKey_37 : decode cX3_addKey 37 = .ok (.iconst 0, 1) := by decide +kernel
theorem dX3_addKey_38 : decode cX3_addKey 38 = .ok (.istore_n 2, 1) := by decide +kernel
theorem dX3_addKey_39 : decode cX3_addKey 39 = .ok (.iload_n 2, 1) := by decide +kernel
theorem dX3_addKey_40 : decode cX3_addKey 40 = .ok (.aload_n 0, 1) := by decide +kernel
theorem dX3_addKey_41 : decode cX3_addKey 41 = .ok (.getfield 41, 3) := by decide +kernel
theorem dX3_addKey_44 : decode cX3_addKey 44 = .ok (.if_icmp .ge 25, 3) := by decide +kernel
theorem dX3_addKey_47 : decode cX3_addKey 47 = .ok (.aload_n 0, 1) := by decide +kernel
theorem dX3_addKey_48 : decode cX3_addKey 48 = .ok (.getfield 9, 3) := by decide +kernel
theorem dX3_addKey_51 : decode cX3_addKey 51 = .ok (.iload_n 2, 1) := by decide +kernel
theorem dX3_addKey_52 : decode cX3_addKey 52 = .ok (.iaload, 1) := by decide +kernel
theorem dX3_addKey_53 : decode cX3_addKey 53 = .ok (.iload_n 1, 1) := by decide +kernel
theorem dX3_addKey_54 : decode cX3_addKey 54 = .ok (.if_icmp .ne 9, 3) := by decide +kernel
theorem dX3_addKey_57 : decode cX3_addKey 57 = .ok (.aload_n 0, 1) := by decide +kernel
theorem dX3_addKey_58 : decode cX3_addKey 58 = .ok (.iconst 2, 1) := by decide +kernel
theorem dX3_addKey_59 : decode cX3_addKey 59 = .ok (.invokevirtual 64, 3) := by decide +kernel
theorem dX3_addKey_62 : decode cX3_addKey 62 = .ok (.ireturn, 1) := by decide +kernel
theorem dX3_addKey_63 : decode cX3_addKey 63 = .ok (.iinc 2 1, 3) := by decide +kernel
theorem dX3_addKey_66 : decode cX3_addKey 66 = .ok (.goto (-27), 3) := by decide +kernel
theorem dX3_addKey_69 : decode cX3_addKey 69 = .ok (.aload_n 0, 1) := by decide +kernel
theorem dX3_addKey_70 : decode cX3_addKey 70 = .ok (.getfield 9, 3) := by decide +kernel
theorem dX3_addKey_73 : decode cX3_addKey 73 = .ok (.aload_n 0, 1) := by decide +kernel
theorem dX3_addKey_74 : decode cX3_addKey 74 = .ok (.getfield 41, 3) := by decide +kernel
theorem dX3_addKey_77 : decode cX3_addKey 77 = .ok (.iload_n 1, 1) := by decide +kernel
theorem dX3_addKey_78 : decode cX3_addKey 78 = .ok (.iastore, 1) := by decide +kernel
theorem dX3_addKey_79 : decode cX3_addKey 79 = .ok (.aload_n 0, 1) := by decide +kernel
theorem dX3_addKey_80 : decode cX3_addKey 80 = .ok (.dup, 1) := by decide +kernel
theorem dX3_addKey_81 : decode cX3_addKey 81 = .ok (.getfield 41, 3) := by decide +kernel
theorem dX3_addKey_84 : decode cX3_addKey 84 = .ok (.iconst 1, 1) := by decide +kernel
theorem dX3_addKey_85 : decode cX3_addKey 85 = .ok (.iadd, 1) := by decide +kernel
theorem dX3_addKey_86 : decode cX3_addKey 86 = .ok (.putfield 41, 3) := by decide +kernel
theorem dX3_addKey_89 : decode cX3_addKey 89 = .ok (.aload_n 0, 1) := by decide +kernel
theorem dX3_addKey_90 : decode cX3_addKey 90 = .ok (.getfield 41, 3) := by decide +kernel
theorem dX3_addKey_93 : decode cX3_addKey 93 = .ok (.iconst 1, 1) := by decide +kernel
theorem dX3_addKey_94 : decode cX3_addKey 94 = .ok (.isub, 1) := by decide +kernel
theorem dX3_addKey_95 : decode cX3_addKey 95 = .ok (.ireturn, 1) := by decide +kernel
set_option maxRecDepth 20000 in
theorem ggX3_addDoor_X3_areKeys : GoodIn wsX3_addDoor wsX3_areKeys := goodIn_r _ [9, 10, 37, 38, 39, 40, 41, 42, 43, 44, 45, 46, 47, 48, 49, 50, 51] (by decide +kernel) (by decide +kernel)
set_option maxRecDepth 20000 in
theorem gX3_addDoor_X3_areKeys : GoodIn wsX3_addDoor (wsV RX3 68 RX3 yX3_areKeys wsX3_areKeys) := goodIn_app (goodIn_of _ (by decide +kernel)) ggX3_addDoor_X3_areKeys
set_option maxRecDepth 20000 in
theorem ggX3_addDoor_X3_fail : GoodIn wsX3_addDoor wsX3_fail := goodIn_r _ [14, 1, 37, 38, 39, 40, 41, 42, 43, 44, 45, 46, 47, 48, 49, 50, 51] (by decide +kernel) (by decide +kernel)
set_option maxRecDepth 20000 in
theorem gX3_addDoor_X3_fail : GoodIn wsX3_addDoor (wsV RX3 64 RX3 yX3_fail wsX3_fail) := goodIn_app (goodIn_of _ (by decide +kernel)) ggX3_addDoor_X3_fail
set_option maxRecDepth 20000 in
theorem ggX3_addDoor_X3_allPins : GoodIn wsX3_addDoor wsX3_allPins := goodIn_r _ [18, 19, 20, 21, 8, 22, 10, 3, 23, 24, 25, 26, 27, 28, 29, 37, 38, 39, 40, 41, 42, 43, 44, 45, 46, 47, 48, 49, 50, 51] (by decide +kernel) (by decide +kernel)
set_option maxRecDepth 20000 in
theorem gX3_addDoor_X3_allPins : GoodIn wsX3_addDoor (wsV RX3 75 RX3 yX3_allPins wsX3_allPins) := goodIn_app (goodIn_of _ (by decide +kernel)) ggX3_addDoor_X3_allPins
set_option maxRecDepth 20000 in
theorem ggX3_addDoor_J6_bitCount_0f7a4 : GoodIn wsX3_addDoor wsJ6_bitCount_0f7a4 := goodIn_r _ [33, 34, 35, 36] (by decide +kernel) (by decide +kernel)
set_option maxRecDepth 20000 in
theorem gX3_addDoor_J6_bitCount_0f7a4 : GoodIn wsX3_addDoor (va_wsS RX3 78 yJ6_bitCount_0f7a4 wsJ6_bitCount_0f7a4) := goodIn_app (goodIn_of _ (by decide +kernel)) ggX3_addDoor_J6_bitCount_0f7a4
theorem dX3_addDoor_0 : decode cX3_addDoor 0 = .ok (.aload_n 0, 1) := by decide +kernel
theorem dX3_addDoor_1 : decode cX3_addDoor 1 = .ok (.iconst 0, 1) := by decide +kernel
theorem dX3_addDoor_2 : decode cX3_addDoor 2 = .ok (.putfield 37, 3) := by decide +kernel
theorem dX3_addDoor_5 : decode cX3_addDoor 5 = .ok (.aload_n 0, 1) := by decide +kernel
theorem dX3_addDoor_6 : decode cX3_addDoor 6 = .ok (.iload_n 1, 1) := by decide +kernel
theorem dX3_addDoor_7 : decode cX3_addDoor 7 = .ok (.invokevirtual 68, 3) := by decide +kernel
theorem dX3_addDoor_10 : decode cX3_addDoor 10 = .ok (.ifCond .ne 9, 3) := by decide +kernel
theorem dX3_addDoor_13 : decode cX3_addDoor 13 = .ok (.aload_n 0, 1) := by decide +kernel
theorem dX3_addDoor_14 : decode cX3_addDoor 14 = .ok (.iconst 1, 1) := by decide +kernel
theorem dX3_addDoor_15 : decode cX3_addDoor 15 = .ok (.invokevirtual 64, 3) := by decide +kernel
theorem dX3_addDoor_18 : decode cX3_addDoor 18 = .ok (.ireturn, 1) := by decide +kernel
theorem dX3_addDoor_19 : decode cX3_addDoor 19 = .ok (.aload_n 0, 1) := by decide +kernel
theorem dX3_addDoor_20 : decode cX3_addDoor 20 = .ok (.getfield 44, 3) := by decide +kernel
theorem dX3_addDoor_23 : decode cX3_addDoor 23 = .ok (.bipush 8, 2) := by decide +kernel
theorem dX3_addDoor_25 : decode cX3_addDoor 25 = .ok (.if_icmp .ne 9, 3) := by decide +kernel
theorem dX3_addDoor_28 : decode cX3_addDoor 28 = .ok (.aload_n 0, 1) := by decide +kernel
theorem dX3_addDoor_29 : decode cX3_addDoor 29 = .ok (.iconst 2, 1) := by decide +kernel
theorem dX3_addDoor_30 : decode cX3_addDoor 30 = .ok (.invokevirtual 64, 3) := by decide +kernel
theorem dX3_addDoor_33 : decode cX3_addDoor 33 = .ok (.ireturn, 1) := by decide +kernel
theorem dX3_addDoor_34 : decode cX3_addDoor 34 = .ok (.aload_n 0, 1) := by decide +kernel
theorem dX3_addDoor_35 : decode cX3_addDoor 35 = .ok (.getfield 13, 3) := by decide +kernel
theorem dX3_addDoor_38 : decode cX3_addDoor 38 = .ok (.aload_n 0, 1) := by decide +kernel
theorem dX3_addDoor_39 : decode cX3_addDoor 39 = .ok (.getfield 44, 3) := by decide +kernel
theorem dX3_addDoor_42 : decode cX3_addDoor 42 = .ok (.iload_n 1, 1) := by decide +kernel
theorem dX3_addDoor_43 : decode cX3_addDoor 43 = .ok (.iastore, 1) := by decide +kernel
theorem dX3_addDoor_44 : decode cX3_addDoor 44 = .ok (.aload_n 0, 1) := by decide +kernel
theorem dX3_addDoor_45 : decode cX3_addDoor 45 = .ok (.dup, 1) := by decide +kernel
theorem dX3_addDoor_46 : decode cX3_addDoor 46 = .ok (.getfield 44, 3) := by decide +kernel
theorem dX3_addDoor_49 : decode cX3_addDoor 49 = .ok (.iconst 1, 1) := by decide +kernel
theorem dX3_addDoor_50 : decode cX3_addDoor 50 = .ok (.iadd, 1) := by decide +kernel
theorem dX3_addDoor_51 : decode cX3_addDoor 51 = .ok (.putfield 44, 3) := by decide +kernel
theorem dX3_addDoor_54 : decode cX3_addDoor 54 = .ok (.aload_n 0, 1) := by decide +kernel
theorem dX3_addDoor_55 : decode cX3_addDoor 55 = .ok (.dup, 1) := by decide +kernel
theorem dX3_addDoor_56 : decode cX3_addDoor 56 = .ok (.getfield 72, 3) := by decide +kernel
theorem dX3_addDoor_59 : decode cX3_addDoor 59 = .ok (.aload_n 0, 1) := by decide +kernel
theorem dX3_addDoor_60 : decode cX3_addDoor 60 = .ok (.aload_n 0, 1) := by decide +kernel
theorem dX3_addDoor_61 : decode cX3_addDoor 61 = .ok (.getfield 44, 3) := by decide +kernel
theorem dX3_addDoor_64 : decode cX3_addDoor 64 = .ok (.iconst 1, 1) := by decide +kernel
theorem dX3_addDoor_65 : decode cX3_addDoor 65 = .ok (.isub, 1) := by decide +kernel
theorem dX3_addDoor_66 : decode cX3_addDoor 66 = .ok (.invokevirtual 75, 3) := by decide +kernel
theorem dX3_addDoor_69 : decode cX3_addDoor 69 = .ok (.invokestatic 78, 3) := by decide +kernel
theorem dX3_addDoor_72 : decode cX3_addDoor 72 = .ok (.iadd, 1) := by decide +kernel
theorem dX3_addDoor_73 : decode cX3_addDoor 73 = .ok (.putfield 72, 3) := by decide +kernel
theorem dX3_addDoor_76 : decode cX3_addDoor 76 = .ok (.aload_n 0, 1) := by decide +kernel
theorem dX3_addDoor_77 : decode cX3_addDoor 77 = .ok (.getfield 44, 3) := by decide +kernel
theorem dX3_addDoor_80 : decode cX3_addDoor 80 = .ok (.iconst 1, 1) := by decide +kernel
theorem dX3_addDoor_81 : decode cX3_addDoor 81 = .ok (.isub, 1) := by decide +kernel
theorem dX3_addDoor_82 : decode cX3_addDoor 82 = .ok (.ireturn, 1) := by decide +kernel
set_option maxRecDepth 20000 in
theorem ggX3_setRights_X3_isDoor : GoodIn wsX3_setRights wsX3_isDoor := goodIn_r _ [8, 9, 41, 42, 43, 44, 45, 46, 47, 48, 49, 50, 51, 52, 53, 54, 55] (by decide +kernel) (by decide +kernel)
set_option maxRecDepth 20000 in
theorem gX3_setRights_X3_isDoor : GoodIn wsX3_setRights (wsV RX3 83 RX3 yX3_isDoor wsX3_isDoor) := goodIn_app (goodIn_of _ (by decide +kernel)) ggX3_setRights_X3_isDoor
set_option maxRecDepth 20000 in
theorem ggX3_setRights_X3_fail : GoodIn wsX3_setRights wsX3_fail := goodIn_r _ [13, 1, 41, 42, 43, 44, 45, 46, 47, 48, 49, 50, 51, 52, 53, 54, 55] (by decide +kernel) (by decide +kernel)
set_option maxRecDepth 20000 in
theorem gX3_setRights_X3_fail : GoodIn wsX3_setRights (wsV RX3 64 RX3 yX3_fail wsX3_fail) := goodIn_app (goodIn_of _ (by decide +kernel)) ggX3_setRights_X3_fail
set_option maxRecDepth 20000 in
theorem ggX3_setRights_X3_areKeys : GoodIn wsX3_setRights wsX3_areKeys := goodIn_r _ [17, 18, 41, 42, 43, 44, 45, 46, 47, 48, 49, 50, 51, 52, 53, 54, 55] (by decide +kernel) (by decide +kernel)
set_option maxRecDepth 20000 in
theorem gX3_setRights_X3_areKeys : GoodIn wsX3_setRights (wsV RX3 68 RX3 yX3_areKeys wsX3_areKeys) := goodIn_app (goodIn_of _ (by decide +kernel)) ggX3_setRights_X3_areKeys
set_option maxRecDepth 20000 in
theorem ggX3_setRights_X3_allPins : GoodIn wsX3_setRights wsX3_allPins := goodIn_r _ [22, 23, 24, 25, 7, 26, 18, 2, 27, 28, 29, 30, 31, 32, 33, 41, 42, 43, 44, 45, 46, 47, 48, 49, 50, 51, 52, 53, 54, 55] (by decide +kernel) (by decide +kernel)
set_option maxRecDepth 20000 in
theorem gX3_setRights_X3_allPins : GoodIn wsX3_setRights (wsV RX3 75 RX3 yX3_allPins wsX3_allPins) := goodIn_app (goodIn_of _ (by decide +kernel)) ggX3_setRights_X3_allPins
set_option maxRecDepth 20000 in
theorem ggX3_setRights_J6_bitCount_0f7a4 : GoodIn wsX3_setRights wsJ6_bitCount_0f7a4 := goodIn_r _ [37, 38, 39, 40] (by decide +kernel) (by decide +kernel)
set_option maxRecDepth 20000 in
theorem gX3_setRights_J6_bitCount_0f7a4 : GoodIn wsX3_setRights (va_wsS RX3 78 yJ6_bitCount_0f7a4 wsJ6_bitCount_0f7a4) := goodIn_app (goodIn_of _ (by decide +kernel)) ggX3_setRights_J6_bitCount_0f7a4
theorem dX3_setRights_0 : decode cX3_setRights 0 = .ok (.aload_n 0, 1) := by decide +kernel
theorem dX3_setRights_1 : decode cX3_setRights 1 = .ok (.iconst 0, 1) := by decide +kernel
theorem dX3_setRights_2 : decode cX3_setRights 2 = .ok (.putfield 37, 3) := by decide +kernel
theorem dX3_setRights_5 : decode cX3_setRights 5 = .ok (.aload_n 0, 1) := by decide +kernel
theorem dX3_setRights_6 : decode cX3_setRights 6 = .ok (.iload_n 1, 1) := by decide +kernel
theorem dX3_setRights_7 : decode cX3_setRights 7 = .ok (.invokevirtual 83, 3) := by decide +kernel
theorem dX3_setRights_10 : decode cX3_setRights 10 = .ok (.ifCond .ne 9, 3) := by decide +kernel
theorem dX3_setRights_13 : decode cX3_setRights 13 = .ok (.aload_n 0, 1) := by decide +kernel
theorem dX3_setRights_14 : decode cX3_setRights 14 = .ok (.iconst 1, 1) := by decide +kernel
theorem dX3_setRights_15 : decode cX3_setRights 15 = .ok (.invokevirtual 64, 3) := by decide +kernel
theorem dX3_setRights_18 : decode cX3_setRights 18 = .ok (.ireturn, 1) := by decide +kernel
theorem dX3_setRights_19 : decode cX3_setRights 19 = .ok (.aload_n 0, 1) := by decide +kernel
theorem dX3_setRights_20 : decode cX3_setRights 20 = .ok (.iload_n 2, 1) := by decide +kernel
theorem dX3_setRights_21 : decode cX3_setRights 21 = .ok (.invokevirtual 68, 3) := by decide +kernel
theorem dX3_setRights_24 : decode cX3_setRights 24 = .ok (.ifCond .ne 9, 3) := by decide +kernel
theorem dX3_setRights_27 : decode cX3_setRights 27 = .ok (.aload_n 0, 1) := by decide +kernel
theorem dX3_setRights_28 : decode cX3_setRights 28 = .ok (.iconst 2, 1) := by decide +kernel
theorem dX3_setRights_29 : decode cX3_setRights 29 = .ok (.invokevirtual 64, 3) := by decide +kernel
theorem dX3_setRights_32 : decode cX3_setRights 32 = .ok (.ireturn, 1) := by decide +kernel
theorem dX3_setRights_33 : decode cX3_setRights 33 = .ok (.aload_n 0, 1) := by decide +kernel
theorem dX3_setRights_34 : decode cX3_setRights 34 = .ok (.getfield 13, 3) := by decide +kernel
theorem dX3_setRights_37 : decode cX3_setRights 37 = .ok (.iload_n 1, 1) := by decide +kernel
theorem dX3_setRights_38 : decode cX3_setRights 38 = .ok (.iaload, 1) := by decide +kernel
theorem dX3_setRights_39 : decode cX3_setRights 39 = .ok (.istore_n 3, 1) := by decide +kernel
theorem dX3_setRights_40 : decode cX3_setRights 40 = .ok (.aload_n 0, 1) := by decide +kernel
theorem dX3_setRights_41 : decode cX3_setRights 41 = .ok (.iload_n 1, 1) := by decide +kernel
theorem dX3_setRights_42 : decode cX3_setRights 42 = .ok (.invokevirtual 75, 3) := by decide +kernel
theorem dX3_setRights_45 : decode cX3_setRights 45 = .ok (.istore 4, 2) := by decide +kernel
theorem dX3_setRights_47 : decode cX3_setRights 47 = .ok (.aload_n 0, 1) := by decide +kernel
theorem dX3_setRights_48 : decode cX3_setRights 48 = .ok (.getfield 13, 3) := by decide +kernel
theorem dX3_setRights_51 : decode cX3_setRights 51 = .ok (.iload_n 1, 1) := by decide +kernel
theorem dX3_setRights_52 : decode cX3_setRights 52 = .ok (.iload_n 2, 1) := by decide +kernel
theorem dX3_setRights_53 : decode cX3_setRights 53 = .ok (.iastore, 1) := by decide +kernel
theorem dX3_setRights_54 : decode cX3_setRights 54 = .ok (.aload_n 0, 1) := by decide +kernel
theorem dX3_setRights_55 : decode cX3_setRights 55 = .ok (.dup, 1) := by decide +kernel
theorem dX3_setRights_56 : decode cX3_setRights 56 = .ok (.getfield 72, 3) := by decide +kernel
theorem dX3_setRights_59 : decode cX3_setRights 59 = .ok (.iload 4, 2) := by decide +kernel
theorem dX3_setRights_61 : decode cX3_setRights 61 = .ok (.aload_n 0, 1) := by decide +kernel
theorem dX3_setRights_62 : decode cX3_setRights 62 = .ok (.iload_n 1, 1) := by decide +kernel
theorem dX3_setRights_63 : decode cX3_setRights 63 = .ok (.invokevirtual 75, 3) := by decide +kernel
theorem dX3_setRights_66 : decode cX3_setRights 66 = .ok (.ixor, 1) := by decide +kernel
theorem dX3_setRights_67 : decode cX3_setRights 67 = .ok (.invokestatic 78, 3) := by decide +kernel
theorem dX3_setRights_70 : decode cX3_setRights 70 = .ok (.iadd, 1) := by decide +kernel
theorem dX3_setRights_71 : decode cX3_setRights 71 = .ok (.putfield 72, 3) := by decide +kernel
theorem dX3_setRights_74 : decode cX3_setRights 74 = .ok (.iload_n 3, 1) := by decide +kernel
theorem dX3_setRights_75 : decode cX3_setRights 75 = .ok (.ireturn, 1) := by decide +kernel
theorem dX3_keyCount_0 : decode cX3_keyCount 0 = .ok (.aload_n 0, 1) := by decide +kernel
theorem dX3_keyCount_1 : decode cX3_keyCount 1 = .ok (.iconst 0, 1) := by decide +kernel
theorem dX3_keyCount_2 : decode cX3_keyCount 2 = .ok (.putfield 37, 3) := by decide +kernel
theorem dX3_keyCount_5 : decode cX3_keyCount 5 = .ok (.aload_n 0, 1) := by decide +kernel
theorem dX3_keyCount_6 : decode cX3_keyCount 6 = .ok (.getfield 41, 3) := by decide +kernel
theorem dX3_keyCount_9 : decode cX3_keyCount 9 = .ok (.ireturn, 1) := by decide +kernel
theorem dX3_doorCount_0 : decode cX3_doorCount 0 = .ok (.aload_n 0, 1) := by decide +kernel
theorem dX3_doorCount_1 : decode cX3_doorCount 1 = .ok (.iconst 0, 1) := by decide +kernel
theorem dX3_doorCount_2 : decode cX3_doorCount 2 = .ok (.putfield 37, 3) := by decide +kernel
theorem dX3_doorCount_5 : decode cX3_doorCount 5 = .ok (.aload_n 0, 1) := by decide +kernel
theorem dX3_doorCount_6 : decode cX3_doorCount 6 = .ok (.getfield 44, 3) := by decide +kernel
theorem dX3_doorCount_9 : decode cX3_doorCount 9 = .ok (.ireturn, 1) := by decide +kernel
set_option maxRecDepth 20000 in
theorem ggX3_code_X3_isKey : GoodIn wsX3_code wsX3_isKey := goodIn_r _ [7, 8, 13, 14, 15, 16, 17, 18, 19, 20, 21, 22, 23, 24, 25, 26, 27] (by decide +kernel) (by decide +kernel)
set_option maxRecDepth 20000 in
theorem gX3_code_X3_isKey : GoodIn wsX3_code (wsV RX3 86 RX3 yX3_isKey wsX3_isKey) := goodIn_app (goodIn_of _ (by decide +kernel)) ggX3_code_X3_isKey
set_option maxRecDepth 20000 in
theorem ggX3_code_X3_fail : GoodIn wsX3_code wsX3_fail := goodIn_r _ [12, 1, 13, 14, 15, 16, 17, 18, 19, 20, 21, 22, 23, 24, 25, 26, 27] (by decide +kernel) (by decide +kernel)
set_option maxRecDepth 20000 in
theorem gX3_code_X3_fail : GoodIn wsX3_code (wsV RX3 64 RX3 yX3_fail wsX3_fail) := goodIn_app (goodIn_of _ (by decide +kernel)) ggX3_code_X3_fail
theorem dX3_code_0 : decode cX3_code 0 = .ok (.aload_n 0, 1) := by decide +kernel
theorem dX3_code_1 : decode cX3_code 1 = .ok (.iconst 0, 1) := by decide +kernel
theorem dX3_code_2 : decode cX3_code 2 = .ok (.putfield 37, 3) := by decide +kernel
theorem dX3_code_5 : decode cX3_code 5 = .ok (.aload_n 0, 1) := by decide +kernel
theorem dX3_code_6 : decode cX3_code 6 = .ok (.iload_n 1, 1) := by decide +kernel
theorem dX3_code_7 : decode cX3_code 7 = .ok (.invokevirtual 86, 3) := by decide +kernel
theorem dX3_code_10 : decode cX3_code 10 = .ok (.ifCond .eq 12, 3) := by decide +kernel
theorem dX3_code_13 : decode cX3_code 13 = .ok (.aload_n 0, 1) := by decide +kernel
theorem dX3_code_14 : decode cX3_code 14 = .ok (.getfield 9, 3) := by decide +kernel
theorem dX3_code_17 : decode cX3_code 17 = .ok (.iload_n 1, 1) := by decide +kernel
theorem dX3_code_18 : decode cX3_code 18 = .ok (.iaload, 1) := by decide +kernel
theorem dX3_code_19 : decode cX3_code 19 = .ok (.goto 8, 3) := by decide +kernel
theorem dX3_code_22 : decode cX3_code 22 = .ok (.aload_n 0, 1) := by decide +kernel
theorem dX3_code_23 : decode cX3_code 23 = .ok (.iconst 1, 1) := by decide +kernel
theorem dX3_code_24 : decode cX3_code 24 = .ok (.invokevirtual 64, 3) := by decide +kernel
theorem dX3_code_27 : decode cX3_code 27 = .ok (.ireturn, 1) := by decide +kernel
set_option maxRecDepth 20000 in
theorem ggX3_pins_X3_isDoor : GoodIn wsX3_pins wsX3_isDoor := goodIn_r _ [6, 7, 25, 26, 27, 28, 29, 30, 31, 32, 33, 34, 35, 36, 37, 38, 39] (by decide +kernel) (by decide +kernel)
set_option maxRecDepth 20000 in
theorem gX3_pins_X3_isDoor : GoodIn wsX3_pins (wsV RX3 83 RX3 yX3_isDoor wsX3_isDoor) := goodIn_app (goodIn_of _ (by decide +kernel)) ggX3_pins_X3_isDoor
set_option maxRecDepth 20000 in
theorem ggX3_pins_X3_pinsOf : GoodIn wsX3_pins wsX3_pinsOf := goodIn_r _ [11, 12, 13, 14, 15, 16, 5, 17, 18, 19, 20, 25, 26, 27, 28, 29, 30, 31, 32, 33, 34, 35, 36, 37, 38, 39] (by decide +kernel) (by decide +kernel)
set_option maxRecDepth 20000 in
theorem gX3_pins_X3_pinsOf : GoodIn wsX3_pins (wsV RX3 58 RX3 yX3_pinsOf wsX3_pinsOf) := goodIn_app (goodIn_of _ (by decide +kernel)) ggX3_pins_X3_pinsOf
set_option maxRecDepth 20000 in
theorem ggX3_pins_X3_fail : GoodIn wsX3_pins wsX3_fail := goodIn_r _ [24, 1, 25, 26, 27, 28, 29, 30, 31, 32, 33, 34, 35, 36, 37, 38, 39] (by decide +kernel) (by decide +kernel)
set_option maxRecDepth 20000 in
theorem gX3_pins_X3_fail : GoodIn wsX3_pins (wsV RX3 64 RX3 yX3_fail wsX3_fail) := goodIn_app (goodIn_of _ (by decide +kernel)) ggX3_pins_X3_fail
theorem dX3_pins_0 : decode cX3_pins 0 = .ok (.aload_n 0, 1) := by decide +kernel
theorem dX3_pins_1 : decode cX3_pins 1 = .ok (.iconst 0, 1) := by decide +kernel
theorem dX3_pins_2 : decode cX3_pins 2 = .ok (.putfield 37, 3) := by decide +kernel
theorem dX3_pins_5 : decode cX3_pins 5 = .ok (.aload_n 0, 1) := by decide +kernel
theorem dX3_pins_6 : decode cX3_pins 6 = .ok (.iload_n 1, 1) := by decide +kernel
theorem dX3_pins_7 : decode cX3_pins 7 = .ok (.invokevirtual 83, 3) := by decide +kernel
theorem dX3_pins_10 : decode cX3_pins 10 = .ok (.ifCond .eq 21, 3) := by decide +kernel
theorem dX3_pins_13 : decode cX3_pins 13 = .ok (.iload_n 2, 1) := by decide +kernel
theorem dX3_pins_14 : decode cX3_pins 14 = .ok (.ifCond .lt 17, 3) := by decide +kernel
theorem dX3_pins_17 : decode cX3_pins 17 = .ok (.iload_n 2, 1) := by decide +kernel
theorem dX3_pins_18 : decode cX3_pins 18 = .ok (.iconst 5, 1) := by decide +kernel
theorem dX3_pins_19 : decode cX3_pins 19 = .ok (.if_icmp .ge 12, 3) := by decide +kernel
theorem dX3_pins_22 : decode cX3_pins 22 = .ok (.aload_n 0, 1) := by decide +kernel
theorem dX3_pins_23 : decode cX3_pins 23 = .ok (.iload_n 1, 1) := by decide +kernel
theorem dX3_pins_24 : decode cX3_pins 24 = .ok (.iload_n 2, 1) := by decide +kernel
theorem dX3_pins_25 : decode cX3_pins 25 = .ok (.invokevirtual 58, 3) := by decide +kernel
theorem dX3_pins_28 : decode cX3_pins 28 = .ok (.goto 8, 3) := by decide +kernel
theorem dX3_pins_31 : decode cX3_pins 31 = .ok (.aload_n 0, 1) := by decide +kernel
theorem dX3_pins_32 : decode cX3_pins 32 = .ok (.iconst 1, 1) := by decide +kernel
theorem dX3_pins_33 : decode cX3_pins 33 = .ok (.invokevirtual 64, 3) := by decide +kernel
theorem dX3_pins_36 : decode cX3_pins 36 = .ok (.ireturn, 1) := by decide +kernel
set_option maxRecDepth 20000 in
theorem ggX3_opens_X3_isKey : GoodIn wsX3_opens wsX3_isKey := goodIn_r _ [7, 8, 29, 30, 31, 32, 33, 34, 35, 36, 37, 38, 39, 40, 41, 42, 43] (by decide +kernel) (by decide +kernel)
set_option maxRecDepth 20000 in
theorem gX3_opens_X3_isKey : GoodIn wsX3_opens (wsV RX3 86 RX3 yX3_isKey wsX3_isKey) := goodIn_app (goodIn_of _ (by decide +kernel)) ggX3_opens_X3_isKey
set_option maxRecDepth 20000 in
theorem ggX3_opens_X3_isDoor : GoodIn wsX3_opens wsX3_isDoor := goodIn_r _ [12, 13, 29, 30, 31, 32, 33, 34, 35, 36, 37, 38, 39, 40, 41, 42, 43] (by decide +kernel) (by decide +kernel)
set_option maxRecDepth 20000 in
theorem gX3_opens_X3_isDoor : GoodIn wsX3_opens (wsV RX3 83 RX3 yX3_isDoor wsX3_isDoor) := goodIn_app (goodIn_of _ (by decide +kernel)) ggX3_opens_X3_isDoor
set_option maxRecDepth 20000 in
theorem ggX3_opens_X3_opensWith : GoodIn wsX3_opens wsX3_opensWith := goodIn_r _ [17, 18, 19, 20, 6, 21, 8, 22, 2, 23, 24, 25, 26, 27, 28, 29, 30, 31, 32, 33, 34, 35, 36, 37, 38, 39, 40, 41, 42, 43] (by decide +kernel) (by decide +kernel)
set_option maxRecDepth 20000 in
theorem gX3_opens_X3_opensWith : GoodIn wsX3_opens (wsV RX3 61 RX3 yX3_opensWith wsX3_opensWith) := goodIn_app (goodIn_of _ (by decide +kernel)) ggX3_opens_X3_opensWith
theorem dX3_opens_0 : decode cX3_opens 0 = .ok (.aload_n 0, 1) := by decide +kernel
theorem dX3_opens_1 : decode cX3_opens 1 = .ok (.aload_n 0, 1) := by decide +kernel
theorem dX3_opens_2 : decode cX3_opens 2 = .ok (.iload_n 1, 1) := by decide +kernel
theorem dX3_opens_3 : decode cX3_opens 3 = .ok (.invokevirtual 86, 3) := by decide +kernel
theorem dX3_opens_6 : decode cX3_opens 6 = .ok (.ifCond .eq 15, 3) := by decide +kernel
theorem dX3_opens_9 : decode cX3_opens 9 = .ok (.aload_n 0, 1) := by decide +kernel
theorem dX3_opens_10 : decode cX3_opens 10 = .ok (.iload_n 2, 1) := by decide +kernel
theorem dX3_opens_11 : decode cX3_opens 11 = .ok (.invokevirtual 83, 3) := by decide +kernel
theorem dX3_opens_14 : decode cX3_opens 14 = .ok (.ifCond .eq 7, 3) := by decide +kernel
theorem dX3_opens_17 : decode cX3_opens 17 = .ok (.iconst 0, 1) := by decide +kernel
theorem dX3_opens_18 : decode cX3_opens 18 = .ok (.goto 4, 3) := by decide +kernel
theorem dX3_opens_21 : decode cX3_opens 21 = .ok (.iconst 1, 1) := by decide +kernel
theorem dX3_opens_22 : decode cX3_opens 22 = .ok (.putfield 37, 3) := by decide +kernel
theorem dX3_opens_25 : decode cX3_opens 25 = .ok (.aload_n 0, 1) := by decide +kernel
theorem dX3_opens_26 : decode cX3_opens 26 = .ok (.getfield 37, 3) := by decide +kernel
theorem dX3_opens_29 : decode cX3_opens 29 = .ok (.ifCond .ne 21, 3) := by decide +kernel
theorem dX3_opens_32 : decode cX3_opens 32 = .ok (.aload_n 0, 1) := by decide +kernel
theorem dX3_opens_33 : decode cX3_opens 33 = .ok (.aload_n 0, 1) := by decide +kernel
theorem dX3_opens_34 : decode cX3_opens 34 = .ok (.getfield 9, 3) := by decide +kernel
theorem dX3_opens_37 : decode cX3_opens 37 = .ok (.iload_n 1, 1) := by decide +kernel
theorem dX3_opens_38 : decode cX3_opens 38 = .ok (.iaload, 1) := by decide +kernel
theorem dX3_opens_39 : decode cX3_opens 39 = .ok (.iload_n 2, 1) := by decide +kernel
theorem dX3_opens_40 : decode cX3_opens 40 = .ok (.invokevirtual 61, 3) := by decide +kernel
theorem dX3_opens_43 : decode cX3_opens 43 = .ok (.ifCond .eq 7, 3) := by decide +kernel
theorem dX3_opens_46 : decode cX3_opens 46 = .ok (.iconst 1, 1) := by decide +kernel
theorem dX3_opens_47 : decode cX3_opens 47 = .ok (.goto 4, 3) := by decide +kernel
theorem dX3_opens_50 : decode cX3_opens 50 = .ok (.iconst 0, 1) := by decide +kernel
theorem dX3_opens_51 : decode cX3_opens 51 = .ok (.ireturn, 1) := by decide +kernel
set_option maxRecDepth 20000 in
theorem ggX3_openers_X3_isDoor : GoodIn wsX3_openers wsX3_isDoor := goodIn_r _ [8, 9, 29, 30, 31, 32, 33, 34, 35, 36, 37, 38, 39, 40, 41, 42, 43] (by decide +kernel) (by decide +kernel)
set_option maxRecDepth 20000 in
theorem gX3_openers_X3_isDoor : GoodIn wsX3_openers (wsV RX3 83 RX3 yX3_isDoor wsX3_isDoor) := goodIn_app (goodIn_of _ (by decide +kernel)) ggX3_openers_X3_isDoor
set_option maxRecDepth 20000 in
theorem ggX3_openers_X3_fail : GoodIn wsX3_openers wsX3_fail := goodIn_r _ [13, 1, 29, 30, 31, 32, 33, 34, 35, 36, 37, 38, 39, 40, 41, 42, 43] (by decide +kernel) (by decide +kernel)
set_option maxRecDepth 20000 in
theorem gX3_openers_X3_fail : GoodIn wsX3_openers (wsV RX3 64 RX3 yX3_fail wsX3_fail) := goodIn_app (goodIn_of _ (by decide +kernel)) ggX3_openers_X3_fail
set_option maxRecDepth 20000 in
theorem ggX3_openers_X3_opensWith : GoodIn wsX3_openers wsX3_opensWith := goodIn_r _ [17, 18, 19, 20, 7, 21, 2, 22, 3, 23, 24, 25, 26, 27, 28, 29, 30, 31, 32, 33, 34, 35, 36, 37, 38, 39, 40, 41, 42, 43] (by decide +kernel) (by decide +kernel)
set_option maxRecDepth 20000 in
theorem gX3_openers_X3_opensWith : GoodIn wsX3_openers (wsV RX3 61 RX3 yX3_opensWith wsX3_opensWith) := goodIn_app (goodIn_of _ (by decide +kernel)) ggX3_openers_X3_opensWith
theorem dX3_openers_0 : decode cX3_openers 0 = .ok (.aload_n 0, 1) := by decide +kernel
theorem dX3_openers_1 : decode cX3_openers 1 = .ok (.iconst 0, 1) := by decide +kernel
theorem dX3_openers_2 : decode cX3_openers 2 = .ok (.putfield 37, 3) := by decide +kernel
theorem dX3_openers_5 : decode cX3_openers 5 = .ok (.aload_n 0, 1) := by decide +kernel
theorem dX3_openers_6 : decode cX3_openers 6 = .ok (.iload_n 1, 1) := by decide +kernel
theorem dX3_openers_7 : decode cX3_openers 7 = .ok (.invokevirtual 83, 3) := by decide +kernel
theorem dX3_openers_10 : decode cX3_openers 10 = .ok (.ifCond .ne 9, 3) := by decide +kernel
theorem dX3_openers_13 : decode cX3_openers 13 = .ok (.aload_n 0, 1) := by decide +kernel
theorem dX3_openers_14 : decode cX3_openers 14 = .ok (.iconst 1, 1) := by decide +kernel
theorem dX3_openers_15 : decode cX3_openers 15 = .ok (.invokevirtual 64, 3) := by decide +kernel
theorem dX3_openers_18 : decode cX3_openers 18 = .ok (.ireturn, 1) := by decide +kernel
theorem dX3_openers_19 : decode cX3_openers 19 = .ok (.iconst 0, 1) := by decide +kernel
theorem dX3_openers_20 : decode cX3_openers 20 = .ok (.istore_n 2, 1) := by decide +kernel
theorem dX3_openers_21 : decode cX3_openers 21 = .ok (.iconst 0, 1) := by decide +kernel
theorem dX3_openers_22 : decode cX3_openers 22 = .ok (.istore_n 3, 1) := by decide +kernel
theorem dX3_openers_23 : decode cX3_openers 23 = .ok (.iload_n 3, 1) := by decide +kernel
theorem dX3_openers_24 : decode cX3_openers 24 = .ok (.aload_n 0, 1) := by decide +kernel
theorem dX3_openers_25 : decode cX3_openers 25 = .ok (.getfield 41, 3) := by decide +kernel
theorem dX3_openers_28 : decode cX3_openers 28 = .ok (.if_icmp .ge 29, 3) := by decide +kernel
theorem dX3_openers_31 : decode cX3_openers 31 = .ok (.aload_n 0, 1) := by decide +kernel
theorem dX3_openers_32 : decode cX3_openers 32 = .ok (.aload_n 0, 1) := by decide +kernel
theorem dX3_openers_33 : decode cX3_openers 33 = .ok (.getfield 9, 3) := by decide +kernel
theorem dX3_openers_36 : decode cX3_openers 36 = .ok (.iload_n 3, 1) := by decide +kernel
theorem dX3_openers_37 : decode cX3_openers 37 = .ok (.iaload, 1) := by decide +kernel
theorem dX3_openers_38 : decode cX3_openers 38 = .ok (.iload_n 1, 1) := by decide +kernel
theorem dX3_openers_39 : decode cX3_openers 39 = .ok (.invokevirtual 61, 3) := by decide +kernel
theorem dX3_openers_42 : decode cX3_openers 42 = .ok (.ifCond .eq 9, 3) := by decide +kernel
theorem dX3_openers_45 : decode cX3_openers 45 = .ok (.iload_n 2, 1) := by decide +kernel
theorem dX3_openers_46 : decode cX3_openers 46 = .ok (.iconst 1, 1) := by decide +kernel
theorem dX3_openers_47 : decode cX3_openers 47 = .ok (.iload_n 3, 1) := by decide +kernel
theorem dX3_openers_48 : decode cX3_openers 48 = .ok (.ishl, 1) := by decide +kernel
theorem dX3_openers_49 : decode cX3_openers 49 = .ok (.ior, 1) := by decide +kernel
theorem dX3_openers_50 : decode cX3_openers 50 = .ok (.istore_n 2, 1) := by decide +kernel
theorem dX3_openers_51 : decode cX3_openers 51 = .ok (.iinc 3 1, 3) := by decide +kernel
theorem dX3_openers_54 : decode cX3_openers 54 = .ok (.goto (-31), 3) := by decide +kernel
theorem dX3_openers_57 : decode cX3_openers 57 = .ok (.iload_n 2, 1) := by decide +kernel
theorem dX3_openers_58 : decode cX3_openers 58 = .ok (.ireturn, 1) := by decide +kernel
set_option maxRecDepth 20000 in
theorem ggX3_doors_X3_isKey : GoodIn wsX3_doors wsX3_isKey := goodIn_r _ [7, 8, 33, 34, 35, 36, 37, 38, 39, 40, 41, 42, 43, 44, 45, 46, 47] (by decide +kernel) (by decide +kernel)
set_option maxRecDepth 20000 in
theorem gX3_doors_X3_isKey : GoodIn wsX3_doors (wsV RX3 86 RX3 yX3_isKey wsX3_isKey) := goodIn_app (goodIn_of _ (by decide +kernel)) ggX3_doors_X3_isKey
set_option maxRecDepth 20000 in
theorem ggX3_doors_X3_doorsOf : GoodIn wsX3_doors wsX3_doorsOf := goodIn_r _ [12, 13, 14, 15, 16, 6, 17, 18, 19, 20, 21, 8, 22, 2, 23, 24, 25, 26, 27, 28, 33, 34, 35, 36, 37, 38, 39, 40, 41, 42, 43, 44, 45, 46, 47] (by decide +kernel) (by decide +kernel)
set_option maxRecDepth 20000 in
theorem gX3_doors_X3_doorsOf : GoodIn wsX3_doors (wsV RX3 89 RX3 yX3_doorsOf wsX3_doorsOf) := goodIn_app (goodIn_of _ (by decide +kernel)) ggX3_doors_X3_doorsOf
set_option maxRecDepth 20000 in
theorem ggX3_doors_X3_fail : GoodIn wsX3_doors wsX3_fail := goodIn_r _ [32, 1, 33, 34, 35, 36, 37, 38, 39, 40, 41, 42, 43, 44, 45, 46, 47] (by decide +kernel) (by decide +kernel)
set_option maxRecDepth 20000 in
theorem gX3_doors_X3_fail : GoodIn wsX3_doors (wsV RX3 64 RX3 yX3_fail wsX3_fail) := goodIn_app (goodIn_of _ (by decide +kernel)) ggX3_doors_X3_fail
theorem dX3_doors_0 : decode cX3_doors 0 = .ok (.aload_n 0, 1) := by decide +kernel
theorem dX3_doors_1 : decode cX3_doors 1 = .ok (.iconst 0, 1) := by decide +kernel
theorem dX3_doors_2 : decode cX3_doors 2 = .ok (.putfield 37, 3) := by decide +kernel
theorem dX3_doors_5 : decode cX3_doors 5 = .ok (.aload_n 0, 1) := by decide +kernel
theorem dX3_doors_6 : decode cX3_doors 6 = .ok (.iload_n 1, 1) := by decide +kernel
theorem dX3_doors_7 : decode cX3_doors 7 = .ok (.invokevirtual 86, 3) := by decide +kernel
theorem dX3_doors_10 : decode cX3_doors 10 = .ok (.ifCond .eq 16, 3) := by decide +kernel
theorem dX3_doors_13 : decode cX3_doors 13 = .ok (.aload_n 0, 1) := by decide +kernel
theorem dX3_doors_14 : decode cX3_doors 14 = .ok (.aload_n 0, 1) := by decide +kernel
theorem dX3_doors_15 : decode cX3_doors 15 = .ok (.getfield 9, 3) := by decide +kernel
theorem dX3_doors_18 : decode cX3_doors 18 = .ok (.iload_n 1, 1) := by decide +kernel
theorem dX3_doors_19 : decode cX3_doors 19 = .ok (.iaload, 1) := by decide +kernel
theorem dX3_doors_20 : decode cX3_doors 20 = .ok (.invokevirtual 89, 3) := by decide +kernel
theorem dX3_doors_23 : decode cX3_doors 23 = .ok (.goto 8, 3) := by decide +kernel
theorem dX3_doors_26 : decode cX3_doors 26 = .ok (.aload_n 0, 1) := by decide +kernel
theorem dX3_doors_27 : decode cX3_doors 27 = .ok (.iconst 1, 1) := by decide +kernel
theorem dX3_doors_28 : decode cX3_doors 28 = .ok (.invokevirtual 64, 3) := by decide +kernel
theorem dX3_doors_31 : decode cX3_doors 31 = .ok (.ireturn, 1) := by decide +kernel
set_option maxRecDepth 20000 in
theorem ggX3_strays_X3_strayCount : GoodIn wsX3_strays wsX3_strayCount := goodIn_r _ [6, 7, 8, 9, 10, 11, 12, 13, 5, 14, 15, 16, 17, 18, 19, 20, 21, 22, 23, 24, 25, 26, 27, 28, 29, 30, 31, 32, 33, 34, 35, 36, 37, 38, 39] (by decide +kernel) (by decide +kernel)
set_option maxRecDepth 20000 in
theorem gX3_strays_X3_strayCount : GoodIn wsX3_strays (wsV RX3 92 RX3 yX3_strayCount wsX3_strayCount) := goodIn_app (goodIn_of _ (by decide +kernel)) ggX3_strays_X3_strayCount
theorem dX3_strays_0 : decode cX3_strays 0 = .ok (.aload_n 0, 1) := by decide +kernel
theorem dX3_strays_1 : decode cX3_strays 1 = .ok (.iconst 0, 1) := by decide +kernel
theorem dX3_strays_2 : decode cX3_strays 2 = .ok (.putfield 37, 3) := by decide +kernel
theorem dX3_strays_5 : decode cX3_strays 5 = .ok (.aload_n 0, 1) := by decide +kernel
theorem dX3_strays_6 : decode cX3_strays 6 = .ok (.invokevirtual 92, 3) := by decide +kernel
theorem dX3_strays_9 : decode cX3_strays 9 = .ok (.ireturn, 1) := by decide +kernel
set_option maxRecDepth 20000 in
theorem ggX3_codes_X3_isDoor : GoodIn wsX3_codes wsX3_isDoor := goodIn_r _ [6, 7, 29, 30, 31, 32, 33, 34, 35, 36, 37, 38, 39, 40, 41, 42, 43] (by decide +kernel) (by decide +kernel)
set_option maxRecDepth 20000 in
theorem gX3_codes_X3_isDoor : GoodIn wsX3_codes (wsV RX3 83 RX3 yX3_isDoor wsX3_isDoor) := goodIn_app (goodIn_of _ (by decide +kernel)) ggX3_codes_X3_isDoor
set_option maxRecDepth 20000 in
theorem ggX3_codes_X3_fail : GoodIn wsX3_codes wsX3_fail := goodIn_r _ [11, 1, 29, 30, 31, 32, 33, 34, 35, 36, 37, 38, 39, 40, 41, 42, 43] (by decide +kernel) (by decide +kernel)
set_option maxRecDepth 20000 in
theorem gX3_codes_X3_fail : GoodIn wsX3_codes (wsV RX3 64 RX3 yX3_fail wsX3_fail) := goodIn_app (goodIn_of _ (by decide +kernel)) ggX3_codes_X3_fail
set_option maxRecDepth 20000 in
theorem ggX3_codes_X3_opensWith : GoodIn wsX3_codes wsX3_opensWith := goodIn_r _ [15, 16, 17, 18, 5, 19, 20, 21, 22, 23, 24, 25, 26, 27, 28, 29, 30, 31, 32, 33, 34, 35, 36, 37, 38, 39, 40, 41, 42, 43] (by decide +kernel) (by decide +kernel)
set_option maxRecDepth 20000 in
theorem gX3_codes_X3_opensWith : GoodIn wsX3_codes (wsV RX3 61 RX3 yX3_opensWith wsX3_opensWith) := goodIn_app (goodIn_of _ (by decide +kernel)) ggX3_codes_X3_opensWith
theorem dX3_codes_0 : decode cX3_codes 0 = .ok (.aload_n 0, 1) := by decide +kernel
theorem dX3_codes_1 : decode cX3_codes 1 = .ok (.iconst 0, 1) := by decide +kernel
theorem dX3_codes_2 : decode cX3_codes 2 = .ok (.putfield 37, 3) := by decide +kernel
theorem dX3_codes_5 : decode cX3_codes 5 = .ok (.aload_n 0, 1) := by decide +kernel
theorem dX3_codes_6 : decode cX3_codes 6 = .ok (.iload_n 1, 1) := by decide +kernel
theorem dX3_codes_7 : decode cX3_codes 7 = .ok (.invokevirtual 83, 3) := by decide +kernel
theorem dX3_codes_10 : decode cX3_codes 10 = .ok (.ifCond .ne 9, 3) := by decide +kernel
theorem dX3_codes_13 : decode cX3_codes 13 = .ok (.aload_n 0, 1) := by decide +kernel
theorem dX3_codes_14 : decode cX3_codes 14 = .ok (.iconst 1, 1) := by decide +kernel
theorem dX3_codes_15 : decode cX3_codes 15 = .ok (.invokevirtual 64, 3) := by decide +kernel
theorem dX3_codes_18 : decode cX3_codes 18 = .ok (.ireturn, 1) := by decide +kernel
theorem dX3_codes_19 : decode cX3_codes 19 = .ok (.iconst 0, 1) := by decide +kernel
theorem dX3_codes_20 : decode cX3_codes 20 = .ok (.istore_n 2, 1) := by decide +kernel
theorem dX3_codes_21 : decode cX3_codes 21 = .ok (.iconst 0, 1) := by decide +kernel
theorem dX3_codes_22 : decode cX3_codes 22 = .ok (.istore_n 3, 1) := by decide +kernel
theorem dX3_codes_23 : decode cX3_codes 23 = .ok (.iload_n 3, 1) := by decide +kernel
theorem dX3_codes_24 : decode cX3_codes 24 = .ok (.sipush 1024, 3) := by decide +kernel
theorem dX3_codes_27 : decode cX3_codes 27 = .ok (.if_icmp .ge 26, 3) := by decide +kernel
theorem dX3_codes_30 : decode cX3_codes 30 = .ok (.iload_n 2, 1) := by decide +kernel
theorem dX3_codes_31 : decode cX3_codes 31 = .ok (.aload_n 0, 1) := by decide +kernel
theorem dX3_codes_32 : decode cX3_codes 32 = .ok (.iload_n 3, 1) := by decide +kernel
theorem dX3_codes_33 : decode cX3_codes 33 = .ok (.iload_n 1, 1) := by decide +kernel
theorem dX3_codes_34 : decode cX3_codes 34 = .ok (.invokevirtual 61, 3) := by decide +kernel
theorem dX3_codes_37 : decode cX3_codes 37 = .ok (.ifCond .eq 7, 3) := by decide +kernel
theorem dX3_codes_40 : decode cX3_codes 40 = .ok (.iconst 1, 1) := by decide +kernel
theorem dX3_codes_41 : decode cX3_codes 41 = .ok (.goto 4, 3) := by decide +kernel
theorem dX3_codes_44 : decode cX3_codes 44 = .ok (.iconst 0, 1) := by decide +kernel
theorem dX3_codes_45 : decode cX3_codes 45 = .ok (.iadd, 1) := by decide +kernel
theorem dX3_codes_46 : decode cX3_codes 46 = .ok (.istore_n 2, 1) := by decide +kernel
theorem dX3_codes_47 : decode cX3_codes 47 = .ok (.iinc 3 1, 3) := by decide +kernel
theorem dX3_codes_50 : decode cX3_codes 50 = .ok (.goto (-27), 3) := by decide +kernel
theorem dX3_codes_53 : decode cX3_codes 53 = .ok (.iload_n 2, 1) := by decide +kernel
theorem dX3_codes_54 : decode cX3_codes 54 = .ok (.ireturn, 1) := by decide +kernel
set_option maxRecDepth 20000 in
theorem ggX3_isAbove_X3_isKey : GoodIn wsX3_isAbove wsX3_isKey := goodIn_r _ [7, 8, 29, 30, 31, 32, 33, 34, 35, 36, 37, 38, 39, 40, 41, 42, 43] (by decide +kernel) (by decide +kernel)
set_option maxRecDepth 20000 in
theorem gX3_isAbove_X3_isKey : GoodIn wsX3_isAbove (wsV RX3 86 RX3 yX3_isKey wsX3_isKey) := goodIn_app (goodIn_of _ (by decide +kernel)) ggX3_isAbove_X3_isKey
set_option maxRecDepth 20000 in
theorem ggX3_isAbove_X3_doorsOf : GoodIn wsX3_isAbove wsX3_doorsOf := goodIn_r _ [12, 13, 14, 15, 16, 6, 17, 18, 19, 20, 21, 8, 22, 2, 23, 24, 25, 26, 27, 28, 29, 30, 31, 32, 33, 34, 35, 36, 37, 38, 39, 40, 41, 42, 43] (by decide +kernel) (by decide +kernel)
set_option maxRecDepth 20000 in
theorem gX3_isAbove_X3_doorsOf : GoodIn wsX3_isAbove (wsV RX3 89 RX3 yX3_doorsOf wsX3_doorsOf) := goodIn_app (goodIn_of _ (by decide +kernel)) ggX3_isAbove_X3_doorsOf
theorem dX3_isAbove_0 : decode cX3_isAbove 0 = .ok (.aload_n 0, 1) := by decide +kernel
theorem dX3_isAbove_1 : decode cX3_isAbove 1 = .ok (.aload_n 0, 1) := by decide +kernel
theorem dX3_isAbove_2 : decode cX3_isAbove 2 = .ok (.iload_n 1, 1) := by decide +kernel
theorem dX3_isAbove_3 : decode cX3_isAbove 3 = .ok (.invokevirtual 86, 3) := by decide +kernel
theorem dX3_isAbove_6 : decode cX3_isAbove 6 = .ok (.ifCond .eq 15, 3) := by decide +kernel
theorem dX3_isAbove_9 : decode cX3_isAbove 9 = .ok (.aload_n 0, 1) := by decide +kernel
theorem dX3_isAbove_10 : decode cX3_isAbove 10 = .ok (.iload_n 2, 1) := by decide +kernel
theorem dX3_isAbove_11 : decode cX3_isAbove 11 = .ok (.invokevirtual 86, 3) := by decide +kernel
theorem dX3_isAbove_14 : decode cX3_isAbove 14 = .ok (.ifCond .eq 7, 3) := by decide +kernel
theorem dX3_isAbove_17 : decode cX3_isAbove 17 = .ok (.iconst 0, 1) := by decide +kernel
theorem dX3_isAbove_18 : decode cX3_isAbove 18 = .ok (.goto 4, 3) := by decide +kernel
theorem dX3_isAbove_21 : decode cX3_isAbove 21 = .ok (.iconst 1, 1) := by decide +kernel
theorem dX3_isAbove_22 : decode cX3_isAbove 22 = .ok (.putfield 37, 3) := by decide +kernel
theorem dX3_isAbove_25 : decode cX3_isAbove 25 = .ok (.aload_n 0, 1) := by decide +kernel
theorem dX3_isAbove_26 : decode cX3_isAbove 26 = .ok (.getfield 37, 3) := by decide +kernel
theorem dX3_isAbove_29 : decode cX3_isAbove 29 = .ok (.ifCond .eq 5, 3) := by decide +kernel
theorem dX3_isAbove_32 : decode cX3_isAbove 32 = .ok (.iconst 0, 1) := by decide +kernel
theorem dX3_isAbove_33 : decode cX3_isAbove 33 = .ok (.ireturn, 1) := by decide +kernel
theorem dX3_isAbove_34 : decode cX3_isAbove 34 = .ok (.aload_n 0, 1) := by decide +kernel
theorem dX3_isAbove_35 : decode cX3_isAbove 35 = .ok (.aload_n 0, 1) := by decide +kernel
theorem dX3_isAbove_36 : decode cX3_isAbove 36 = .ok (.getfield 9, 3) := by decide +kernel
theorem dX3_isAbove_39 : decode cX3_isAbove 39 = .ok (.iload_n 1, 1) := by decide +kernel
theorem dX3_isAbove_40 : decode cX3_isAbove 40 = .ok (.iaload, 1) := by decide +kernel
theorem dX3_isAbove_41 : decode cX3_isAbove 41 = .ok (.invokevirtual 89, 3) := by decide +kernel
theorem dX3_isAbove_44 : decode cX3_isAbove 44 = .ok (.istore_n 3, 1) := by decide +kernel
theorem dX3_isAbove_45 : decode cX3_isAbove 45 = .ok (.aload_n 0, 1) := by decide +kernel
theorem dX3_isAbove_46 : decode cX3_isAbove 46 = .ok (.aload_n 0, 1) := by decide +kernel
theorem dX3_isAbove_47 : decode cX3_isAbove 47 = .ok (.getfield 9, 3) := by decide +kernel
theorem dX3_isAbove_50 : decode cX3_isAbove 50 = .ok (.iload_n 2, 1) := by decide +kernel
theorem dX3_isAbove_51 : decode cX3_isAbove 51 = .ok (.iaload, 1) := by decide +kernel
theorem dX3_isAbove_52 : decode cX3_isAbove 52 = .ok (.invokevirtual 89, 3) := by decide +kernel
theorem dX3_isAbove_55 : decode cX3_isAbove 55 = .ok (.istore 4, 2) := by decide +kernel
theorem dX3_isAbove_57 : decode cX3_isAbove 57 = .ok (.iload 4, 2) := by decide +kernel
theorem dX3_isAbove_59 : decode cX3_isAbove 59 = .ok (.iload_n 3, 1) := by decide +kernel
theorem dX3_isAbove_60 : decode cX3_isAbove 60 = .ok (.iconst (-1), 1) := by decide +kernel
theorem dX3_isAbove_61 : decode cX3_isAbove 61 = .ok (.ixor, 1) := by decide +kernel
theorem dX3_isAbove_62 : decode cX3_isAbove 62 = .ok (.iand, 1) := by decide +kernel
theorem dX3_isAbove_63 : decode cX3_isAbove 63 = .ok (.ifCond .ne 13, 3) := by decide +kernel
theorem dX3_isAbove_66 : decode cX3_isAbove 66 = .ok (.iload_n 3, 1) := by decide +kernel
theorem dX3_isAbove_67 : decode cX3_isAbove 67 = .ok (.iload 4, 2) := by decide +kernel
theorem dX3_isAbove_69 : decode cX3_isAbove 69 = .ok (.if_icmp .eq 7, 3) := by decide +kernel
theorem dX3_isAbove_72 : decode cX3_isAbove 72 = .ok (.iconst 1, 1) := by decide +kernel
theorem dX3_isAbove_73 : decode cX3_isAbove 73 = .ok (.goto 4, 3) := by decide +kernel
theorem dX3_isAbove_76 : decode cX3_isAbove 76 = .ok (.iconst 0, 1) := by decide +kernel
theorem dX3_isAbove_77 : decode cX3_isAbove 77 = .ok (.ireturn, 1) := by decide +kernel
theorem dX3_work_0 : decode cX3_work 0 = .ok (.aload_n 0, 1) := by decide +kernel
theorem dX3_work_1 : decode cX3_work 1 = .ok (.iconst 0, 1) := by decide +kernel
theorem dX3_work_2 : decode cX3_work 2 = .ok (.putfield 37, 3) := by decide +kernel
theorem dX3_work_5 : decode cX3_work 5 = .ok (.aload_n 0, 1) := by decide +kernel
theorem dX3_work_6 : decode cX3_work 6 = .ok (.getfield 72, 3) := by decide +kernel
theorem dX3_work_9 : decode cX3_work 9 = .ok (.ireturn, 1) := by decide +kernel
set_option maxRecDepth 20000 in
theorem ggX3_replace_X3_isKey : GoodIn wsX3_replace wsX3_isKey := goodIn_r _ [14, 5, 60, 61, 62, 63, 64, 65, 66, 67, 68, 69, 70, 71, 72, 73, 74] (by decide +kernel) (by decide +kernel)
set_option maxRecDepth 20000 in
theorem gX3_replace_X3_isKey : GoodIn wsX3_replace (wsV RX3 86 RX3 yX3_isKey wsX3_isKey) := goodIn_app (goodIn_of _ (by decide +kernel)) ggX3_replace_X3_isKey
set_option maxRecDepth 20000 in
theorem ggX3_replace_X3_fail : GoodIn wsX3_replace wsX3_fail := goodIn_r _ [18, 1, 60, 61, 62, 63, 64, 65, 66, 67, 68, 69, 70, 71, 72, 73, 74] (by decide +kernel) (by decide +kernel)
set_option maxRecDepth 20000 in
theorem gX3_replace_X3_fail : GoodIn wsX3_replace (wsV RX3 64 RX3 yX3_fail wsX3_fail) := goodIn_app (goodIn_of _ (by decide +kernel)) ggX3_replace_X3_fail
set_option maxRecDepth 20000 in
theorem ggX3_replace_X3_allPins : GoodIn wsX3_replace wsX3_allPins := goodIn_r _ [22, 23, 24, 25, 13, 26, 5, 27, 2, 28, 29, 30, 31, 32, 33, 60, 61, 62, 63, 64, 65, 66, 67, 68, 69, 70, 71, 72, 73, 74] (by decide +kernel) (by decide +kernel)
set_option maxRecDepth 20000 in
theorem gX3_replace_X3_allPins : GoodIn wsX3_replace (wsV RX3 75 RX3 yX3_allPins wsX3_allPins) := goodIn_app (goodIn_of _ (by decide +kernel)) ggX3_replace_X3_allPins
set_option maxRecDepth 20000 in
theorem ggX3_replace_X3_doorsOf : GoodIn wsX3_replace wsX3_doorsOf := goodIn_r _ [37, 3, 38, 39, 40, 13, 41, 23, 24, 25, 26, 5, 27, 2, 28, 29, 30, 31, 32, 33, 60, 61, 62, 63, 64, 65, 66, 67, 68, 69, 70, 71, 72, 73, 74] (by decide +kernel) (by decide +kernel)
set_option maxRecDepth 20000 in
theorem gX3_replace_X3_doorsOf : GoodIn wsX3_replace (wsV RX3 89 RX3 yX3_doorsOf wsX3_doorsOf) := goodIn_app (goodIn_of _ (by decide +kernel)) ggX3_replace_X3_doorsOf
set_option maxRecDepth 20000 in
theorem ggX3_replace_X3_strayCount : GoodIn wsX3_replace wsX3_strayCount := goodIn_r _ [45, 5, 3, 2, 27, 38, 39, 40, 13, 41, 23, 24, 25, 26, 28, 29, 30, 31, 32, 33, 60, 61, 62, 63, 64, 65, 66, 67, 68, 69, 70, 71, 72, 73, 74] (by decide +kernel) (by decide +kernel)
set_option maxRecDepth 20000 in
theorem gX3_replace_X3_strayCount : GoodIn wsX3_replace (wsV RX3 92 RX3 yX3_strayCount wsX3_strayCount) := goodIn_app (goodIn_of _ (by decide +kernel)) ggX3_replace_X3_strayCount
set_option maxRecDepth 20000 in
theorem ggX3_replace_J6_bitCount_0f7a4 : GoodIn wsX3_replace wsJ6_bitCount_0f7a4 := goodIn_r _ [49, 50, 51, 52] (by decide +kernel) (by decide +kernel)
set_option maxRecDepth 20000 in
theorem gX3_replace_J6_bitCount_0f7a4 : GoodIn wsX3_replace (va_wsS RX3 78 yJ6_bitCount_0f7a4 wsJ6_bitCount_0f7a4) := goodIn_app (goodIn_of _ (by decide +kernel)) ggX3_replace_J6_bitCount_0f7a4
set_option maxRecDepth 20000 in
theorem ggX3_replace_X3_stop : GoodIn wsX3_replace wsX3_stop := goodIn_r _ [56, 9, 57, 58, 59, 60, 61, 62, 63, 64, 65, 66, 67, 68, 69, 70, 71, 72, 73, 74] (by decide +kernel) (by decide +kernel)
set_option maxRecDepth 20000 in
theorem gX3_replace_X3_stop : GoodIn wsX3_replace (wsV RX3 96 RX3 yX3_stop wsX3_stop) := goodIn_app (goodIn_of _ (by decide +kernel)) ggX3_replace_X3_stop
theorem dX3_replace_0 : decode cX3_replace 0 = .ok (.aload_n 0, 1) := by decide +kernel
theorem dX3_replace_1 : decode cX3_replace 1 = .ok (.iconst 0, 1) := by decide +kernel
theorem dX3_replace_2 : decode cX3_replace 2 = .ok (.putfield 37, 3) := by decide +kernel
theorem dX3_replace_5 : decode cX3_replace 5 = .ok (.aload_n 0, 1) := by decide +kernel
theorem dX3_replace_6 : decode cX3_replace 6 = .ok (.iload_n 1, 1) := by decide +kernel
theorem dX3_replace_7 : decode cX3_replace 7 = .ok (.invokevirtual 86, 3) := by decide +kernel
theorem dX3_replace_10 : decode cX3_replace 10 = .ok (.ifCond .ne 9, 3) := by decide +kernel
theorem dX3_replace_13 : decode cX3_replace 13 = .ok (.aload_n 0, 1) := by decide +kernel
theorem dX3_replace_14 : decode cX3_replace 14 = .ok (.iconst 1, 1) := by decide +kernel
theorem dX3_replace_15 : decode cX3_replace 15 = .ok (.invokevirtual 64, 3) := by decide +kernel
theorem dX3_replace_18 : decode cX3_replace 18 = .ok (.ireturn, 1) := by decide +kernel
theorem dX3_replace_19 : decode cX3_replace 19 = .ok (.aload_n 0, 1) := by decide +kernel
theorem dX3_replace_20 : decode cX3_replace 20 = .ok (.getfield 9, 3) := by decide +kernel
theorem dX3_replace_23 : decode cX3_replace 23 = .ok (.iload_n 1, 1) := by decide +kernel
theorem dX3_replace_24 : decode cX3_replace 24 = .ok (.iaload, 1) := by decide +kernel
theorem dX3_replace_25 : decode cX3_replace 25 = .ok (.istore_n 2, 1) := by decide +kernel
theorem dX3_replace_26 : decode cX3_replace 26 = .ok (.aload_n 0, 1) := by decide +kernel
theorem dX3_replace_27 : decode cX3_replace 27 = .ok (.getfield 44, 3) := by decide +kernel
theorem dX3_replace_30 : decode cX3_replace 30 = .ok (.newarray .int, 2) := by decide +kernel
theorem dX3_replace_32 : decode cX3_replace 32 = .ok (.astore_n 3, 1) := by decide +kernel
theorem dX3_replace_33 : decode cX3_replace 33 = .ok (.iconst 0, 1) := by decide +kernel
theorem dX3_replace_34 : decode cX3_replace 34 = .ok (.istore 4, 2) := by decide +kernel
theorem dX3_replace_36 : decode cX3_replace 36 = .ok (.iload 4, 2) := by decide +kernel
theorem dX3_replace_38 : decode cX3_replace 38 = .ok (.aload_n 0, 1) := by decide +kernel
theorem dX3_replace_39 : decode cX3_replace 39 = .ok (.getfield 44, 3) := by decide +kernel
theorem dX3_replace_42 : decode cX3_replace 42 = .ok (.if_icmp .ge 19, 3) := by decide +kernel
theorem dX3_replace_45 : decode cX3_replace 45 = .ok (.aload_n 3, 1) := by decide +kernel
theorem dX3_replace_46 : decode cX3_replace 46 = .ok (.iload 4, 2) := by decide +kernel
theorem dX3_replace_48 : decode cX3_replace 48 = .ok (.aload_n 0, 1) := by decide +kernel
theorem dX3_replace_49 : decode cX3_replace 49 = .ok (.iload 4, 2) := by decide +kernel
theorem dX3_replace_51 : decode cX3_replace 51 = .ok (.invokevirtual 75, 3) := by decide +kernel
theorem dX3_replace_54 : decode cX3_replace 54 = .ok (.iastore, 1) := by decide +kernel
theorem dX3_replace_55 : decode cX3_replace 55 = .ok (.iinc 4 1, 3) := by decide +kernel
theorem dX3_replace_58 : decode cX3_replace 58 = .ok (.goto (-22), 3) := by decide +kernel
theorem dX3_replace_61 : decode cX3_replace 61 = .ok (.iconst (-1), 1) := by decide +kernel
theorem dX3_replace_62 : decode cX3_replace 62 = .ok (.istore 4, 2) := by decide +kernel
theorem dX3_replace_64 : decode cX3_replace 64 = .ok (.iconst 0, 1) := by decide +kernel
theorem dX3_replace_65 : decode cX3_replace 65 = .ok (.istore 5, 2) := by decide +kernel
theorem dX3_replace_67 : decode cX3_replace 67 = .ok (.iconst 0, 1) := by decide +kernel
theorem dX3_replace_68 : decode cX3_replace 68 = .ok (.istore 6, 2) := by decide +kernel
theorem dX3_replace_70 : decode cX3_replace 70 = .ok (.iconst 0, 1) := by decide +kernel
theorem dX3_replace_71 : decode cX3_replace 71 = .ok (.istore 7, 2) := by decide +kernel
theorem dX3_replace_73 : decode cX3_replace 73 = .ok (.iload 7, 2) := by decide +kernel
theorem dX3_replace_75 : decode cX3_replace 75 = .ok (.sipush 1024, 3) := by decide +kernel
theorem dX3_replace_78 : decode cX3_replace 78 = .ok (.if_icmp .ge 179, 3) := by decide +kernel
theorem dX3_replace_81 : decode cX3_replace 81 = .ok (.iconst 1, 1) := by decide +kernel
theorem dX3_replace_82 : decode cX3_replace 82 = .ok (.istore 8, 2) := by decide +kernel
theorem dX3_replace_84 : decode cX3_replace 84 = .ok (.iconst 0, 1) := by decide +kernel
theorem dX3_replace_85 : decode cX3_replace 85 = .ok (.istore 9, 2) := by decide +kernel
theorem dX3_replace_87 : decode cX3_replace 87 = .ok (.iload 9, 2) := by decide +kernel
theorem dX3_replace_89 : decode cX3_replace 89 = .ok (.aload_n 0, 1) := by decide +kernel
theorem dX3_replace_90 : decode cX3_replace 90 = .ok (.getfield 41, 3) := by decide +kernel
theorem dX3_replace_93 : decode cX3_replace 93 = .ok (.if_icmp .ge 43, 3) := by decide +kernel
theorem dX3_replace_96 : decode cX3_replace 96 = .ok (.iload 8, 2) := by decide +kernel
theorem dX3_replace_98 : decode cX3_replace 98 = .ok (.ifCond .eq 29, 3) := by decide +kernel
theorem dX3_replace_101 : decode cX3_replace 101 = .ok (.iload 9, 2) := by decide +kernel
theorem dX3_replace_103 : decode cX3_replace 103 = .ok (.iload_n 1, 1) := by decide +kernel
theorem dX3_replace_104 : decode cX3_replace 104 = .ok (.if_icmp .ne 7, 3) := by decide +kernel
theorem dX3_replace_107 : decode cX3_replace 107 = .ok (.iload_n 2, 1) := by decide +kernel
theorem dX3_replace_108 : decode cX3_replace 108 = .ok (.goto 10, 3) := by decide +kernel
theorem dX3_replace_111 : decode cX3_replace 111 = .ok (.aload_n 0, 1) := by decide +kernel
theorem dX3_replace_112 : decode cX3_replace 112 = .ok (.getfield 9, 3) := by decide +kernel
theorem dX3_replace_115 : decode cX3_replace 115 = .ok (.iload 9, 2) := by decide +kernel
theorem dX3_replace_117 : decode cX3_replace 117 = .ok (.iaload, 1) := by decide +kernel
theorem dX3_replace_118 : decode cX3_replace 118 = .ok (.iload 7, 2) := by decide +kernel
theorem dX3_replace_120 : decode cX3_replace 120 = .ok (.if_icmp .eq 7, 3) := by decide +kernel
theorem dX3_replace_123 : decode cX3_replace 123 = .ok (.iconst 1, 1) := by decide +kernel
theorem dX3_replace_124 : decode cX3_replace 124 = .ok (.goto 4, 3) := by decide +kernel
theorem dX3_replace_127 : decode cX3_replace 127 = .ok (.iconst 0, 1) := by decide +kernel
theorem dX3_replace_128 : decode cX3_replace 128 = .ok (.istore 8, 2) := by decide +kernel
theorem dX3_replace_130 : decode cX3_replace 130 = .ok (.iinc 9 1, 3) := by decide +kernel
theorem dX3_replace_133 : decode cX3_replace 133 = .ok (.goto (-46), 3) := by decide +kernel
theorem dX3_replace_136 : decode cX3_replace 136 = .ok (.iload 8, 2) := by decide +kernel
theorem dX3_replace_138 : decode cX3_replace 138 = .ok (.ifCond .ne 6, 3) := by decide +kernel
theorem dX3_replace_141 : decode cX3_replace 141 = .ok (.goto 110, 3) := by decide +kernel
theorem dX3_replace_144 : decode cX3_replace 144 = .ok (.aload_n 0, 1) := by decide +kernel
theorem dX3_replace_145 : decode cX3_replace 145 = .ok (.getfield 9, 3) := by decide +kernel
theorem dX3_replace_148 : decode cX3_replace 148 = .ok (.iload_n 1, 1) := by decide +kernel
theorem dX3_replace_149 : decode cX3_replace 149 = .ok (.iload 7, 2) := by decide +kernel
theorem dX3_replace_151 : decode cX3_replace 151 = .ok (.iastore, 1) := by decide +kernel
theorem dX3_replace_152 : decode cX3_replace 152 = .ok (.aload_n 0, 1) := by decide +kernel
theorem dX3_replace_153 : decode cX3_replace 153 = .ok (.iload_n 2, 1) := by decide +kernel
theorem dX3_replace_154 : decode cX3_replace 154 = .ok (.invokevirtual 89, 3) := by decide +kernel
theorem dX3_replace_157 : decode cX3_replace 157 = .ok (.ifCond .eq 6, 3) := by decide +kernel
theorem dX3_replace_160 : decode cX3_replace 160 = .ok (.goto 91, 3) := by decide +kernel
theorem dX3_replace_163 : decode cX3_replace 163 = .ok (.aload_n 0, 1) := by decide +kernel
theorem dX3_replace_164 : decode cX3_replace 164 = .ok (.invokevirtual 92, 3) := by decide +kernel
theorem dX3_replace_167 : decode cX3_replace 167 = .ok (.istore 9, 2) := by decide +kernel
theorem dX3_replace_169 : decode cX3_replace 169 = .ok (.iconst 0, 1) := by decide +kernel
theorem dX3_replace_170 : decode cX3_replace 170 = .ok (.istore 10, 2) := by decide +kernel
theorem dX3_replace_172 : decode cX3_replace 172 = .ok (.iconst 0, 1) := by decide +kernel
theorem dX3_replace_173 : decode cX3_replace 173 = .ok (.istore 11, 2) := by decide +kernel
theorem dX3_replace_175 : decode cX3_replace 175 = .ok (.iload 11, 2) := by decide +kernel
theorem dX3_replace_177 : decode cX3_replace 177 = .ok (.aload_n 0, 1) := by decide +kernel
theorem dX3_replace_178 : decode cX3_replace 178 = .ok (.getfield 44, 3) := by decide +kernel
theorem dX3_replace_181 : decode cX3_replace 181 = .ok (.if_icmp .ge 28, 3) := by decide +kernel
theorem dX3_replace_184 : decode cX3_replace 184 = .ok (.iload 10, 2) := by decide +kernel
theorem dX3_replace_186 : decode cX3_replace 186 = .ok (.aload_n 3, 1) := by decide +kernel
theorem dX3_replace_187 : decode cX3_replace 187 = .ok (.iload 11, 2) := by decide +kernel
theorem dX3_replace_189 : decode cX3_replace 189 = .ok (.iaload, 1) := by decide +kernel
theorem dX3_replace_190 : decode cX3_replace 190 = .ok (.aload_n 0, 1) := by decide +kernel
theorem dX3_replace_191 : decode cX3_replace 191 = .ok (.iload 11, 2) := by decide +kernel
theorem dX3_replace_193 : decode cX3_replace 193 = .ok (.invokevirtual 75, 3) := by decide +kernel
theorem dX3_replace_196 : decode cX3_replace 196 = .ok (.ixor, 1) := by decide +kernel
theorem dX3_replace_197 : decode cX3_replace 197 = .ok (.invokestatic 78, 3) := by decide +kernel
theorem dX3_replace_200 : decode cX3_replace 200 = .ok (.iadd, 1) := by decide +kernel
theorem dX3_replace_201 : decode cX3_replace 201 = .ok (.istore 10, 2) := by decide +kernel
theorem dX3_replace_203 : decode cX3_replace 203 = .ok (.iinc 11 1, 3) := by decide +kernel
theorem dX3_replace_206 : decode cX3_replace 206 = .ok (.goto (-31), 3) := by decide +kernel
theorem dX3_replace_209 : decode cX3_replace 209 = .ok (.iload 4, 2) := by decide +kernel
theorem dX3_replace_211 : decode cX3_replace 211 = .ok (.iconst (-1), 1) := by decide +kernel
theorem dX3_replace_212 : decode cX3_replace 212 = .ok (.if_icmp .eq 27, 3) := by decide +kernel
theorem dX3_replace_215 : decode cX3_replace 215 = .ok (.iload 9, 2) := by decide +kernel
theorem dX3_replace_217 : decode cX3_replace 217 = .ok (.iload 5, 2) := by decide +kernel
theorem dX3_replace_219 : decode cX3_replace 219 = .ok (.if_icmp .gt 32, 3) := by decide +kernel
theorem dX3_replace_222 : decode cX3_replace 222 = .ok (.iload 9, 2) := by decide +kernel
theorem dX3_replace_224 : decode cX3_replace 224 = .ok (.iload 5, 2) := by decide +kernel
theorem dX3_replace_226 : decode cX3_replace 226 = .ok (.if_icmp .ne 13, 3) := by decide +kernel
theorem dX3_replace_229 : decode cX3_replace 229 = .ok (.iload 10, 2) := by decide +kernel
theorem dX3_replace_231 : decode cX3_replace 231 = .ok (.iload 6, 2) := by decide +kernel
theorem dX3_replace_233 : decode cX3_replace 233 = .ok (.if_icmp .lt 6, 3) := by decide +kernel
theorem dX3_replace_236 : decode cX3_replace 236 = .ok (.goto 15, 3) := by decide +kernel
theorem dX3_replace_239 : decode cX3_replace 239 = .ok (.iload 7, 2) := by decide +kernel
theorem dX3_replace_241 : decode cX3_replace 241 = .ok (.istore 4, 2) := by decide +kernel
theorem dX3_replace_243 : decode cX3_replace 243 = .ok (.iload 9, 2) := by decide +kernel
theorem dX3_replace_245 : decode cX3_replace 245 = .ok (.istore 5, 2) := by decide +kernel
theorem dX3_replace_247 : decode cX3_replace 247 = .ok (.iload 10, 2) := by decide +kernel
theorem dX3_replace_249 : decode cX3_replace 249 = .ok (.istore 6, 2) := by decide +kernel
theorem dX3_replace_251 : decode cX3_replace 251 = .ok (.iinc 7 1, 3) := by decide +kernel
theorem dX3_replace_254 : decode cX3_replace 254 = .ok (.goto (-181), 3) := by decide +kernel
theorem dX3_replace_257 : decode cX3_replace 257 = .ok (.aload_n 0, 1) := by decide +kernel
theorem dX3_replace_258 : decode cX3_replace 258 = .ok (.getfield 9, 3) := by decide +kernel
theorem dX3_replace_261 : decode cX3_replace 261 = .ok (.iload_n 1, 1) := by decide +kernel
theorem dX3_replace_262 : decode cX3_replace 262 = .ok (.iload 4, 2) := by decide +kernel
theorem dX3_replace_264 : decode cX3_replace 264 = .ok (.iconst (-1), 1) := by decide +kernel
theorem dX3_replace_265 : decode cX3_replace 265 = .ok (.if_icmp .ne 7, 3) := by decide +kernel
theorem dX3_replace_268 : decode cX3_replace 268 = .ok (.iload_n 2, 1) := by decide +kernel
theorem dX3_replace_269 : decode cX3_replace 269 = .ok (.goto 5, 3) := by decide +kernel
theorem dX3_replace_272 : decode cX3_replace 272 = .ok (.iload 4, 2) := by decide +kernel
theorem dX3_replace_274 : decode cX3_replace 274 = .ok (.iastore, 1) := by decide +kernel
theorem dX3_replace_275 : decode cX3_replace 275 = .ok (.iload 4, 2) := by decide +kernel
theorem dX3_replace_277 : decode cX3_replace 277 = .ok (.iconst (-1), 1) := by decide +kernel
theorem dX3_replace_278 : decode cX3_replace 278 = .ok (.if_icmp .ne 5, 3) := by decide +kernel
theorem dX3_replace_281 : decode cX3_replace 281 = .ok (.iconst (-1), 1) := by decide +kernel
theorem dX3_replace_282 : decode cX3_replace 282 = .ok (.ireturn, 1) := by decide +kernel
theorem dX3_replace_283 : decode cX3_replace 283 = .ok (.aload_n 0, 1) := by decide +kernel
theorem dX3_replace_284 : decode cX3_replace 284 = .ok (.dup, 1) := by decide +kernel
theorem dX3_replace_285 : decode cX3_replace 285 = .ok (.getfield 72, 3) := by decide +kernel
theorem dX3_replace_288 : decode cX3_replace 288 = .ok (.iload 6, 2) := by decide +kernel
theorem dX3_replace_290 : decode cX3_replace 290 = .ok (.iadd, 1) := by decide +kernel
theorem dX3_replace_291 : decode cX3_replace 291 = .ok (.putfield 72, 3) := by decide +kernel
theorem dX3_replace_294 : decode cX3_replace 294 = .ok (.iconst 0, 1) := by decide +kernel
theorem dX3_replace_295 : decode cX3_replace 295 = .ok (.istore 7, 2) := by decide +kernel
theorem dX3_replace_297 : decode cX3_replace 297 = .ok (.iload 7, 2) := by decide +kernel
theorem dX3_replace_299 : decode cX3_replace 299 = .ok (.aload_n 0, 1) := by decide +kernel
theorem dX3_replace_300 : decode cX3_replace 300 = .ok (.getfield 47, 3) := by decide +kernel
theorem dX3_replace_303 : decode cX3_replace 303 = .ok (.if_icmp .ge 37, 3) := by decide +kernel
theorem dX3_replace_306 : decode cX3_replace 306 = .ok (.aload_n 0, 1) := by decide +kernel
theorem dX3_replace_307 : decode cX3_replace 307 = .ok (.getfield 16, 3) := by decide +kernel
theorem dX3_replace_310 : decode cX3_replace 310 = .ok (.iload 7, 2) := by decide +kernel
theorem dX3_replace_312 : decode cX3_replace 312 = .ok (.iaload, 1) := by decide +kernel
theorem dX3_replace_313 : decode cX3_replace 313 = .ok (.iload_n 1, 1) := by decide +kernel
theorem dX3_replace_314 : decode cX3_replace 314 = .ok (.if_icmp .eq 6, 3) := by decide +kernel
theorem dX3_replace_317 : decode cX3_replace 317 = .ok (.goto 17, 3) := by decide +kernel
theorem dX3_replace_320 : decode cX3_replace 320 = .ok (.aload_n 0, 1) := by decide +kernel
theorem dX3_replace_321 : decode cX3_replace 321 = .ok (.iload 7, 2) := by decide +kernel
theorem dX3_replace_323 : decode cX3_replace 323 = .ok (.invokevirtual 96, 3) := by decide +kernel
theorem dX3_replace_326 : decode cX3_replace 326 = .ok (.aload_n 0, 1) := by decide +kernel
theorem dX3_replace_327 : decode cX3_replace 327 = .ok (.getfield 19, 3) := by decide +kernel
theorem dX3_replace_330 : decode cX3_replace 330 = .ok (.iload 7, 2) := by decide +kernel
theorem dX3_replace_332 : decode cX3_replace 332 = .ok (.iconst 3, 1) := by decide +kernel
theorem dX3_replace_333 : decode cX3_replace 333 = .ok (.iastore, 1) := by decide +kernel
theorem dX3_replace_334 : decode cX3_replace 334 = .ok (.iinc 7 1, 3) := by decide +kernel
theorem dX3_replace_337 : decode cX3_replace 337 = .ok (.goto (-40), 3) := by decide +kernel
theorem dX3_replace_340 : decode cX3_replace 340 = .ok (.iload 4, 2) := by decide +kernel
theorem dX3_replace_342 : decode cX3_replace 342 = .ok (.ireturn, 1) := by decide +kernel
theorem dX3_stop_0 : decode cX3_stop 0 = .ok (.aload_n 0, 1) := by decide +kernel
theorem dX3_stop_1 : decode cX3_stop 1 = .ok (.getfield 19, 3) := by decide +kernel
theorem dX3_stop_4 : decode cX3_stop 4 = .ok (.iload_n 1, 1) := by decide +kernel
theorem dX3_stop_5 : decode cX3_stop 5 = .ok (.iaload, 1) := by decide +kernel
theorem dX3_stop_6 : decode cX3_stop 6 = .ok (.iconst 1, 1) := by decide +kernel
theorem dX3_stop_7 : decode cX3_stop 7 = .ok (.if_icmp .eq 4, 3) := by decide +kernel
theorem dX3_stop_10 : decode cX3_stop 10 = .ok (.return_, 1) := by decide +kernel
theorem dX3_stop_11 : decode cX3_stop 11 = .ok (.aload_n 0, 1) := by decide +kernel
theorem dX3_stop_12 : decode cX3_stop 12 = .ok (.getfield 34, 3) := by decide +kernel
theorem dX3_stop_15 : decode cX3_stop 15 = .ok (.bipush 9, 2) := by decide +kernel
theorem dX3_stop_17 : decode cX3_stop 17 = .ok (.iload_n 1, 1) := by decide +kernel
theorem dX3_stop_18 : decode cX3_stop 18 = .ok (.imul, 1) := by decide +kernel
theorem dX3_stop_19 : decode cX3_stop 19 = .ok (.aload_n 0, 1) := by decide +kernel
theorem dX3_stop_20 : decode cX3_stop 20 = .ok (.getfield 25, 3) := by decide +kernel
theorem dX3_stop_23 : decode cX3_stop 23 = .ok (.iload_n 1, 1) := by decide +kernel
theorem dX3_stop_24 : decode cX3_stop 24 = .ok (.iaload, 1) := by decide +kernel
theorem dX3_stop_25 : decode cX3_stop 25 = .ok (.iadd, 1) := by decide +kernel
theorem dX3_stop_26 : decode cX3_stop 26 = .ok (.iconst 1, 1) := by decide +kernel
theorem dX3_stop_27 : decode cX3_stop 27 = .ok (.isub, 1) := by decide +kernel
theorem dX3_stop_28 : decode cX3_stop 28 = .ok (.aload_n 0, 1) := by decide +kernel
theorem dX3_stop_29 : decode cX3_stop 29 = .ok (.getfield 100, 3) := by decide +kernel
theorem dX3_stop_32 : decode cX3_stop 32 = .ok (.iastore, 1) := by decide +kernel
theorem dX3_stop_33 : decode cX3_stop 33 = .ok (.return_, 1) := by decide +kernel
set_option maxRecDepth 20000 in
theorem ggX3_cut_X3_isKey : GoodIn wsX3_cut wsX3_isKey := goodIn_r _ [10, 11, 16, 17, 18, 19, 20, 21, 22, 23, 24, 25, 26, 27, 28, 29, 30] (by decide +kernel) (by decide +kernel)
set_option maxRecDepth 20000 in
theorem gX3_cut_X3_isKey : GoodIn wsX3_cut (wsV RX3 86 RX3 yX3_isKey wsX3_isKey) := goodIn_app (goodIn_of _ (by decide +kernel)) ggX3_cut_X3_isKey
set_option maxRecDepth 20000 in
theorem ggX3_cut_X3_fail : GoodIn wsX3_cut wsX3_fail := goodIn_r _ [15, 1, 16, 17, 18, 19, 20, 21, 22, 23, 24, 25, 26, 27, 28, 29, 30] (by decide +kernel) (by decide +kernel)
set_option maxRecDepth 20000 in
theorem gX3_cut_X3_fail : GoodIn wsX3_cut (wsV RX3 64 RX3 yX3_fail wsX3_fail) := goodIn_app (goodIn_of _ (by decide +kernel)) ggX3_cut_X3_fail
theorem dX3_cut_0 : decode cX3_cut 0 = .ok (.aload_n 0, 1) := by decide +kernel
theorem dX3_cut_1 : decode cX3_cut 1 = .ok (.iconst 0, 1) := by decide +kernel
theorem dX3_cut_2 : decode cX3_cut 2 = .ok (.putfield 37, 3) := by decide +kernel
theorem dX3_cut_5 : decode cX3_cut 5 = .ok (.aload_n 0, 1) := by decide +kernel
theorem dX3_cut_6 : decode cX3_cut 6 = .ok (.iload_n 1, 1) := by decide +kernel
theorem dX3_cut_7 : decode cX3_cut 7 = .ok (.invokevirtual 86, 3) := by decide +kernel
theorem dX3_cut_10 : decode cX3_cut 10 = .ok (.ifCond .ne 9, 3) := by decide +kernel
theorem dX3_cut_13 : decode cX3_cut 13 = .ok (.aload_n 0, 1) := by decide +kernel
theorem dX3_cut_14 : decode cX3_cut 14 = .ok (.iconst 1, 1) := by decide +kernel
theorem dX3_cut_15 : decode cX3_cut 15 = .ok (.invokevirtual 64, 3) := by decide +kernel
theorem dX3_cut_18 : decode cX3_cut 18 = .ok (.ireturn, 1) := by decide +kernel
theorem dX3_cut_19 : decode cX3_cut 19 = .ok (.aload_n 0, 1) := by decide +kernel
theorem dX3_cut_20 : decode cX3_cut 20 = .ok (.getfield 47, 3) := by decide +kernel
theorem dX3_cut_23 : decode cX3_cut 23 = .ok (.bipush 24, 2) := by decide +kernel
theorem dX3_cut_25 : decode cX3_cut 25 = .ok (.if_icmp .ne 9, 3) := by decide +kernel
theorem dX3_cut_28 : decode cX3_cut 28 = .ok (.aload_n 0, 1) := by decide +kernel
theorem dX3_cut_29 : decode cX3_cut 29 = .ok (.iconst 2, 1) := by decide +kernel
theorem dX3_cut_30 : decode cX3_cut 30 = .ok (.invokevirtual 64, 3) := by decide +kernel
theorem dX3_cut_33 : decode cX3_cut 33 = .ok (.ireturn, 1) := by decide +kernel
theorem dX3_cut_34 : decode cX3_cut 34 = .ok (.aload_n 0, 1) := by decide +kernel
theorem dX3_cut_35 : decode cX3_cut 35 = .ok (.getfield 16, 3) := by decide +kernel
theorem dX3_cut_38 : decode cX3_cut 38 = .ok (.aload_n 0, 1) := by decide +kernel
theorem dX3_cut_39 : decode cX3_cut 39 = .ok (.getfield 47, 3) := by decide +kernel
theorem dX3_cut_42 : decode cX3_cut 42 = .ok (.iload_n 1, 1) := by decide +kernel
theorem dX3_cut_43 : decode cX3_cut 43 = .ok (.iastore, 1) := by decide +kernel
theorem dX3_cut_44 : decode cX3_cut 44 = .ok (.aload_n 0, 1) := by decide +kernel
theorem dX3_cut_45 : decode cX3_cut 45 = .ok (.getfield 19, 3) := by decide +kernel
theorem dX3_cut_48 : decode cX3_cut 48 = .ok (.aload_n 0, 1) := by decide +kernel
theorem dX3_cut_49 : decode cX3_cut 49 = .ok (.getfield 47, 3) := by decide +kernel
theorem dX3_cut_52 : decode cX3_cut 52 = .ok (.iconst 0, 1) := by decide +kernel
theorem dX3_cut_53 : decode cX3_cut 53 = .ok (.iastore, 1) := by decide +kernel
theorem dX3_cut_54 : decode cX3_cut 54 = .ok (.aload_n 0, 1) := by decide +kernel
theorem dX3_cut_55 : decode cX3_cut 55 = .ok (.getfield 25, 3) := by decide +kernel
theorem dX3_cut_58 : decode cX3_cut 58 = .ok (.aload_n 0, 1) := by decide +kernel
theorem dX3_cut_59 : decode cX3_cut 59 = .ok (.getfield 47, 3) := by decide +kernel
theorem dX3_cut_62 : decode cX3_cut 62 = .ok (.iconst 0, 1) := by decide +kernel
theorem dX3_cut_63 : decode cX3_cut 63 = .ok (.iastore, 1) := by decide +kernel
theorem dX3_cut_64 : decode cX3_cut 64 = .ok (.aload_n 0, 1) := by decide +kernel
theorem dX3_cut_65 : decode cX3_cut 65 = .ok (.dup, 1) := by decide +kernel
theorem dX3_cut_66 : decode cX3_cut 66 = .ok (.getfield 47, 3) := by decide +kernel
theorem dX3_cut_69 : decode cX3_cut 69 = .ok (.iconst 1, 1) := by decide +kernel
theorem dX3_cut_70 : decode cX3_cut 70 = .ok (.iadd, 1) := by decide +kernel
theorem dX3_cut_71 : decode cX3_cut 71 = .ok (.putfield 47, 3) := by decide +kernel
theorem dX3_cut_74 : decode cX3_cut 74 = .ok (.aload_n 0, 1) := by decide +kernel
theorem dX3_cut_75 : decode cX3_cut 75 = .ok (.getfield 47, 3) := by decide +kernel
theorem dX3_cut_78 : decode cX3_cut 78 = .ok (.iconst 1, 1) := by decide +kernel
theorem dX3_cut_79 : decode cX3_cut 79 = .ok (.isub, 1) := by decide +kernel
theorem dX3_cut_80 : decode cX3_cut 80 = .ok (.ireturn, 1) := by decide +kernel
set_option maxRecDepth 20000 in
theorem ggX3_lend_X3_isCopy : GoodIn wsX3_lend wsX3_isCopy := goodIn_r _ [13, 14, 22, 23, 24, 25, 26, 27, 28, 29, 30, 31, 32, 33, 34, 35, 36] (by decide +kernel) (by decide +kernel)
set_option maxRecDepth 20000 in
theorem gX3_lend_X3_isCopy : GoodIn wsX3_lend (wsV RX3 103 RX3 yX3_isCopy wsX3_isCopy) := goodIn_app (goodIn_of _ (by decide +kernel)) ggX3_lend_X3_isCopy
set_option maxRecDepth 20000 in
theorem ggX3_lend_X3_isPerson : GoodIn wsX3_lend wsX3_isPerson := goodIn_r _ [17] (by decide +kernel) (by decide +kernel)
set_option maxRecDepth 20000 in
theorem gX3_lend_X3_isPerson : GoodIn wsX3_lend (va_wsS RX3 106 yX3_isPerson wsX3_isPerson) := goodIn_app (goodIn_of _ (by decide +kernel)) ggX3_lend_X3_isPerson
set_option maxRecDepth 20000 in
theorem ggX3_lend_X3_fail : GoodIn wsX3_lend wsX3_fail := goodIn_r _ [21, 1, 22, 23, 24, 25, 26, 27, 28, 29, 30, 31, 32, 33, 34, 35, 36] (by decide +kernel) (by decide +kernel)
set_option maxRecDepth 20000 in
theorem gX3_lend_X3_fail : GoodIn wsX3_lend (wsV RX3 64 RX3 yX3_fail wsX3_fail) := goodIn_app (goodIn_of _ (by decide +kernel)) ggX3_lend_X3_fail
theorem dX3_lend_0 : decode cX3_lend 0 = .ok (.aload_n 0, 1) := by decide +kernel
theorem dX3_lend_1 : decode cX3_lend 1 = .ok (.iconst 0, 1) := by decide +kernel
theorem dX3_lend_2 : decode cX3_lend 2 = .ok (.putfield 37, 3) := by decide +kernel
theorem dX3_lend_5 : decode cX3_lend 5 = .ok (.aload_n 0, 1) := by decide +kernel
theorem dX3_lend_6 : decode cX3_lend 6 = .ok (.iload_n 1, 1) := by decide +kernel
theorem dX3_lend_7 : decode cX3_lend 7 = .ok (.invokevirtual 103, 3) := by decide +kernel
theorem dX3_lend_10 : decode cX3_lend 10 = .ok (.ifCond .eq 10, 3) := by decide +kernel
theorem dX3_lend_13 : decode cX3_lend 13 = .ok (.iload_n 2, 1) := by decide +kernel
theorem dX3_lend_14 : decode cX3_lend 14 = .ok (.invokestatic 106, 3) := by decide +kernel
theorem dX3_lend_17 : decode cX3_lend 17 = .ok (.ifCond .ne 9, 3) := by decide +kernel
theorem dX3_lend_20 : decode cX3_lend 20 = .ok (.aload_n 0, 1) := by decide +kernel
theorem dX3_lend_21 : decode cX3_lend 21 = .ok (.iconst 1, 1) := by decide +kernel
theorem dX3_lend_22 : decode cX3_lend 22 = .ok (.invokevirtual 64, 3) := by decide +kernel
theorem dX3_lend_25 : decode cX3_lend 25 = .ok (.ireturn, 1) := by decide +kernel
theorem dX3_lend_26 : decode cX3_lend 26 = .ok (.iload_n 3, 1) := by decide +kernel
theorem dX3_lend_27 : decode cX3_lend 27 = .ok (.iconst 1, 1) := by decide +kernel
theorem dX3_lend_28 : decode cX3_lend 28 = .ok (.if_icmp .lt 9, 3) := by decide +kernel
theorem dX3_lend_31 : decode cX3_lend 31 = .ok (.iload_n 3, 1) := by decide +kernel
theorem dX3_lend_32 : decode cX3_lend 32 = .ok (.bipush 99, 2) := by decide +kernel
theorem dX3_lend_34 : decode cX3_lend 34 = .ok (.if_icmp .le 9, 3) := by decide +kernel
theorem dX3_lend_37 : decode cX3_lend 37 = .ok (.aload_n 0, 1) := by decide +kernel
theorem dX3_lend_38 : decode cX3_lend 38 = .ok (.iconst 2, 1) := by decide +kernel
theorem dX3_lend_39 : decode cX3_lend 39 = .ok (.invokevirtual 64, 3) := by decide +kernel
theorem dX3_lend_42 : decode cX3_lend 42 = .ok (.ireturn, 1) := by decide +kernel
theorem dX3_lend_43 : decode cX3_lend 43 = .ok (.aload_n 0, 1) := by decide +kernel
theorem dX3_lend_44 : decode cX3_lend 44 = .ok (.getfield 19, 3) := by decide +kernel
theorem dX3_lend_47 : decode cX3_lend 47 = .ok (.iload_n 1, 1) := by decide +kernel
theorem dX3_lend_48 : decode cX3_lend 48 = .ok (.iaload, 1) := by decide +kernel
theorem dX3_lend_49 : decode cX3_lend 49 = .ok (.ifCond .ne 14, 3) := by decide +kernel
theorem dX3_lend_52 : decode cX3_lend 52 = .ok (.aload_n 0, 1) := by decide +kernel
theorem dX3_lend_53 : decode cX3_lend 53 = .ok (.getfield 25, 3) := by decide +kernel
theorem dX3_lend_56 : decode cX3_lend 56 = .ok (.iload_n 1, 1) := by decide +kernel
theorem dX3_lend_57 : decode cX3_lend 57 = .ok (.iaload, 1) := by decide +kernel
theorem dX3_lend_58 : decode cX3_lend 58 = .ok (.bipush 9, 2) := by decide +kernel
theorem dX3_lend_60 : decode cX3_lend 60 = .ok (.if_icmp .ne 9, 3) := by decide +kernel
theorem dX3_lend_63 : decode cX3_lend 63 = .ok (.aload_n 0, 1) := by decide +kernel
theorem dX3_lend_64 : decode cX3_lend 64 = .ok (.iconst 3, 1) := by decide +kernel
theorem dX3_lend_65 : decode cX3_lend 65 = .ok (.invokevirtual 64, 3) := by decide +kernel
theorem dX3_lend_68 : decode cX3_lend 68 = .ok (.ireturn, 1) := by decide +kernel
theorem dX3_lend_69 : decode cX3_lend 69 = .ok (.bipush 9, 2) := by decide +kernel
theorem dX3_lend_71 : decode cX3_lend 71 = .ok (.iload_n 1, 1) := by decide +kernel
theorem dX3_lend_72 : decode cX3_lend 72 = .ok (.imul, 1) := by decide +kernel
theorem dX3_lend_73 : decode cX3_lend 73 = .ok (.aload_n 0, 1) := by decide +kernel
theorem dX3_lend_74 : decode cX3_lend 74 = .ok (.getfield 25, 3) := by decide +kernel
theorem dX3_lend_77 : decode cX3_lend 77 = .ok (.iload_n 1, 1) := by decide +kernel
theorem dX3_lend_78 : decode cX3_lend 78 = .ok (.iaload, 1) := by decide +kernel
theorem dX3_lend_79 : decode cX3_lend 79 = .ok (.iadd, 1) := by decide +kernel
theorem dX3_lend_80 : decode cX3_lend 80 = .ok (.istore 4, 2) := by decide +kernel
theorem dX3_lend_82 : decode cX3_lend 82 = .ok (.aload_n 0, 1) := by decide +kernel
theorem dX3_lend_83 : decode cX3_lend 83 = .ok (.getfield 28, 3) := by decide +kernel
theorem dX3_lend_86 : decode cX3_lend 86 = .ok (.iload 4, 2) := by decide +kernel
theorem dX3_lend_88 : decode cX3_lend 88 = .ok (.iload_n 2, 1) := by decide +kernel
theorem dX3_lend_89 : decode cX3_lend 89 = .ok (.iastore, 1) := by decide +kernel
theorem dX3_lend_90 : decode cX3_lend 90 = .ok (.aload_n 0, 1) := by decide +kernel
theorem dX3_lend_91 : decode cX3_lend 91 = .ok (.getfield 31, 3) := by decide +kernel
theorem dX3_lend_94 : decode cX3_lend 94 = .ok (.iload 4, 2) := by decide +kernel
theorem dX3_lend_96 : decode cX3_lend 96 = .ok (.aload_n 0, 1) := by decide +kernel
theorem dX3_lend_97 : decode cX3_lend 97 = .ok (.getfield 100, 3) := by decide +kernel
theorem dX3_lend_100 : decode cX3_lend 100 = .ok (.iastore, 1) := by decide +kernel
theorem dX3_lend_101 : decode cX3_lend 101 = .ok (.aload_n 0, 1) := by decide +kernel
theorem dX3_lend_102 : decode cX3_lend 102 = .ok (.getfield 34, 3) := by decide +kernel
theorem dX3_lend_105 : decode cX3_lend 105 = .ok (.iload 4, 2) := by decide +kernel
theorem dX3_lend_107 : decode cX3_lend 107 = .ok (.iconst (-1), 1) := by decide +kernel
theorem dX3_lend_108 : decode cX3_lend 108 = .ok (.iastore, 1) := by decide +kernel
theorem dX3_lend_109 : decode cX3_lend 109 = .ok (.aload_n 0, 1) := by decide +kernel
theorem dX3_lend_110 : decode cX3_lend 110 = .ok (.getfield 25, 3) := by decide +kernel
theorem dX3_lend_113 : decode cX3_lend 113 = .ok (.iload_n 1, 1) := by decide +kernel
theorem dX3_lend_114 : decode cX3_lend 114 = .ok (.dup2, 1) := by decide +kernel
theorem dX3_lend_115 : decode cX3_lend 115 = .ok (.iaload, 1) := by decide +kernel
theorem dX3_lend_116 : decode cX3_lend 116 = .ok (.iconst 1, 1) := by decide +kernel
theorem dX3_lend_117 : decode cX3_lend 117 = .ok (.iadd, 1) := by decide +kernel
theorem dX3_lend_118 : decode cX3_lend 118 = .ok (.iastore, 1) := by decide +kernel
theorem dX3_lend_119 : decode cX3_lend 119 = .ok (.aload_n 0, 1) := by decide +kernel
theorem dX3_lend_120 : decode cX3_lend 120 = .ok (.getfield 19, 3) := by decide +kernel
theorem dX3_lend_123 : decode cX3_lend 123 = .ok (.iload_n 1, 1) := by decide +kernel
theorem dX3_lend_124 : decode cX3_lend 124 = .ok (.iconst 1, 1) := by decide +kernel
theorem dX3_lend_125 : decode cX3_lend 125 = .ok (.iastore, 1) := by decide +kernel
theorem dX3_lend_126 : decode cX3_lend 126 = .ok (.aload_n 0, 1) := by decide +kernel
theorem dX3_lend_127 : decode cX3_lend 127 = .ok (.getfield 22, 3) := by decide +kernel
theorem dX3_lend_130 : decode cX3_lend 130 = .ok (.iload_n 1, 1) := by decide +kernel
theorem dX3_lend_131 : decode cX3_lend 131 = .ok (.aload_n 0, 1) := by decide +kernel
theorem dX3_lend_132 : decode cX3_lend 132 = .ok (.getfield 100, 3) := by decide +kernel
theorem dX3_lend_135 : decode cX3_lend 135 = .ok (.iload_n 3, 1) := by decide +kernel
theorem dX3_lend_136 : decode cX3_lend 136 = .ok (.iadd, 1) := by decide +kernel
theorem dX3_lend_137 : decode cX3_lend 137 = .ok (.iastore, 1) := by decide +kernel
theorem dX3_lend_138 : decode cX3_lend 138 = .ok (.aload_n 0, 1) := by decide +kernel
theorem dX3_lend_139 : decode cX3_lend 139 = .ok (.getfield 22, 3) := by decide +kernel
theorem dX3_lend_142 : decode cX3_lend 142 = .ok (.iload_n 1, 1) := by decide +kernel
theorem dX3_lend_143 : decode cX3_lend 143 = .ok (.iaload, 1) := by decide +kernel
theorem dX3_lend_144 : decode cX3_lend 144 = .ok (.ireturn, 1) := by decide +kernel
set_option maxRecDepth 20000 in
theorem ggX3_giveBack_X3_isCopy : GoodIn wsX3_giveBack wsX3_isCopy := goodIn_r _ [13, 14, 25, 26, 27, 28, 29, 30, 31, 32, 33, 34, 35, 36, 37, 38, 39] (by decide +kernel) (by decide +kernel)
set_option maxRecDepth 20000 in
theorem gX3_giveBack_X3_isCopy : GoodIn wsX3_giveBack (wsV RX3 103 RX3 yX3_isCopy wsX3_isCopy) := goodIn_app (goodIn_of _ (by decide +kernel)) ggX3_giveBack_X3_isCopy
set_option maxRecDepth 20000 in
theorem ggX3_giveBack_X3_fail : GoodIn wsX3_giveBack wsX3_fail := goodIn_r _ [18, 1, 25, 26, 27, 28, 29, 30, 31, 32, 33, 34, 35, 36, 37, 38, 39] (by decide +kernel) (by decide +kernel)
set_option maxRecDepth 20000 in
theorem gX3_giveBack_X3_fail : GoodIn wsX3_giveBack (wsV RX3 64 RX3 yX3_fail wsX3_fail) := goodIn_app (goodIn_of _ (by decide +kernel)) ggX3_giveBack_X3_fail
set_option maxRecDepth 20000 in
theorem ggX3_giveBack_X3_stop : GoodIn wsX3_giveBack wsX3_stop := goodIn_r _ [22, 2, 23, 24, 3, 25, 26, 27, 28, 29, 30, 31, 32, 33, 34, 35, 36, 37, 38, 39] (by decide +kernel) (by decide +kernel)
set_option maxRecDepth 20000 in
theorem gX3_giveBack_X3_stop : GoodIn wsX3_giveBack (wsV RX3 96 RX3 yX3_stop wsX3_stop) := goodIn_app (goodIn_of _ (by decide +kernel)) ggX3_giveBack_X3_stop
theorem dX3_giveBack_0 : decode cX3_giveBack 0 = .ok (.aload_n 0, 1) := by decide +kernel
theorem dX3_giveBack_1 : decode cX3_giveBack 1 = .ok (.iconst 0, 1) := by decide +kernel
theorem dX3_giveBack_2 : decode cX3_giveBack 2 = .ok (.putfield 37, 3) := by decide +kernel
theorem dX3_giveBack_5 : decode cX3_giveBack 5 = .ok (.aload_n 0, 1) := by decide +kernel
theorem dX3_giveBack_6 : decode cX3_giveBack 6 = .ok (.iload_n 1, 1) := by decide +kernel
theorem dX3_giveBack_7 : decode cX3_giveBack 7 = .ok (.invokevirtual 103, 3) := by decide +kernel
theorem dX3_giveBack_10 : decode cX3_giveBack 10 = .ok (.ifCond .ne 9, 3) := by decide +kernel
theorem dX3_giveBack_13 : decode cX3_giveBack 13 = .ok (.aload_n 0, 1) := by decide +kernel
theorem dX3_giveBack_14 : decode cX3_giveBack 14 = .ok (.iconst 1, 1) := by decide +kernel
theorem dX3_giveBack_15 : decode cX3_giveBack 15 = .ok (.invokevirtual 64, 3) := by decide +kernel
theorem dX3_giveBack_18 : decode cX3_giveBack 18 = .ok (.ireturn, 1) := by decide +kernel
theorem dX3_giveBack_19 : decode cX3_giveBack 19 = .ok (.aload_n 0, 1) := by decide +kernel
theorem dX3_giveBack_20 : decode cX3_giveBack 20 = .ok (.getfield 19, 3) := by decide +kernel
theorem dX3_giveBack_23 : decode cX3_giveBack 23 = .ok (.iload_n 1, 1) := by decide +kernel
theorem dX3_giveBack_24 : decode cX3_giveBack 24 = .ok (.iaload, 1) := by decide +kernel
theorem dX3_giveBack_25 : decode cX3_giveBack 25 = .ok (.iconst 1, 1) := by decide +kernel
theorem dX3_giveBack_26 : decode cX3_giveBack 26 = .ok (.if_icmp .eq 9, 3) := by decide +kernel
theorem dX3_giveBack_29 : decode cX3_giveBack 29 = .ok (.aload_n 0, 1) := by decide +kernel
theorem dX3_giveBack_30 : decode cX3_giveBack 30 = .ok (.iconst 2, 1) := by decide +kernel
theorem dX3_giveBack_31 : decode cX3_giveBack 31 = .ok (.invokevirtual 64, 3) := by decide +kernel
theorem dX3_giveBack_34 : decode cX3_giveBack 34 = .ok (.ireturn, 1) := by decide +kernel
theorem dX3_giveBack_35 : decode cX3_giveBack 35 = .ok (.aload_n 0, 1) := by decide +kernel
theorem dX3_giveBack_36 : decode cX3_giveBack 36 = .ok (.iload_n 1, 1) := by decide +kernel
theorem dX3_giveBack_37 : decode cX3_giveBack 37 = .ok (.invokevirtual 96, 3) := by decide +kernel
theorem dX3_giveBack_40 : decode cX3_giveBack 40 = .ok (.aload_n 0, 1) := by decide +kernel
theorem dX3_giveBack_41 : decode cX3_giveBack 41 = .ok (.getfield 19, 3) := by decide +kernel
theorem dX3_giveBack_44 : decode cX3_giveBack 44 = .ok (.iload_n 1, 1) := by decide +kernel
theorem dX3_giveBack_45 : decode cX3_giveBack 45 = .ok (.iconst 0, 1) := by decide +kernel
theorem dX3_giveBack_46 : decode cX3_giveBack 46 = .ok (.iastore, 1) := by decide +kernel
theorem dX3_giveBack_47 : decode cX3_giveBack 47 = .ok (.iconst 0, 1) := by decide +kernel
theorem dX3_giveBack_48 : decode cX3_giveBack 48 = .ok (.aload_n 0, 1) := by decide +kernel
theorem dX3_giveBack_49 : decode cX3_giveBack 49 = .ok (.getfield 100, 3) := by decide +kernel
theorem dX3_giveBack_52 : decode cX3_giveBack 52 = .ok (.aload_n 0, 1) := by decide +kernel
theorem dX3_giveBack_53 : decode cX3_giveBack 53 = .ok (.getfield 22, 3) := by decide +kernel
theorem dX3_giveBack_56 : decode cX3_giveBack 56 = .ok (.iload_n 1, 1) := by decide +kernel
theorem dX3_giveBack_57 : decode cX3_giveBack 57 = .ok (.iaload, 1) := by decide +kernel
theorem dX3_giveBack_58 : decode cX3_giveBack 58 = .ok (.isub, 1) := by decide +kernel
theorem dX3_giveBack_59 : decode cX3_giveBack 59 = .ok (.invokestatic 109, 3) := by decide +kernel
theorem dX3_giveBack_62 : decode cX3_giveBack 62 = .ok (.ireturn, 1) := by decide +kernel
set_option maxRecDepth 20000 in
theorem ggX3_riskyDoors_X3_doorsOf : GoodIn wsX3_riskyDoors wsX3_doorsOf := goodIn_r _ [9, 10, 11, 12, 13, 8, 14, 15, 16, 17, 18, 19, 20, 3, 21, 22, 23, 24, 25, 26, 27, 28, 29, 30, 31, 32, 33, 34, 35, 36, 37, 38, 39, 40, 41] (by decide +kernel) (by decide +kernel)
set_option maxRecDepth 20000 in
theorem gX3_riskyDoors_X3_doorsOf : GoodIn wsX3_riskyDoors (wsV RX3 89 RX3 yX3_doorsOf wsX3_doorsOf) := goodIn_app (goodIn_of _ (by decide +kernel)) ggX3_riskyDoors_X3_doorsOf
theorem dX3_riskyDoors_0 : decode cX3_riskyDoors 0 = .ok (.iconst 0, 1) := by decide +kernel
theorem dX3_riskyDoors_1 : decode cX3_riskyDoors 1 = .ok (.istore_n 1, 1) := by decide +kernel
theorem dX3_riskyDoors_2 : decode cX3_riskyDoors 2 = .ok (.iconst 0, 1) := by decide +kernel
theorem dX3_riskyDoors_3 : decode cX3_riskyDoors 3 = .ok (.istore_n 2, 1) := by decide +kernel
theorem dX3_riskyDoors_4 : decode cX3_riskyDoors 4 = .ok (.iload_n 2, 1) := by decide +kernel
theorem dX3_riskyDoors_5 : decode cX3_riskyDoors 5 = .ok (.aload_n 0, 1) := by decide +kernel
theorem dX3_riskyDoors_6 : decode cX3_riskyDoors 6 = .ok (.getfield 47, 3) := by decide +kernel
theorem dX3_riskyDoors_9 : decode cX3_riskyDoors 9 = .ok (.if_icmp .ge 37, 3) := by decide +kernel
theorem dX3_riskyDoors_12 : decode cX3_riskyDoors 12 = .ok (.aload_n 0, 1) := by decide +kernel
theorem dX3_riskyDoors_13 : decode cX3_riskyDoors 13 = .ok (.getfield 19, 3) := by decide +kernel
theorem dX3_riskyDoors_16 : decode cX3_riskyDoors 16 = .ok (.iload_n 2, 1) := by decide +kernel
theorem dX3_riskyDoors_17 : decode cX3_riskyDoors 17 = .ok (.iaload, 1) := by decide +kernel
theorem dX3_riskyDoors_18 : decode cX3_riskyDoors 18 = .ok (.iconst 2, 1) := by decide +kernel
theorem dX3_riskyDoors_19 : decode cX3_riskyDoors 19 = .ok (.if_icmp .ne 21, 3) := by decide +kernel
theorem dX3_riskyDoors_22 : decode cX3_riskyDoors 22 = .ok (.iload_n 1, 1) := by decide +kernel
theorem dX3_riskyDoors_23 : decode cX3_riskyDoors 23 = .ok (.aload_n 0, 1) := by decide +kernel
theorem dX3_riskyDoors_24 : decode cX3_riskyDoors 24 = .ok (.aload_n 0, 1) := by decide +kernel
theorem dX3_riskyDoors_25 : decode cX3_riskyDoors 25 = .ok (.getfield 9, 3) := by decide +kernel
theorem dX3_riskyDoors_28 : decode cX3_riskyDoors 28 = .ok (.aload_n 0, 1) := by decide +kernel
theorem dX3_riskyDoors_29 : decode cX3_riskyDoors 29 = .ok (.getfield 16, 3) := by decide +kernel
theorem dX3_riskyDoors_32 : decode cX3_riskyDoors 32 = .ok (.iload_n 2, 1) := by decide +kernel
theorem dX3_riskyDoors_33 : decode cX3_riskyDoors 33 = .ok (.iaload, 1) := by decide +kernel
theorem dX3_riskyDoors_34 : decode cX3_riskyDoors 34 = .ok (.iaload, 1) := by decide +kernel
theorem dX3_riskyDoors_35 : decode cX3_riskyDoors 35 = .ok (.invokevirtual 89, 3) := by decide +kernel
theorem dX3_riskyDoors_38 : decode cX3_riskyDoors 38 = .ok (.ior, 1) := by decide +kernel
theorem dX3_riskyDoors_39 : decode cX3_riskyDoors 39 = .ok (.istore_n 1, 1) := by decide +kernel
theorem dX3_riskyDoors_40 : decode cX3_riskyDoors 40 = .ok (.iinc 2 1, 3) := by decide +kernel
theorem dX3_riskyDoors_43 : decode cX3_riskyDoors 43 = .ok (.goto (-39), 3) := by decide +kernel
theorem dX3_riskyDoors_46 : decode cX3_riskyDoors 46 = .ok (.iload_n 1, 1) := by decide +kernel
theorem dX3_riskyDoors_47 : decode cX3_riskyDoors 47 = .ok (.ireturn, 1) := by decide +kernel
set_option maxRecDepth 20000 in
theorem ggX3_lose_X3_isCopy : GoodIn wsX3_lose wsX3_isCopy := goodIn_r _ [9, 10, 43, 44, 45, 46, 47, 48, 49, 50, 51, 52, 53, 54, 55, 56, 57] (by decide +kernel) (by decide +kernel)
set_option maxRecDepth 20000 in
theorem gX3_lose_X3_isCopy : GoodIn wsX3_lose (wsV RX3 103 RX3 yX3_isCopy wsX3_isCopy) := goodIn_app (goodIn_of _ (by decide +kernel)) ggX3_lose_X3_isCopy
set_option maxRecDepth 20000 in
theorem ggX3_lose_X3_fail : GoodIn wsX3_lose wsX3_fail := goodIn_r _ [14, 1, 43, 44, 45, 46, 47, 48, 49, 50, 51, 52, 53, 54, 55, 56, 57] (by decide +kernel) (by decide +kernel)
set_option maxRecDepth 20000 in
theorem gX3_lose_X3_fail : GoodIn wsX3_lose (wsV RX3 64 RX3 yX3_fail wsX3_fail) := goodIn_app (goodIn_of _ (by decide +kernel)) ggX3_lose_X3_fail
set_option maxRecDepth 20000 in
theorem ggX3_lose_X3_stop : GoodIn wsX3_lose wsX3_stop := goodIn_r _ [18, 2, 19, 20, 21, 43, 44, 45, 46, 47, 48, 49, 50, 51, 52, 53, 54, 55, 56, 57] (by decide +kernel) (by decide +kernel)
set_option maxRecDepth 20000 in
theorem gX3_lose_X3_stop : GoodIn wsX3_lose (wsV RX3 96 RX3 yX3_stop wsX3_stop) := goodIn_app (goodIn_of _ (by decide +kernel)) ggX3_lose_X3_stop
set_option maxRecDepth 20000 in
theorem ggX3_lose_X3_doorsOf : GoodIn wsX3_lose wsX3_doorsOf := goodIn_r _ [25, 26, 27, 28, 29, 8, 30, 31, 32, 33, 34, 35, 36, 3, 37, 38, 39, 40, 41, 42, 43, 44, 45, 46, 47, 48, 49, 50, 51, 52, 53, 54, 55, 56, 57] (by decide +kernel) (by decide +kernel)
set_option maxRecDepth 20000 in
theorem gX3_lose_X3_doorsOf : GoodIn wsX3_lose (wsV RX3 89 RX3 yX3_doorsOf wsX3_doorsOf) := goodIn_app (goodIn_of _ (by decide +kernel)) ggX3_lose_X3_doorsOf
theorem dX3_lose_0 : decode cX3_lose 0 = .ok (.aload_n 0, 1) := by decide +kernel
theorem dX3_lose_1 : decode cX3_lose 1 = .ok (.iconst 0, 1) := by decide +kernel
theorem dX3_lose_2 : decode cX3_lose 2 = .ok (.putfield 37, 3) := by decide +kernel
theorem dX3_lose_5 : decode cX3_lose 5 = .ok (.aload_n 0, 1) := by decide +kernel
theorem dX3_lose_6 : decode cX3_lose 6 = .ok (.iload_n 1, 1) := by decide +kernel
theorem dX3_lose_7 : decode cX3_lose 7 = .ok (.invokevirtual 103, 3) := by decide +kernel
theorem dX3_lose_10 : decode cX3_lose 10 = .ok (.ifCond .ne 9, 3) := by decide +kernel
theorem dX3_lose_13 : decode cX3_lose 13 = .ok (.aload_n 0, 1) := by decide +kernel
theorem dX3_lose_14 : decode cX3_lose 14 = .ok (.iconst 1, 1) := by decide +kernel
theorem dX3_lose_15 : decode cX3_lose 15 = .ok (.invokevirtual 64, 3) := by decide +kernel
theorem dX3_lose_18 : decode cX3_lose 18 = .ok (.ireturn, 1) := by decide +kernel
theorem dX3_lose_19 : decode cX3_lose 19 = .ok (.aload_n 0, 1) := by decide +kernel
theorem dX3_lose_20 : decode cX3_lose 20 = .ok (.getfield 19, 3) := by decide +kernel
theorem dX3_lose_23 : decode cX3_lose 23 = .ok (.iload_n 1, 1) := by decide +kernel
theorem dX3_lose_24 : decode cX3_lose 24 = .ok (.iaload, 1) := by decide +kernel
theorem dX3_lose_25 : decode cX3_lose 25 = .ok (.iconst 2, 1) := by decide +kernel
theorem dX3_lose_26 : decode cX3_lose 26 = .ok (.if_icmp .eq 13, 3) := by decide +kernel
theorem dX3_lose_29 : decode cX3_lose 29 = .ok (.aload_n 0, 1) := by decide +kernel
theorem dX3_lose_30 : decode cX3_lose 30 = .ok (.getfield 19, 3) := by decide +kernel
theorem dX3_lose_33 : decode cX3_lose 33 = .ok (.iload_n 1, 1) := by decide +kernel
theorem dX3_lose_34 : decode cX3_lose 34 = .ok (.iaload, 1) := by decide +kernel
theorem dX3_lose_35 : decode cX3_lose 35 = .ok (.iconst 3, 1) := by decide +kernel
theorem dX3_lose_36 : decode cX3_lose 36 = .ok (.if_icmp .ne 9, 3) := by decide +kernel
theorem dX3_lose_39 : decode cX3_lose 39 = .ok (.aload_n 0, 1) := by decide +kernel
theorem dX3_lose_40 : decode cX3_lose 40 = .ok (.iconst 2, 1) := by decide +kernel
theorem dX3_lose_41 : decode cX3_lose 41 = .ok (.invokevirtual 64, 3) := by decide +kernel
theorem dX3_lose_44 : decode cX3_lose 44 = .ok (.ireturn, 1) := by decide +kernel
theorem dX3_lose_45 : decode cX3_lose 45 = .ok (.aload_n 0, 1) := by decide +kernel
theorem dX3_lose_46 : decode cX3_lose 46 = .ok (.iload_n 1, 1) := by decide +kernel
theorem dX3_lose_47 : decode cX3_lose 47 = .ok (.invokevirtual 96, 3) := by decide +kernel
theorem dX3_lose_50 : decode cX3_lose 50 = .ok (.aload_n 0, 1) := by decide +kernel
theorem dX3_lose_51 : decode cX3_lose 51 = .ok (.getfield 19, 3) := by decide +kernel
theorem dX3_lose_54 : decode cX3_lose 54 = .ok (.iload_n 1, 1) := by decide +kernel
theorem dX3_lose_55 : decode cX3_lose 55 = .ok (.iconst 2, 1) := by decide +kernel
theorem dX3_lose_56 : decode cX3_lose 56 = .ok (.iastore, 1) := by decide +kernel
theorem dX3_lose_57 : decode cX3_lose 57 = .ok (.aload_n 0, 1) := by decide +kernel
theorem dX3_lose_58 : decode cX3_lose 58 = .ok (.aload_n 0, 1) := by decide +kernel
theorem dX3_lose_59 : decode cX3_lose 59 = .ok (.getfield 9, 3) := by decide +kernel
theorem dX3_lose_62 : decode cX3_lose 62 = .ok (.aload_n 0, 1) := by decide +kernel
theorem dX3_lose_63 : decode cX3_lose 63 = .ok (.getfield 16, 3) := by decide +kernel
theorem dX3_lose_66 : decode cX3_lose 66 = .ok (.iload_n 1, 1) := by decide +kernel
theorem dX3_lose_67 : decode cX3_lose 67 = .ok (.iaload, 1) := by decide +kernel
theorem dX3_lose_68 : decode cX3_lose 68 = .ok (.iaload, 1) := by decide +kernel
theorem dX3_lose_69 : decode cX3_lose 69 = .ok (.invokevirtual 89, 3) := by decide +kernel
theorem dX3_lose_72 : decode cX3_lose 72 = .ok (.ireturn, 1) := by decide +kernel
set_option maxRecDepth 20000 in
theorem ggX3_find_X3_isCopy : GoodIn wsX3_find wsX3_isCopy := goodIn_r _ [7, 8, 40, 41, 42, 43, 44, 45, 46, 47, 48, 49, 50, 51, 52, 53, 54] (by decide +kernel) (by decide +kernel)
set_option maxRecDepth 20000 in
theorem gX3_find_X3_isCopy : GoodIn wsX3_find (wsV RX3 103 RX3 yX3_isCopy wsX3_isCopy) := goodIn_app (goodIn_of _ (by decide +kernel)) ggX3_find_X3_isCopy
set_option maxRecDepth 20000 in
theorem ggX3_find_X3_fail : GoodIn wsX3_find wsX3_fail := goodIn_r _ [12, 1, 40, 41, 42, 43, 44, 45, 46, 47, 48, 49, 50, 51, 52, 53, 54] (by decide +kernel) (by decide +kernel)
set_option maxRecDepth 20000 in
theorem gX3_find_X3_fail : GoodIn wsX3_find (wsV RX3 64 RX3 yX3_fail wsX3_fail) := goodIn_app (goodIn_of _ (by decide +kernel)) ggX3_find_X3_fail
set_option maxRecDepth 20000 in
theorem ggX3_find_X3_riskyDoors : GoodIn wsX3_find wsX3_riskyDoors := goodIn_r _ [16, 8, 2, 17, 18, 19, 20, 21, 6, 22, 23, 24, 25, 26, 27, 28, 29, 30, 31, 32, 33, 34, 35, 36, 37, 38, 39, 40, 41, 42, 43, 44, 45, 46, 47, 48, 49, 50, 51, 52, 53, 54] (by decide +kernel) (by decide +kernel)
set_option maxRecDepth 20000 in
theorem gX3_find_X3_riskyDoors : GoodIn wsX3_find (wsV RX3 114 RX3 yX3_riskyDoors wsX3_riskyDoors) := goodIn_app (goodIn_of _ (by decide +kernel)) ggX3_find_X3_riskyDoors
theorem dX3_find_0 : decode cX3_find 0 = .ok (.aload_n 0, 1) := by decide +kernel
theorem dX3_find_1 : decode cX3_find 1 = .ok (.iconst 0, 1) := by decide +kernel
theorem dX3_find_2 : decode cX3_find 2 = .ok (.putfield 37, 3) := by decide +kernel
theorem dX3_find_5 : decode cX3_find 5 = .ok (.aload_n 0, 1) := by decide +kernel
theorem dX3_find_6 : decode cX3_find 6 = .ok (.iload_n 1, 1) := by decide +kernel
theorem dX3_find_7 : decode cX3_find 7 = .ok (.invokevirtual 103, 3) := by decide +kernel
theorem dX3_find_10 : decode cX3_find 10 = .ok (.ifCond .ne 9, 3) := by decide +kernel
theorem dX3_find_13 : decode cX3_find 13 = .ok (.aload_n 0, 1) := by decide +kernel
theorem dX3_find_14 : decode cX3_find 14 = .ok (.iconst 1, 1) := by decide +kernel
theorem dX3_find_15 : decode cX3_find 15 = .ok (.invokevirtual 64, 3) := by decide +kernel
theorem dX3_find_18 : decode cX3_find 18 = .ok (.ireturn, 1) := by decide +kernel
theorem dX3_find_19 : decode cX3_find 19 = .ok (.aload_n 0, 1) := by decide +kernel
theorem dX3_find_20 : decode cX3_find 20 = .ok (.getfield 19, 3) := by decide +kernel
theorem dX3_find_23 : decode cX3_find 23 = .ok (.iload_n 1, 1) := by decide +kernel
theorem dX3_find_24 : decode cX3_find 24 = .ok (.iaload, 1) := by decide +kernel
theorem dX3_find_25 : decode cX3_find 25 = .ok (.iconst 2, 1) := by decide +kernel
theorem dX3_find_26 : decode cX3_find 26 = .ok (.if_icmp .eq 9, 3) := by decide +kernel
theorem dX3_find_29 : decode cX3_find 29 = .ok (.aload_n 0, 1) := by decide +kernel
theorem dX3_find_30 : decode cX3_find 30 = .ok (.iconst 2, 1) := by decide +kernel
theorem dX3_find_31 : decode cX3_find 31 = .ok (.invokevirtual 64, 3) := by decide +kernel
theorem dX3_find_34 : decode cX3_find 34 = .ok (.ireturn, 1) := by decide +kernel
theorem dX3_find_35 : decode cX3_find 35 = .ok (.aload_n 0, 1) := by decide +kernel
theorem dX3_find_36 : decode cX3_find 36 = .ok (.getfield 19, 3) := by decide +kernel
theorem dX3_find_39 : decode cX3_find 39 = .ok (.iload_n 1, 1) := by decide +kernel
theorem dX3_find_40 : decode cX3_find 40 = .ok (.iconst 0, 1) := by decide +kernel
theorem dX3_find_41 : decode cX3_find 41 = .ok (.iastore, 1) := by decide +kernel
theorem dX3_find_42 : decode cX3_find 42 = .ok (.aload_n 0, 1) := by decide +kernel
theorem dX3_find_43 : decode cX3_find 43 = .ok (.invokevirtual 114, 3) := by decide +kernel
theorem dX3_find_46 : decode cX3_find 46 = .ok (.ireturn, 1) := by decide +kernel
set_option maxRecDepth 20000 in
theorem ggX3_pass_X3_fail : GoodIn wsX3_pass wsX3_fail := goodIn_r _ [7, 1, 8, 9, 10, 11, 12, 13, 14, 15, 16, 17, 18, 19, 20, 21, 22] (by decide +kernel) (by decide +kernel)
set_option maxRecDepth 20000 in
theorem gX3_pass_X3_fail : GoodIn wsX3_pass (wsV RX3 64 RX3 yX3_fail wsX3_fail) := goodIn_app (goodIn_of _ (by decide +kernel)) ggX3_pass_X3_fail
theorem dX3_pass_0 : decode cX3_pass 0 = .ok (.aload_n 0, 1) := by decide +kernel
theorem dX3_pass_1 : decode cX3_pass 1 = .ok (.iconst 0, 1) := by decide +kernel
theorem dX3_pass_2 : decode cX3_pass 2 = .ok (.putfield 37, 3) := by decide +kernel
theorem dX3_pass_5 : decode cX3_pass 5 = .ok (.iload_n 1, 1) := by decide +kernel
theorem dX3_pass_6 : decode cX3_pass 6 = .ok (.iconst 1, 1) := by decide +kernel
theorem dX3_pass_7 : decode cX3_pass 7 = .ok (.if_icmp .lt 9, 3) := by decide +kernel
theorem dX3_pass_10 : decode cX3_pass 10 = .ok (.iload_n 1, 1) := by decide +kernel
theorem dX3_pass_11 : decode cX3_pass 11 = .ok (.bipush 99, 2) := by decide +kernel
theorem dX3_pass_13 : decode cX3_pass 13 = .ok (.if_icmp .le 9, 3) := by decide +kernel
theorem dX3_pass_16 : decode cX3_pass 16 = .ok (.aload_n 0, 1) := by decide +kernel
theorem dX3_pass_17 : decode cX3_pass 17 = .ok (.iconst 1, 1) := by decide +kernel
theorem dX3_pass_18 : decode cX3_pass 18 = .ok (.invokevirtual 64, 3) := by decide +kernel
theorem dX3_pass_21 : decode cX3_pass 21 = .ok (.ireturn, 1) := by decide +kernel
theorem dX3_pass_22 : decode cX3_pass 22 = .ok (.aload_n 0, 1) := by decide +kernel
theorem dX3_pass_23 : decode cX3_pass 23 = .ok (.getfield 100, 3) := by decide +kernel
theorem dX3_pass_26 : decode cX3_pass 26 = .ok (.iload_n 1, 1) := by decide +kernel
theorem dX3_pass_27 : decode cX3_pass 27 = .ok (.iadd, 1) := by decide +kernel
theorem dX3_pass_28 : decode cX3_pass 28 = .ok (.sipush 9999, 3) := by decide +kernel
theorem dX3_pass_31 : decode cX3_pass 31 = .ok (.if_icmp .le 9, 3) := by decide +kernel
theorem dX3_pass_34 : decode cX3_pass 34 = .ok (.aload_n 0, 1) := by decide +kernel
theorem dX3_pass_35 : decode cX3_pass 35 = .ok (.iconst 2, 1) := by decide +kernel
theorem dX3_pass_36 : decode cX3_pass 36 = .ok (.invokevirtual 64, 3) := by decide +kernel
theorem dX3_pass_39 : decode cX3_pass 39 = .ok (.ireturn, 1) := by decide +kernel
theorem dX3_pass_40 : decode cX3_pass 40 = .ok (.aload_n 0, 1) := by decide +kernel
theorem dX3_pass_41 : decode cX3_pass 41 = .ok (.dup, 1) := by decide +kernel
theorem dX3_pass_42 : decode cX3_pass 42 = .ok (.getfield 100, 3) := by decide +kernel
theorem dX3_pass_45 : decode cX3_pass 45 = .ok (.iload_n 1, 1) := by decide +kernel
theorem dX3_pass_46 : decode cX3_pass 46 = .ok (.iadd, 1) := by decide +kernel
theorem dX3_pass_47 : decode cX3_pass 47 = .ok (.putfield 100, 3) := by decide +kernel
theorem dX3_pass_50 : decode cX3_pass 50 = .ok (.aload_n 0, 1) := by decide +kernel
theorem dX3_pass_51 : decode cX3_pass 51 = .ok (.getfield 100, 3) := by decide +kernel
theorem dX3_pass_54 : decode cX3_pass 54 = .ok (.ireturn, 1) := by decide +kernel
theorem dX3_today_0 : decode cX3_today 0 = .ok (.aload_n 0, 1) := by decide +kernel
theorem dX3_today_1 : decode cX3_today 1 = .ok (.iconst 0, 1) := by decide +kernel
theorem dX3_today_2 : decode cX3_today 2 = .ok (.putfield 37, 3) := by decide +kernel
theorem dX3_today_5 : decode cX3_today 5 = .ok (.aload_n 0, 1) := by decide +kernel
theorem dX3_today_6 : decode cX3_today 6 = .ok (.getfield 100, 3) := by decide +kernel
theorem dX3_today_9 : decode cX3_today 9 = .ok (.ireturn, 1) := by decide +kernel
theorem dX3_copyCount_0 : decode cX3_copyCount 0 = .ok (.aload_n 0, 1) := by decide +kernel
theorem dX3_copyCount_1 : decode cX3_copyCount 1 = .ok (.iconst 0, 1) := by decide +kernel
theorem dX3_copyCount_2 : decode cX3_copyCount 2 = .ok (.putfield 37, 3) := by decide +kernel
theorem dX3_copyCount_5 : decode cX3_copyCount 5 = .ok (.aload_n 0, 1) := by decide +kernel
theorem dX3_copyCount_6 : decode cX3_copyCount 6 = .ok (.getfield 47, 3) := by decide +kernel
theorem dX3_copyCount_9 : decode cX3_copyCount 9 = .ok (.ireturn, 1) := by decide +kernel
theorem dX3_told_0 : decode cX3_told 0 = .ok (.aload_n 0, 1) := by decide +kernel
theorem dX3_told_1 : decode cX3_told 1 = .ok (.getfield 19, 3) := by decide +kernel
theorem dX3_told_4 : decode cX3_told 4 = .ok (.iload_n 1, 1) := by decide +kernel
theorem dX3_told_5 : decode cX3_told 5 = .ok (.iaload, 1) := by decide +kernel
theorem dX3_told_6 : decode cX3_told 6 = .ok (.iconst 1, 1) := by decide +kernel
theorem dX3_told_7 : decode cX3_told 7 = .ok (.if_icmp .ne 7, 3) := by decide +kernel
theorem dX3_told_10 : decode cX3_told 10 = .ok (.iconst 1, 1) := by decide +kernel
theorem dX3_told_11 : decode cX3_told 11 = .ok (.goto 4, 3) := by decide +kernel
theorem dX3_told_14 : decode cX3_told 14 = .ok (.iconst 0, 1) := by decide +kernel
theorem dX3_told_15 : decode cX3_told 15 = .ok (.istore_n 3, 1) := by decide +kernel
theorem dX3_told_16 : decode cX3_told 16 = .ok (.iload_n 2, 1) := by decide +kernel
theorem dX3_told_17 : decode cX3_told 17 = .ok (.tableswitch 87 0 3 #[31, 38, 45, 72], 31) := by decide +kernel
theorem dX3_told_48 : decode cX3_told 48 = .ok (.aload_n 0, 1) := by decide +kernel
theorem dX3_told_49 : decode cX3_told 49 = .ok (.getfield 16, 3) := by decide +kernel
theorem dX3_told_52 : decode cX3_told 52 = .ok (.iload_n 1, 1) := by decide +kernel
theorem dX3_told_53 : decode cX3_told 53 = .ok (.iaload, 1) := by decide +kernel
theorem dX3_told_54 : decode cX3_told 54 = .ok (.ireturn, 1) := by decide +kernel
theorem dX3_told_55 : decode cX3_told 55 = .ok (.aload_n 0, 1) := by decide +kernel
theorem dX3_told_56 : decode cX3_told 56 = .ok (.getfield 19, 3) := by decide +kernel
theorem dX3_told_59 : decode cX3_told 59 = .ok (.iload_n 1, 1) := by decide +kernel
theorem dX3_told_60 : decode cX3_told 60 = .ok (.iaload, 1) := by decide +kernel
theorem dX3_told_61 : decode cX3_told 61 = .ok (.ireturn, 1) := by decide +kernel
theorem dX3_told_62 : decode cX3_told 62 = .ok (.iload_n 3, 1) := by decide +kernel
theorem dX3_told_63 : decode cX3_told 63 = .ok (.ifCond .eq 24, 3) := by decide +kernel
theorem dX3_told_66 : decode cX3_told 66 = .ok (.aload_n 0, 1) := by decide +kernel
theorem dX3_told_67 : decode cX3_told 67 = .ok (.getfield 28, 3) := by decide +kernel
theorem dX3_told_70 : decode cX3_told 70 = .ok (.bipush 9, 2) := by decide +kernel
theorem dX3_told_72 : decode cX3_told 72 = .ok (.iload_n 1, 1) := by decide +kernel
theorem dX3_told_73 : decode cX3_told 73 = .ok (.imul, 1) := by decide +kernel
theorem dX3_told_74 : decode cX3_told 74 = .ok (.aload_n 0, 1) := by decide +kernel
theorem dX3_told_75 : decode cX3_told 75 = .ok (.getfield 25, 3) := by decide +kernel
theorem dX3_told_78 : decode cX3_told 78 = .ok (.iload_n 1, 1) := by decide +kernel
theorem dX3_told_79 : decode cX3_told 79 = .ok (.iaload, 1) := by decide +kernel
theorem dX3_told_80 : decode cX3_told 80 = .ok (.iadd, 1) := by decide +kernel
theorem dX3_told_81 : decode cX3_told 81 = .ok (.iconst 1, 1) := by decide +kernel
theorem dX3_told_82 : decode cX3_told 82 = .ok (.isub, 1) := by decide +kernel
theorem dX3_told_83 : decode cX3_told 83 = .ok (.iaload, 1) := by decide +kernel
theorem dX3_told_84 : decode cX3_told 84 = .ok (.goto 4, 3) := by decide +kernel
theorem dX3_told_87 : decode cX3_told 87 = .ok (.iconst (-1), 1) := by decide +kernel
theorem dX3_told_88 : decode cX3_told 88 = .ok (.ireturn, 1) := by decide +kernel
theorem dX3_told_89 : decode cX3_told 89 = .ok (.iload_n 3, 1) := by decide +kernel
theorem dX3_told_90 : decode cX3_told 90 = .ok (.ifCond .eq 12, 3) := by decide +kernel
theorem dX3_told_93 : decode cX3_told 93 = .ok (.aload_n 0, 1) := by decide +kernel
theorem dX3_told_94 : decode cX3_told 94 = .ok (.getfield 22, 3) := by decide +kernel
theorem dX3_told_97 : decode cX3_told 97 = .ok (.iload_n 1, 1) := by decide +kernel
theorem dX3_told_98 : decode cX3_told 98 = .ok (.iaload, 1) := by decide +kernel
theorem dX3_told_99 : decode cX3_told 99 = .ok (.goto 4, 3) := by decide +kernel
theorem dX3_told_102 : decode cX3_told 102 = .ok (.iconst (-1), 1) := by decide +kernel
theorem dX3_told_103 : decode cX3_told 103 = .ok (.ireturn, 1) := by decide +kernel
theorem dX3_told_104 : decode cX3_told 104 = .ok (.aload_n 0, 1) := by decide +kernel
theorem dX3_told_105 : decode cX3_told 105 = .ok (.getfield 25, 3) := by decide +kernel
theorem dX3_told_108 : decode cX3_told 108 = .ok (.iload_n 1, 1) := by decide +kernel
theorem dX3_told_109 : decode cX3_told 109 = .ok (.iaload, 1) := by decide +kernel
theorem dX3_told_110 : decode cX3_told 110 = .ok (.ireturn, 1) := by decide +kernel
set_option maxRecDepth 20000 in
theorem ggX3_copy_X3_isCopy : GoodIn wsX3_copy wsX3_isCopy := goodIn_r _ [6, 7, 21, 22, 23, 24, 25, 26, 27, 28, 29, 30, 31, 32, 33, 34, 35] (by decide +kernel) (by decide +kernel)
set_option maxRecDepth 20000 in
theorem gX3_copy_X3_isCopy : GoodIn wsX3_copy (wsV RX3 103 RX3 yX3_isCopy wsX3_isCopy) := goodIn_app (goodIn_of _ (by decide +kernel)) ggX3_copy_X3_isCopy
set_option maxRecDepth 20000 in
theorem ggX3_copy_X3_told : GoodIn wsX3_copy wsX3_told := goodIn_r _ [11, 12, 13, 14, 15, 16, 21, 22, 23, 24, 25, 26, 27, 28, 29, 30, 31, 32, 33, 34, 35] (by decide +kernel) (by decide +kernel)
set_option maxRecDepth 20000 in
theorem gX3_copy_X3_told : GoodIn wsX3_copy (wsV RX3 117 RX3 yX3_told wsX3_told) := goodIn_app (goodIn_of _ (by decide +kernel)) ggX3_copy_X3_told
set_option maxRecDepth 20000 in
theorem ggX3_copy_X3_fail : GoodIn wsX3_copy wsX3_fail := goodIn_r _ [20, 1, 21, 22, 23, 24, 25, 26, 27, 28, 29, 30, 31, 32, 33, 34, 35] (by decide +kernel) (by decide +kernel)
set_option maxRecDepth 20000 in
theorem gX3_copy_X3_fail : GoodIn wsX3_copy (wsV RX3 64 RX3 yX3_fail wsX3_fail) := goodIn_app (goodIn_of _ (by decide +kernel)) ggX3_copy_X3_fail
theorem dX3_copy_0 : decode cX3_copy 0 = .ok (.aload_n 0, 1) := by decide +kernel
theorem dX3_copy_1 : decode cX3_copy 1 = .ok (.iconst 0, 1) := by decide +kernel
theorem dX3_copy_2 : decode cX3_copy 2 = .ok (.putfield 37, 3) := by decide +kernel
theorem dX3_copy_5 : decode cX3_copy 5 = .ok (.aload_n 0, 1) := by decide +kernel
theorem dX3_copy_6 : decode cX3_copy 6 = .ok (.iload_n 1, 1) := by decide +kernel
theorem dX3_copy_7 : decode cX3_copy 7 = .ok (.invokevirtual 103, 3) := by decide +kernel
theorem dX3_copy_10 : decode cX3_copy 10 = .ok (.ifCond .eq 21, 3) := by decide +kernel
theorem dX3_copy_13 : decode cX3_copy 13 = .ok (.iload_n 2, 1) := by decide +kernel
theorem dX3_copy_14 : decode cX3_copy 14 = .ok (.ifCond .lt 17, 3) := by decide +kernel
theorem dX3_copy_17 : decode cX3_copy 17 = .ok (.iload_n 2, 1) := by decide +kernel
theorem dX3_copy_18 : decode cX3_copy 18 = .ok (.iconst 4, 1) := by decide +kernel
theorem dX3_copy_19 : decode cX3_copy 19 = .ok (.if_icmp .gt 12, 3) := by decide +kernel
theorem dX3_copy_22 : decode cX3_copy 22 = .ok (.aload_n 0, 1) := by decide +kernel
theorem dX3_copy_23 : decode cX3_copy 23 = .ok (.iload_n 1, 1) := by decide +kernel
theorem dX3_copy_24 : decode cX3_copy 24 = .ok (.iload_n 2, 1) := by decide +kernel
theorem dX3_copy_25 : decode cX3_copy 25 = .ok (.invokevirtual 117, 3) := by decide +kernel
theorem dX3_copy_28 : decode cX3_copy 28 = .ok (.goto 8, 3) := by decide +kernel
theorem dX3_copy_31 : decode cX3_copy 31 = .ok (.aload_n 0, 1) := by decide +kernel
theorem dX3_copy_32 : decode cX3_copy 32 = .ok (.iconst 1, 1) := by decide +kernel
theorem dX3_copy_33 : decode cX3_copy 33 = .ok (.invokevirtual 64, 3) := by decide +kernel
theorem dX3_copy_36 : decode cX3_copy 36 = .ok (.ireturn, 1) := by decide +kernel
theorem dX3_overdue_0 : decode cX3_overdue 0 = .ok (.aload_n 0, 1) := by decide +kernel
theorem dX3_overdue_1 : decode cX3_overdue 1 = .ok (.iconst 0, 1) := by decide +kernel
theorem dX3_overdue_2 : decode cX3_overdue 2 = .ok (.putfield 37, 3) := by decide +kernel
theorem dX3_overdue_5 : decode cX3_overdue 5 = .ok (.iconst 0, 1) := by decide +kernel
theorem dX3_overdue_6 : decode cX3_overdue 6 = .ok (.istore_n 1, 1) := by decide +kernel
theorem dX3_overdue_7 : decode cX3_overdue 7 = .ok (.iconst 0, 1) := by decide +kernel
theorem dX3_overdue_8 : decode cX3_overdue 8 = .ok (.istore_n 2, 1) := by decide +kernel
theorem dX3_overdue_9 : decode cX3_overdue 9 = .ok (.iload_n 2, 1) := by decide +kernel
theorem dX3_overdue_10 : decode cX3_overdue 10 = .ok (.aload_n 0, 1) := by decide +kernel
theorem dX3_overdue_11 : decode cX3_overdue 11 = .ok (.getfield 47, 3) := by decide +kernel
theorem dX3_overdue_14 : decode cX3_overdue 14 = .ok (.if_icmp .ge 38, 3) := by decide +kernel
theorem dX3_overdue_17 : decode cX3_overdue 17 = .ok (.aload_n 0, 1) := by decide +kernel
theorem dX3_overdue_18 : decode cX3_overdue 18 = .ok (.getfield 19, 3) := by decide +kernel
theorem dX3_overdue_21 : decode cX3_overdue 21 = .ok (.iload_n 2, 1) := by decide +kernel
theorem dX3_overdue_22 : decode cX3_overdue 22 = .ok (.iaload, 1) := by decide +kernel
theorem dX3_overdue_23 : decode cX3_overdue 23 = .ok (.iconst 1, 1) := by decide +kernel
theorem dX3_overdue_24 : decode cX3_overdue 24 = .ok (.if_icmp .ne 22, 3) := by decide +kernel
theorem dX3_overdue_27 : decode cX3_overdue 27 = .ok (.aload_n 0, 1) := by decide +kernel
theorem dX3_overdue_28 : decode cX3_overdue 28 = .ok (.getfield 100, 3) := by decide +kernel
theorem dX3_overdue_31 : decode cX3_overdue 31 = .ok (.aload_n 0, 1) := by decide +kernel
theorem dX3_overdue_32 : decode cX3_overdue 32 = .ok (.getfield 22, 3) := by decide +kernel
theorem dX3_overdue_35 : decode cX3_overdue 35 = .ok (.iload_n 2, 1) := by decide +kernel
theorem dX3_overdue_36 : decode cX3_overdue 36 = .ok (.iaload, 1) := by decide +kernel
theorem dX3_overdue_37 : decode cX3_overdue 37 = .ok (.if_icmp .le 9, 3) := by decide +kernel
theorem dX3_overdue_40 : decode cX3_overdue 40 = .ok (.iload_n 1, 1) := by decide +kernel
theorem dX3_overdue_41 : decode cX3_overdue 41 = .ok (.iconst 1, 1) := by decide +kernel
theorem dX3_overdue_42 : decode cX3_overdue 42 = .ok (.iload_n 2, 1) := by decide +kernel
theorem dX3_overdue_43 : decode cX3_overdue 43 = .ok (.ishl, 1) := by decide +kernel
theorem dX3_overdue_44 : decode cX3_overdue 44 = .ok (.ior, 1) := by decide +kernel
theorem dX3_overdue_45 : decode cX3_overdue 45 = .ok (.istore_n 1, 1) := by decide +kernel
theorem dX3_overdue_46 : decode cX3_overdue 46 = .ok (.iinc 2 1, 3) := by decide +kernel
theorem dX3_overdue_49 : decode cX3_overdue 49 = .ok (.goto (-40), 3) := by decide +kernel
theorem dX3_overdue_52 : decode cX3_overdue 52 = .ok (.iload_n 1, 1) := by decide +kernel
theorem dX3_overdue_53 : decode cX3_overdue 53 = .ok (.ireturn, 1) := by decide +kernel
set_option maxRecDepth 20000 in
theorem ggX3_holderAt_X3_isCopy : GoodIn wsX3_holderAt wsX3_isCopy := goodIn_r _ [11, 12, 17, 18, 19, 20, 21, 22, 23, 24, 25, 26, 27, 28, 29, 30, 31] (by decide +kernel) (by decide +kernel)
set_option maxRecDepth 20000 in
theorem gX3_holderAt_X3_isCopy : GoodIn wsX3_holderAt (wsV RX3 103 RX3 yX3_isCopy wsX3_isCopy) := goodIn_app (goodIn_of _ (by decide +kernel)) ggX3_holderAt_X3_isCopy
set_option maxRecDepth 20000 in
theorem ggX3_holderAt_X3_fail : GoodIn wsX3_holderAt wsX3_fail := goodIn_r _ [16, 1, 17, 18, 19, 20, 21, 22, 23, 24, 25, 26, 27, 28, 29, 30, 31] (by decide +kernel) (by decide +kernel)
set_option maxRecDepth 20000 in
theorem gX3_holderAt_X3_fail : GoodIn wsX3_holderAt (wsV RX3 64 RX3 yX3_fail wsX3_fail) := goodIn_app (goodIn_of _ (by decide +kernel)) ggX3_holderAt_X3_fail
theorem dX3_holderAt_0 : decode cX3_holderAt 0 = .ok (.aload_n 0, 1) := by decide +kernel
theorem dX3_holderAt_1 : decode cX3_holderAt 1 = .ok (.iconst 0, 1) := by decide +kernel
theorem dX3_holderAt_2 : decode cX3_holderAt 2 = .ok (.putfield 37, 3) := by decide +kernel
theorem dX3_holderAt_5 : decode cX3_holderAt 5 = .ok (.aload_n 0, 1) := by decide +kernel
theorem dX3_holderAt_6 : decode cX3_holderAt 6 = .ok (.iload_n 1, 1) := by decide +kernel
theorem dX3_holderAt_7 : decode cX3_holderAt 7 = .ok (.invokevirtual 103, 3) := by decide +kernel
theorem dX3_holderAt_10 : decode cX3_holderAt 10 = .ok (.ifCond .ne 9, 3) := by decide +kernel
theorem dX3_holderAt_13 : decode cX3_holderAt 13 = .ok (.aload_n 0, 1) := by decide +kernel
theorem dX3_holderAt_14 : decode cX3_holderAt 14 = .ok (.iconst 1, 1) := by decide +kernel
theorem dX3_holderAt_15 : decode cX3_holderAt 15 = .ok (.invokevirtual 64, 3) := by decide +kernel
theorem dX3_holderAt_18 : decode cX3_holderAt 18 = .ok (.ireturn, 1) := by decide +kernel
theorem dX3_holderAt_19 : decode cX3_holderAt 19 = .ok (.iload_n 2, 1) := by decide +kernel
theorem dX3_holderAt_20 : decode cX3_holderAt 20 = .ok (.ifCond .lt 11, 3) := by decide +kernel
theorem dX3_holderAt_23 : decode cX3_holderAt 23 = .ok (.iload_n 2, 1) := by decide +kernel
theorem dX3_holderAt_24 : decode cX3_holderAt 24 = .ok (.aload_n 0, 1) := by decide +kernel
theorem dX3_holderAt_25 : decode cX3_holderAt 25 = .ok (.getfield 100, 3) := by decide +kernel
theorem dX3_holderAt_28 : decode cX3_holderAt 28 = .ok (.if_icmp .le 9, 3) := by decide +kernel
theorem dX3_holderAt_31 : decode cX3_holderAt 31 = .ok (.aload_n 0, 1) := by decide +kernel
theorem dX3_holderAt_32 : decode cX3_holderAt 32 = .ok (.iconst 2, 1) := by decide +kernel
theorem dX3_holderAt_33 : decode cX3_holderAt 33 = .ok (.invokevirtual 64, 3) := by decide +kernel
theorem dX3_holderAt_36 : decode cX3_holderAt 36 = .ok (.ireturn, 1) := by decide +kernel
theorem dX3_holderAt_37 : decode cX3_holderAt 37 = .ok (.iconst (-1), 1) := by decide +kernel
theorem dX3_holderAt_38 : decode cX3_holderAt 38 = .ok (.istore_n 3, 1) := by decide +kernel
theorem dX3_holderAt_39 : decode cX3_holderAt 39 = .ok (.iconst 0, 1) := by decide +kernel
theorem dX3_holderAt_40 : decode cX3_holderAt 40 = .ok (.istore 4, 2) := by decide +kernel
theorem dX3_holderAt_42 : decode cX3_holderAt 42 = .ok (.iload 4, 2) := by decide +kernel
theorem dX3_holderAt_44 : decode cX3_holderAt 44 = .ok (.aload_n 0, 1) := by decide +kernel
theorem dX3_holderAt_45 : decode cX3_holderAt 45 = .ok (.getfield 25, 3) := by decide +kernel
theorem dX3_holderAt_48 : decode cX3_holderAt 48 = .ok (.iload_n 1, 1) := by decide +kernel
theorem dX3_holderAt_49 : decode cX3_holderAt 49 = .ok (.iaload, 1) := by decide +kernel
theorem dX3_holderAt_50 : decode cX3_holderAt 50 = .ok (.if_icmp .ge 59, 3) := by decide +kernel
theorem dX3_holderAt_53 : decode cX3_holderAt 53 = .ok (.bipush 9, 2) := by decide +kernel
theorem dX3_holderAt_55 : decode cX3_holderAt 55 = .ok (.iload_n 1, 1) := by decide +kernel
theorem dX3_holderAt_56 : decode cX3_holderAt 56 = .ok (.imul, 1) := by decide +kernel
theorem dX3_holderAt_57 : decode cX3_holderAt 57 = .ok (.iload 4, 2) := by decide +kernel
theorem dX3_holderAt_59 : decode cX3_holderAt 59 = .ok (.iadd, 1) := by decide +kernel
theorem dX3_holderAt_60 : decode cX3_holderAt 60 = .ok (.istore 5, 2) := by decide +kernel
theorem dX3_holderAt_62 : decode cX3_holderAt 62 = .ok (.aload_n 0, 1) := by decide +kernel
theorem dX3_holderAt_63 : decode cX3_holderAt 63 = .ok (.getfield 31, 3) := by decide +kernel
theorem dX3_holderAt_66 : decode cX3_holderAt 66 = .ok (.iload 5, 2) := by decide +kernel
theorem dX3_holderAt_68 : decode cX3_holderAt 68 = .ok (.iaload, 1) := by decide +kernel
theorem dX3_holderAt_69 : decode cX3_holderAt 69 = .ok (.iload_n 2, 1) := by decide +kernel
theorem dX3_holderAt_70 : decode cX3_holderAt 70 = .ok (.if_icmp .gt 33, 3) := by decide +kernel
theorem dX3_holderAt_73 : decode cX3_holderAt 73 = .ok (.aload_n 0, 1) := by decide +kernel
theorem dX3_holderAt_74 : decode cX3_holderAt 74 = .ok (.getfield 34, 3) := by decide +kernel
theorem dX3_holderAt_77 : decode cX3_holderAt 77 = .ok (.iload 5, 2) := by decide +kernel
theorem dX3_holderAt_79 : decode cX3_holderAt 79 = .ok (.iaload, 1) := by decide +kernel
theorem dX3_holderAt_80 : decode cX3_holderAt 80 = .ok (.iconst (-1), 1) := by decide +kernel
theorem dX3_holderAt_81 : decode cX3_holderAt 81 = .ok (.if_icmp .eq 14, 3) := by decide +kernel
theorem dX3_holderAt_84 : decode cX3_holderAt 84 = .ok (.iload_n 2, 1) := by decide +kernel
theorem dX3_holderAt_85 : decode cX3_holderAt 85 = .ok (.aload_n 0, 1) := by decide +kernel
theorem dX3_holderAt_86 : decode cX3_holderAt 86 = .ok (.getfield 34, 3) := by decide +kernel
theorem dX3_holderAt_89 : decode cX3_holderAt 89 = .ok (.iload 5, 2) := by decide +kernel
theorem dX3_holderAt_91 : decode cX3_holderAt 91 = .ok (.iaload, 1) := by decide +kernel
theorem dX3_holderAt_92 : decode cX3_holderAt 92 = .ok (.if_icmp .ge 11, 3) := by decide +kernel
theorem dX3_holderAt_95 : decode cX3_holderAt 95 = .ok (.aload_n 0, 1) := by decide +kernel
theorem dX3_holderAt_96 : decode cX3_holderAt 96 = .ok (.getfield 28, 3) := by decide +kernel
theorem dX3_holderAt_99 : decode cX3_holderAt 99 = .ok (.iload 5, 2) := by decide +kernel
theorem dX3_holderAt_101 : decode cX3_holderAt 101 = .ok (.iaload, 1) := by decide +kernel
theorem dX3_holderAt_102 : decode cX3_holderAt 102 = .ok (.istore_n 3, 1) := by decide +kernel
theorem dX3_holderAt_103 : decode cX3_holderAt 103 = .ok (.iinc 4 1, 3) := by decide +kernel
theorem dX3_holderAt_106 : decode cX3_holderAt 106 = .ok (.goto (-64), 3) := by decide +kernel
theorem dX3_holderAt_109 : decode cX3_holderAt 109 = .ok (.iload_n 3, 1) := by decide +kernel
theorem dX3_holderAt_110 : decode cX3_holderAt 110 = .ok (.ireturn, 1) := by decide +kernel
set_option maxRecDepth 20000 in
theorem ggX3_reachOf_X3_told : GoodIn wsX3_reachOf wsX3_told := goodIn_r _ [9, 2, 4, 10, 11, 12, 34, 35, 36, 37, 38, 39, 40, 41, 42, 43, 44, 45, 46, 47, 48] (by decide +kernel) (by decide +kernel)
set_option maxRecDepth 20000 in
theorem gX3_reachOf_X3_told : GoodIn wsX3_reachOf (wsV RX3 117 RX3 yX3_told wsX3_told) := goodIn_app (goodIn_of _ (by decide +kernel)) ggX3_reachOf_X3_told
set_option maxRecDepth 20000 in
theorem ggX3_reachOf_X3_doorsOf : GoodIn wsX3_reachOf wsX3_doorsOf := goodIn_r _ [16, 17, 18, 19, 20, 8, 21, 22, 23, 24, 25, 26, 27, 3, 28, 29, 30, 31, 32, 33, 34, 35, 36, 37, 38, 39, 40, 41, 42, 43, 44, 45, 46, 47, 48] (by decide +kernel) (by decide +kernel)
set_option maxRecDepth 20000 in
theorem gX3_reachOf_X3_doorsOf : GoodIn wsX3_reachOf (wsV RX3 89 RX3 yX3_doorsOf wsX3_doorsOf) := goodIn_app (goodIn_of _ (by decide +kernel)) ggX3_reachOf_X3_doorsOf
theorem dX3_reachOf_0 : decode cX3_reachOf 0 = .ok (.iconst 0, 1) := by decide +kernel
theorem dX3_reachOf_1 : decode cX3_reachOf 1 = .ok (.istore_n 2, 1) := by decide +kernel
theorem dX3_reachOf_2 : decode cX3_reachOf 2 = .ok (.iconst 0, 1) := by decide +kernel
theorem dX3_reachOf_3 : decode cX3_reachOf 3 = .ok (.istore_n 3, 1) := by decide +kernel
theorem dX3_reachOf_4 : decode cX3_reachOf 4 = .ok (.iload_n 3, 1) := by decide +kernel
theorem dX3_reachOf_5 : decode cX3_reachOf 5 = .ok (.aload_n 0, 1) := by decide +kernel
theorem dX3_reachOf_6 : decode cX3_reachOf 6 = .ok (.getfield 47, 3) := by decide +kernel
theorem dX3_reachOf_9 : decode cX3_reachOf 9 = .ok (.if_icmp .ge 47, 3) := by decide +kernel
theorem dX3_reachOf_12 : decode cX3_reachOf 12 = .ok (.aload_n 0, 1) := by decide +kernel
theorem dX3_reachOf_13 : decode cX3_reachOf 13 = .ok (.getfield 19, 3) := by decide +kernel
theorem dX3_reachOf_16 : decode cX3_reachOf 16 = .ok (.iload_n 3, 1) := by decide +kernel
theorem dX3_reachOf_17 : decode cX3_reachOf 17 = .ok (.iaload, 1) := by decide +kernel
theorem dX3_reachOf_18 : decode cX3_reachOf 18 = .ok (.iconst 1, 1) := by decide +kernel
theorem dX3_reachOf_19 : decode cX3_reachOf 19 = .ok (.if_icmp .ne 31, 3) := by decide +kernel
theorem dX3_reachOf_22 : decode cX3_reachOf 22 = .ok (.aload_n 0, 1) := by decide +kernel
theorem dX3_reachOf_23 : decode cX3_reachOf 23 = .ok (.iload_n 3, 1) := by decide +kernel
theorem dX3_reachOf_24 : decode cX3_reachOf 24 = .ok (.iconst 2, 1) := by decide +kernel
theorem dX3_reachOf_25 : decode cX3_reachOf 25 = .ok (.invokevirtual 117, 3) := by decide +kernel
theorem dX3_reachOf_28 : decode cX3_reachOf 28 = .ok (.iload_n 1, 1) := by decide +kernel
theorem dX3_reachOf_29 : decode cX3_reachOf 29 = .ok (.if_icmp .ne 21, 3) := by decide +kernel
theorem dX3_reachOf_32 : decode cX3_reachOf 32 = .ok (.iload_n 2, 1) := by decide +kernel
theorem dX3_reachOf_33 : decode cX3_reachOf 33 = .ok (.aload_n 0, 1) := by decide +kernel
theorem dX3_reachOf_34 : decode cX3_reachOf 34 = .ok (.aload_n 0, 1) := by decide +kernel
theorem dX3_reachOf_35 : decode cX3_reachOf 35 = .ok (.getfield 9, 3) := by decide +kernel
theorem dX3_reachOf_38 : decode cX3_reachOf 38 = .ok (.aload_n 0, 1) := by decide +kernel
theorem dX3_reachOf_39 : decode cX3_reachOf 39 = .ok (.getfield 16, 3) := by decide +kernel
theorem dX3_reachOf_42 : decode cX3_reachOf 42 = .ok (.iload_n 3, 1) := by decide +kernel
theorem dX3_reachOf_43 : decode cX3_reachOf 43 = .ok (.iaload, 1) := by decide +kernel
theorem dX3_reachOf_44 : decode cX3_reachOf 44 = .ok (.iaload, 1) := by decide +kernel
theorem dX3_reachOf_45 : decode cX3_reachOf 45 = .ok (.invokevirtual 89, 3) := by decide +kernel
theorem dX3_reachOf_48 : decode cX3_reachOf 48 = .ok (.ior, 1) := by decide +kernel
theorem dX3_reachOf_49 : decode cX3_reachOf 49 = .ok (.istore_n 2, 1) := by decide +kernel
theorem dX3_reachOf_50 : decode cX3_reachOf 50 = .ok (.iinc 3 1, 3) := by decide +kernel
theorem dX3_reachOf_53 : decode cX3_reachOf 53 = .ok (.goto (-49), 3) := by decide +kernel
theorem dX3_reachOf_56 : decode cX3_reachOf 56 = .ok (.iload_n 2, 1) := by decide +kernel
theorem dX3_reachOf_57 : decode cX3_reachOf 57 = .ok (.ireturn, 1) := by decide +kernel
set_option maxRecDepth 20000 in
theorem ggX3_reach_X3_isPerson : GoodIn wsX3_reach wsX3_isPerson := goodIn_r _ [5] (by decide +kernel) (by decide +kernel)
set_option maxRecDepth 20000 in
theorem gX3_reach_X3_isPerson : GoodIn wsX3_reach (va_wsS RX3 106 yX3_isPerson wsX3_isPerson) := goodIn_app (goodIn_of _ (by decide +kernel)) ggX3_reach_X3_isPerson
set_option maxRecDepth 20000 in
theorem ggX3_reach_X3_reachOf : GoodIn wsX3_reach wsX3_reachOf := goodIn_r _ [9, 10, 11, 12, 13, 14, 15, 16, 4, 17, 18, 19, 20, 21, 22, 23, 24, 25, 26, 27, 28, 29, 30, 31, 32, 33, 34, 35, 36, 37, 38, 39, 40, 41, 46, 47, 48, 49, 50, 51, 52, 53, 54, 55, 56, 57, 58, 59, 60] (by decide +kernel) (by decide +kernel)
set_option maxRecDepth 20000 in
theorem gX3_reach_X3_reachOf : GoodIn wsX3_reach (wsV RX3 120 RX3 yX3_reachOf wsX3_reachOf) := goodIn_app (goodIn_of _ (by decide +kernel)) ggX3_reach_X3_reachOf
set_option maxRecDepth 20000 in
theorem ggX3_reach_X3_fail : GoodIn wsX3_reach wsX3_fail := goodIn_r _ [45, 1, 46, 47, 48, 49, 50, 51, 52, 53, 54, 55, 56, 57, 58, 59, 60] (by decide +kernel) (by decide +kernel)
set_option maxRecDepth 20000 in
theorem gX3_reach_X3_fail : GoodIn wsX3_reach (wsV RX3 64 RX3 yX3_fail wsX3_fail) := goodIn_app (goodIn_of _ (by decide +kernel)) ggX3_reach_X3_fail
theorem dX3_reach_0 : decode cX3_reach 0 = .ok (.aload_n 0, 1) := by decide +kernel
theorem dX3_reach_1 : decode cX3_reach 1 = .ok (.iconst 0, 1) := by decide +kernel
theorem dX3_reach_2 : decode cX3_reach 2 = .ok (.putfield 37, 3) := by decide +kernel
theorem dX3_reach_5 : decode cX3_reach 5 = .ok (.iload_n 1, 1) := by decide +kernel
theorem dX3_reach_6 : decode cX3_reach 6 = .ok (.invokestatic 106, 3) := by decide +kernel
theorem dX3_reach_9 : decode cX3_reach 9 = .ok (.ifCond .eq 11, 3) := by decide +kernel
theorem dX3_reach_12 : decode cX3_reach 12 = .ok (.aload_n 0, 1) := by decide +kernel
theorem dX3_reach_13 : decode cX3_reach 13 = .ok (.iload_n 1, 1) := by decide +kernel
theorem dX3_reach_14 : decode cX3_reach 14 = .ok (.invokevirtual 120, 3) := by decide +kernel
theorem dX3_reach_17 : decode cX3_reach 17 = .ok (.goto 8, 3) := by decide +kernel
theorem dX3_reach_20 : decode cX3_reach 20 = .ok (.aload_n 0, 1) := by decide +kernel
theorem dX3_reach_21 : decode cX3_reach 21 = .ok (.iconst 1, 1) := by decide +kernel
theorem dX3_reach_22 : decode cX3_reach 22 = .ok (.invokevirtual 64, 3) := by decide +kernel
theorem dX3_reach_25 : decode cX3_reach 25 = .ok (.ireturn, 1) := by decide +kernel
set_option maxRecDepth 20000 in
theorem ggX3_risk_X3_riskyDoors : GoodIn wsX3_risk wsX3_riskyDoors := goodIn_r _ [6, 7, 8, 9, 10, 11, 12, 13, 5, 14, 15, 16, 17, 18, 19, 20, 21, 22, 23, 24, 25, 26, 27, 28, 29, 30, 31, 32, 33, 34, 35, 36, 37, 38, 39, 40, 41, 42, 43, 44, 45, 46] (by decide +kernel) (by decide +kernel)
set_option maxRecDepth 20000 in
theorem gX3_risk_X3_riskyDoors : GoodIn wsX3_risk (wsV RX3 114 RX3 yX3_riskyDoors wsX3_riskyDoors) := goodIn_app (goodIn_of _ (by decide +kernel)) ggX3_risk_X3_riskyDoors
theorem dX3_risk_0 : decode cX3_risk 0 = .ok (.aload_n 0, 1) := by decide +kernel
theorem dX3_risk_1 : decode cX3_risk 1 = .ok (.iconst 0, 1) := by decide +kernel
theorem dX3_risk_2 : decode cX3_risk 2 = .ok (.putfield 37, 3) := by decide +kernel
theorem dX3_risk_5 : decode cX3_risk 5 = .ok (.aload_n 0, 1) := by decide +kernel
theorem dX3_risk_6 : decode cX3_risk 6 = .ok (.invokevirtual 114, 3) := by decide +kernel
theorem dX3_risk_9 : decode cX3_risk 9 = .ok (.ireturn, 1) := by decide +kernel
set_option maxRecDepth 20000 in
theorem ggX3_suggest_X3_isPerson : GoodIn wsX3_suggest wsX3_isPerson := goodIn_r _ [13] (by decide +kernel) (by decide +kernel)
set_option maxRecDepth 20000 in
theorem gX3_suggest_X3_isPerson : GoodIn wsX3_suggest (va_wsS RX3 106 yX3_isPerson wsX3_isPerson) := goodIn_app (goodIn_of _ (by decide +kernel)) ggX3_suggest_X3_isPerson
set_option maxRecDepth 20000 in
theorem ggX3_suggest_X3_fail : GoodIn wsX3_suggest wsX3_fail := goodIn_r _ [17, 1, 54, 55, 56, 57, 58, 59, 60, 61, 62, 63, 64, 65, 66, 67, 68] (by decide +kernel) (by decide +kernel)
set_option maxRecDepth 20000 in
theorem gX3_suggest_X3_fail : GoodIn wsX3_suggest (wsV RX3 64 RX3 yX3_fail wsX3_fail) := goodIn_app (goodIn_of _ (by decide +kernel)) ggX3_suggest_X3_fail
set_option maxRecDepth 20000 in
theorem ggX3_suggest_X3_reachOf : GoodIn wsX3_suggest wsX3_reachOf := goodIn_r _ [21, 4, 5, 9, 7, 22, 23, 24, 12, 25, 26, 6, 27, 28, 29, 30, 31, 2, 32, 33, 34, 35, 36, 37, 38, 39, 8, 40, 41, 42, 43, 44, 45, 46, 54, 55, 56, 57, 58, 59, 60, 61, 62, 63, 64, 65, 66, 67, 68] (by decide +kernel) (by decide +kernel)
set_option maxRecDepth 20000 in
theorem gX3_suggest_X3_reachOf : GoodIn wsX3_suggest (wsV RX3 120 RX3 yX3_reachOf wsX3_reachOf) := goodIn_app (goodIn_of _ (by decide +kernel)) ggX3_suggest_X3_reachOf
set_option maxRecDepth 20000 in
theorem ggX3_suggest_X3_has : GoodIn wsX3_suggest wsX3_has := goodIn_r _ [43] (by decide +kernel) (by decide +kernel)
set_option maxRecDepth 20000 in
theorem gX3_suggest_X3_has : GoodIn wsX3_suggest (va_wsS RX3 50 yX3_has wsX3_has) := goodIn_app (goodIn_of _ (by decide +kernel)) ggX3_suggest_X3_has
set_option maxRecDepth 20000 in
theorem ggX3_suggest_X3_doorsOf : GoodIn wsX3_suggest wsX3_doorsOf := goodIn_r _ [31, 2, 32, 33, 34, 12, 35, 36, 37, 38, 39, 8, 40, 9, 41, 42, 43, 44, 45, 46, 54, 55, 56, 57, 58, 59, 60, 61, 62, 63, 64, 65, 66, 67, 68] (by decide +kernel) (by decide +kernel)
set_option maxRecDepth 20000 in
theorem gX3_suggest_X3_doorsOf : GoodIn wsX3_suggest (wsV RX3 89 RX3 yX3_doorsOf wsX3_doorsOf) := goodIn_app (goodIn_of _ (by decide +kernel)) ggX3_suggest_X3_doorsOf
set_option maxRecDepth 20000 in
theorem ggX3_suggest_J6_bitCount_0f7a4 : GoodIn wsX3_suggest wsJ6_bitCount_0f7a4 := goodIn_r _ [50, 51, 52, 53] (by decide +kernel) (by decide +kernel)
set_option maxRecDepth 20000 in
theorem gX3_suggest_J6_bitCount_0f7a4 : GoodIn wsX3_suggest (va_wsS RX3 78 yJ6_bitCount_0f7a4 wsJ6_bitCount_0f7a4) := goodIn_app (goodIn_of _ (by decide +kernel)) ggX3_suggest_J6_bitCount_0f7a4
theorem dX3_suggest_0 : decode cX3_suggest 0 = .ok (.aload_n 0, 1) := by decide +kernel
theorem dX3_suggest_1 : decode cX3_suggest 1 = .ok (.iconst 0, 1) := by decide +kernel
theorem dX3_suggest_2 : decode cX3_suggest 2 = .ok (.putfield 37, 3) := by decide +kernel
theorem dX3_suggest_5 : decode cX3_suggest 5 = .ok (.iload_n 1, 1) := by decide +kernel
theorem dX3_suggest_6 : decode cX3_suggest 6 = .ok (.invokestatic 106, 3) := by decide +kernel
theorem dX3_suggest_9 : decode cX3_suggest 9 = .ok (.ifCond .ne 9, 3) := by decide +kernel
theorem dX3_suggest_12 : decode cX3_suggest 12 = .ok (.aload_n 0, 1) := by decide +kernel
theorem dX3_suggest_13 : decode cX3_suggest 13 = .ok (.iconst 1, 1) := by decide +kernel
theorem dX3_suggest_14 : decode cX3_suggest 14 = .ok (.invokevirtual 64, 3) := by decide +kernel
theorem dX3_suggest_17 : decode cX3_suggest 17 = .ok (.ireturn, 1) := by decide +kernel
theorem dX3_suggest_18 : decode cX3_suggest 18 = .ok (.iload_n 2, 1) := by decide +kernel
theorem dX3_suggest_19 : decode cX3_suggest 19 = .ok (.ifCond .lt 13, 3) := by decide +kernel
theorem dX3_suggest_22 : decode cX3_suggest 22 = .ok (.iload_n 2, 1) := by decide +kernel
theorem dX3_suggest_23 : decode cX3_suggest 23 = .ok (.iconst 1, 1) := by decide +kernel
theorem dX3_suggest_24 : decode cX3_suggest 24 = .ok (.aload_n 0, 1) := by decide +kernel
theorem dX3_suggest_25 : decode cX3_suggest 25 = .ok (.getfield 44, 3) := by decide +kernel
theorem dX3_suggest_28 : decode cX3_suggest 28 = .ok (.ishl, 1) := by decide +kernel
theorem dX3_suggest_29 : decode cX3_suggest 29 = .ok (.if_icmp .lt 9, 3) := by decide +kernel
theorem dX3_suggest_32 : decode cX3_suggest 32 = .ok (.aload_n 0, 1) := by decide +kernel
theorem dX3_suggest_33 : decode cX3_suggest 33 = .ok (.iconst 2, 1) := by decide +kernel
theorem dX3_suggest_34 : decode cX3_suggest 34 = .ok (.invokevirtual 64, 3) := by decide +kernel
theorem dX3_suggest_37 : decode cX3_suggest 37 = .ok (.ireturn, 1) := by decide +kernel
theorem dX3_suggest_38 : decode cX3_suggest 38 = .ok (.bipush 8, 2) := by decide +kernel
theorem dX3_suggest_40 : decode cX3_suggest 40 = .ok (.newarray .int, 2) := by decide +kernel
theorem dX3_suggest_42 : decode cX3_suggest 42 = .ok (.astore_n 3, 1) := by decide +kernel
theorem dX3_suggest_43 : decode cX3_suggest 43 = .ok (.iconst 0, 1) := by decide +kernel
theorem dX3_suggest_44 : decode cX3_suggest 44 = .ok (.istore 4, 2) := by decide +kernel
theorem dX3_suggest_46 : decode cX3_suggest 46 = .ok (.iload 4, 2) := by decide +kernel
theorem dX3_suggest_48 : decode cX3_suggest 48 = .ok (.bipush 8, 2) := by decide +kernel
theorem dX3_suggest_50 : decode cX3_suggest 50 = .ok (.if_icmp .ge 14, 3) := by decide +kernel
theorem dX3_suggest_53 : decode cX3_suggest 53 = .ok (.aload_n 3, 1) := by decide +kernel
theorem dX3_suggest_54 : decode cX3_suggest 54 = .ok (.iload 4, 2) := by decide +kernel
theorem dX3_suggest_56 : decode cX3_suggest 56 = .ok (.iconst (-1), 1) := by decide +kernel
theorem dX3_suggest_57 : decode cX3_suggest 57 = .ok (.iastore, 1) := by decide +kernel
theorem dX3_suggest_58 : decode cX3_suggest 58 = .ok (.iinc 4 1, 3) := by decide +kernel
theorem dX3_suggest_61 : decode cX3_suggest 61 = .ok (.goto (-15), 3) := by decide +kernel
theorem dX3_suggest_64 : decode cX3_suggest 64 = .ok (.aload_n 0, 1) := by decide +kernel
theorem dX3_suggest_65 : decode cX3_suggest 65 = .ok (.getfield 47, 3) := by decide +kernel
theorem dX3_suggest_68 : decode cX3_suggest 68 = .ok (.iconst 1, 1) := by decide +kernel
theorem dX3_suggest_69 : decode cX3_suggest 69 = .ok (.isub, 1) := by decide +kernel
theorem dX3_suggest_70 : decode cX3_suggest 70 = .ok (.istore 4, 2) := by decide +kernel
theorem dX3_suggest_72 : decode cX3_suggest 72 = .ok (.iload 4, 2) := by decide +kernel
theorem dX3_suggest_74 : decode cX3_suggest 74 = .ok (.ifCond .lt 42, 3) := by decide +kernel
theorem dX3_suggest_77 : decode cX3_suggest 77 = .ok (.aload_n 0, 1) := by decide +kernel
theorem dX3_suggest_78 : decode cX3_suggest 78 = .ok (.getfield 19, 3) := by decide +kernel
theorem dX3_suggest_81 : decode cX3_suggest 81 = .ok (.iload 4, 2) := by decide +kernel
theorem dX3_suggest_83 : decode cX3_suggest 83 = .ok (.iaload, 1) := by decide +kernel
theorem dX3_suggest_84 : decode cX3_suggest 84 = .ok (.ifCond .ne 26, 3) := by decide +kernel
theorem dX3_suggest_87 : decode cX3_suggest 87 = .ok (.aload_n 0, 1) := by decide +kernel
theorem dX3_suggest_88 : decode cX3_suggest 88 = .ok (.getfield 25, 3) := by decide +kernel
theorem dX3_suggest_91 : decode cX3_suggest 91 = .ok (.iload 4, 2) := by decide +kernel
theorem dX3_suggest_93 : decode cX3_suggest 93 = .ok (.iaload, 1) := by decide +kernel
theorem dX3_suggest_94 : decode cX3_suggest 94 = .ok (.bipush 9, 2) := by decide +kernel
theorem dX3_suggest_96 : decode cX3_suggest 96 = .ok (.if_icmp .ge 14, 3) := by decide +kernel
theorem dX3_suggest_99 : decode cX3_suggest 99 = .ok (.aload_n 3, 1) := by decide +kernel
theorem dX3_suggest_100 : decode cX3_suggest 100 = .ok (.aload_n 0, 1) := by decide +kernel
theorem dX3_suggest_101 : decode cX3_suggest 101 = .ok (.getfield 16, 3) := by decide +kernel
theorem dX3_suggest_104 : decode cX3_suggest 104 = .ok (.iload 4, 2) := by decide +kernel
theorem dX3_suggest_106 : decode cX3_suggest 106 = .ok (.iaload, 1) := by decide +kernel
theorem dX3_suggest_107 : decode cX3_suggest 107 = .ok (.iload 4, 2) := by decide +kernel
theorem dX3_suggest_109 : decode cX3_suggest 109 = .ok (.iastore, 1) := by decide +kernel
theorem dX3_suggest_110 : decode cX3_suggest 110 = .ok (.iinc 4 (-1), 3) := by decide +kernel
theorem dX3_suggest_113 : decode cX3_suggest 113 = .ok (.goto (-41), 3) := by decide +kernel
theorem dX3_suggest_116 : decode cX3_suggest 116 = .ok (.aload_n 0, 1) := by decide +kernel
theorem dX3_suggest_117 : decode cX3_suggest 117 = .ok (.iload_n 1, 1) := by decide +kernel
theorem dX3_suggest_118 : decode cX3_suggest 118 = .ok (.invokevirtual 120, 3) := by decide +kernel
theorem dX3_suggest_121 : decode cX3_suggest 121 = .ok (.istore 4, 2) := by decide +kernel
theorem dX3_suggest_123 : decode cX3_suggest 123 = .ok (.iconst (-1), 1) := by decide +kernel
theorem dX3_suggest_124 : decode cX3_suggest 124 = .ok (.istore 5, 2) := by decide +kernel
theorem dX3_suggest_126 : decode cX3_suggest 126 = .ok (.iconst 0, 1) := by decide +kernel
theorem dX3_suggest_127 : decode cX3_suggest 127 = .ok (.istore 6, 2) := by decide +kernel
theorem dX3_suggest_129 : decode cX3_suggest 129 = .ok (.iconst 0, 1) := by decide +kernel
theorem dX3_suggest_130 : decode cX3_suggest 130 = .ok (.istore 7, 2) := by decide +kernel
theorem dX3_suggest_132 : decode cX3_suggest 132 = .ok (.iload 7, 2) := by decide +kernel
theorem dX3_suggest_134 : decode cX3_suggest 134 = .ok (.iconst 1, 1) := by decide +kernel
theorem dX3_suggest_135 : decode cX3_suggest 135 = .ok (.aload_n 0, 1) := by decide +kernel
theorem dX3_suggest_136 : decode cX3_suggest 136 = .ok (.getfield 41, 3) := by decide +kernel
theorem dX3_suggest_139 : decode cX3_suggest 139 = .ok (.ishl, 1) := by decide +kernel
theorem dX3_suggest_140 : decode cX3_suggest 140 = .ok (.if_icmp .ge 197, 3) := by decide +kernel
theorem dX3_suggest_143 : decode cX3_suggest 143 = .ok (.iconst 0, 1) := by decide +kernel
theorem dX3_suggest_144 : decode cX3_suggest 144 = .ok (.istore 8, 2) := by decide +kernel
theorem dX3_suggest_146 : decode cX3_suggest 146 = .ok (.iload 4, 2) := by decide +kernel
theorem dX3_suggest_148 : decode cX3_suggest 148 = .ok (.istore 9, 2) := by decide +kernel
theorem dX3_suggest_150 : decode cX3_suggest 150 = .ok (.iconst 1, 1) := by decide +kernel
theorem dX3_suggest_151 : decode cX3_suggest 151 = .ok (.istore 10, 2) := by decide +kernel
theorem dX3_suggest_153 : decode cX3_suggest 153 = .ok (.iconst 0, 1) := by decide +kernel
theorem dX3_suggest_154 : decode cX3_suggest 154 = .ok (.istore 11, 2) := by decide +kernel
theorem dX3_suggest_156 : decode cX3_suggest 156 = .ok (.iload 11, 2) := by decide +kernel
theorem dX3_suggest_158 : decode cX3_suggest 158 = .ok (.aload_n 0, 1) := by decide +kernel
theorem dX3_suggest_159 : decode cX3_suggest 159 = .ok (.getfield 41, 3) := by decide +kernel
theorem dX3_suggest_162 : decode cX3_suggest 162 = .ok (.if_icmp .ge 77, 3) := by decide +kernel
theorem dX3_suggest_165 : decode cX3_suggest 165 = .ok (.iload 7, 2) := by decide +kernel
theorem dX3_suggest_167 : decode cX3_suggest 167 = .ok (.iload 11, 2) := by decide +kernel
theorem dX3_suggest_169 : decode cX3_suggest 169 = .ok (.invokestatic 50, 3) := by decide +kernel
theorem dX3_suggest_172 : decode cX3_suggest 172 = .ok (.ifCond .ne 6, 3) := by decide +kernel
theorem dX3_suggest_175 : decode cX3_suggest 175 = .ok (.goto 58, 3) := by decide +kernel
theorem dX3_suggest_178 : decode cX3_suggest 178 = .ok (.iload 10, 2) := by decide +kernel
theorem dX3_suggest_180 : decode cX3_suggest 180 = .ok (.ifCond .eq 15, 3) := by decide +kernel
theorem dX3_suggest_183 : decode cX3_suggest 183 = .ok (.aload_n 3, 1) := by decide +kernel
theorem dX3_suggest_184 : decode cX3_suggest 184 = .ok (.iload 11, 2) := by decide +kernel
theorem dX3_suggest_186 : decode cX3_suggest 186 = .ok (.iaload, 1) := by decide +kernel
theorem dX3_suggest_187 : decode cX3_suggest 187 = .ok (.iconst (-1), 1) := by decide +kernel
theorem dX3_suggest_188 : decode cX3_suggest 188 = .ok (.if_icmp .eq 7, 3) := by decide +kernel
theorem dX3_suggest_191 : decode cX3_suggest 191 = .ok (.iconst 1, 1) := by decide +kernel
theorem dX3_suggest_192 : decode cX3_suggest 192 = .ok (.goto 4, 3) := by decide +kernel
theorem dX3_suggest_195 : decode cX3_suggest 195 = .ok (.iconst 0, 1) := by decide +kernel
theorem dX3_suggest_196 : decode cX3_suggest 196 = .ok (.istore 10, 2) := by decide +kernel
theorem dX3_suggest_198 : decode cX3_suggest 198 = .ok (.aload_n 3, 1) := by decide +kernel
theorem dX3_suggest_199 : decode cX3_suggest 199 = .ok (.iload 11, 2) := by decide +kernel
theorem dX3_suggest_201 : decode cX3_suggest 201 = .ok (.iaload, 1) := by decide +kernel
theorem dX3_suggest_202 : decode cX3_suggest 202 = .ok (.iconst (-1), 1) := by decide +kernel
theorem dX3_suggest_203 : decode cX3_suggest 203 = .ok (.if_icmp .eq 14, 3) := by decide +kernel
theorem dX3_suggest_206 : decode cX3_suggest 206 = .ok (.iload 8, 2) := by decide +kernel
theorem dX3_suggest_208 : decode cX3_suggest 208 = .ok (.iconst 1, 1) := by decide +kernel
theorem dX3_suggest_209 : decode cX3_suggest 209 = .ok (.aload_n 3, 1) := by decide +kernel
theorem dX3_suggest_210 : decode cX3_suggest 210 = .ok (.iload 11, 2) := by decide +kernel
theorem dX3_suggest_212 : decode cX3_suggest 212 = .ok (.iaload, 1) := by decide +kernel
theorem dX3_suggest_213 : decode cX3_suggest 213 = .ok (.ishl, 1) := by decide +kernel
theorem dX3_suggest_214 : decode cX3_suggest 214 = .ok (.ior, 1) := by decide +kernel
theorem dX3_suggest_215 : decode cX3_suggest 215 = .ok (.istore 8, 2) := by decide +kernel
theorem dX3_suggest_217 : decode cX3_suggest 217 = .ok (.iload 9, 2) := by decide +kernel
theorem dX3_suggest_219 : decode cX3_suggest 219 = .ok (.aload_n 0, 1) := by decide +kernel
theorem dX3_suggest_220 : decode cX3_suggest 220 = .ok (.aload_n 0, 1) := by decide +kernel
theorem dX3_suggest_221 : decode cX3_suggest 221 = .ok (.getfield 9, 3) := by decide +kernel
theorem dX3_suggest_224 : decode cX3_suggest 224 = .ok (.iload 11, 2) := by decide +kernel
theorem dX3_suggest_226 : decode cX3_suggest 226 = .ok (.iaload, 1) := by decide +kernel
theorem dX3_suggest_227 : decode cX3_suggest 227 = .ok (.invokevirtual 89, 3) := by decide +kernel
theorem dX3_suggest_230 : decode cX3_suggest 230 = .ok (.ior, 1) := by decide +kernel
theorem dX3_suggest_231 : decode cX3_suggest 231 = .ok (.istore 9, 2) := by decide +kernel
theorem dX3_suggest_233 : decode cX3_suggest 233 = .ok (.iinc 11 1, 3) := by decide +kernel
theorem dX3_suggest_236 : decode cX3_suggest 236 = .ok (.goto (-80), 3) := by decide +kernel
theorem dX3_suggest_239 : decode cX3_suggest 239 = .ok (.iload 10, 2) := by decide +kernel
theorem dX3_suggest_241 : decode cX3_suggest 241 = .ok (.ifCond .eq 90, 3) := by decide +kernel
theorem dX3_suggest_244 : decode cX3_suggest 244 = .ok (.iload_n 2, 1) := by decide +kernel
theorem dX3_suggest_245 : decode cX3_suggest 245 = .ok (.iload 9, 2) := by decide +kernel
theorem dX3_suggest_247 : decode cX3_suggest 247 = .ok (.iconst (-1), 1) := by decide +kernel
theorem dX3_suggest_248 : decode cX3_suggest 248 = .ok (.ixor, 1) := by decide +kernel
theorem dX3_suggest_249 : decode cX3_suggest 249 = .ok (.iand, 1) := by decide +kernel
theorem dX3_suggest_250 : decode cX3_suggest 250 = .ok (.ifCond .eq 6, 3) := by decide +kernel
theorem dX3_suggest_253 : decode cX3_suggest 253 = .ok (.goto 78, 3) := by decide +kernel
theorem dX3_suggest_256 : decode cX3_suggest 256 = .ok (.iload 8, 2) := by decide +kernel
theorem dX3_suggest_258 : decode cX3_suggest 258 = .ok (.invokestatic 78, 3) := by decide +kernel
theorem dX3_suggest_261 : decode cX3_suggest 261 = .ok (.iload 5, 2) := by decide +kernel
theorem dX3_suggest_263 : decode cX3_suggest 263 = .ok (.iconst (-1), 1) := by decide +kernel
theorem dX3_suggest_264 : decode cX3_suggest 264 = .ok (.if_icmp .ne 8, 3) := by decide +kernel
theorem dX3_suggest_267 : decode cX3_suggest 267 = .ok (.bipush 99, 2) := by decide +kernel
theorem dX3_suggest_269 : decode cX3_suggest 269 = .ok (.goto 8, 3) := by decide +kernel
theorem dX3_suggest_272 : decode cX3_suggest 272 = .ok (.iload 5, 2) := by decide +kernel
theorem dX3_suggest_274 : decode cX3_suggest 274 = .ok (.invokestatic 78, 3) := by decide +kernel
theorem dX3_suggest_277 : decode cX3_suggest 277 = .ok (.isub, 1) := by decide +kernel
theorem dX3_suggest_278 : decode cX3_suggest 278 = .ok (.istore 11, 2) := by decide +kernel
theorem dX3_suggest_280 : decode cX3_suggest 280 = .ok (.iload 9, 2) := by decide +kernel
theorem dX3_suggest_282 : decode cX3_suggest 282 = .ok (.invokestatic 78, 3) := by decide +kernel
theorem dX3_suggest_285 : decode cX3_suggest 285 = .ok (.iload 6, 2) := by decide +kernel
theorem dX3_suggest_287 : decode cX3_suggest 287 = .ok (.isub, 1) := by decide +kernel
theorem dX3_suggest_288 : decode cX3_suggest 288 = .ok (.istore 12, 2) := by decide +kernel
theorem dX3_suggest_290 : decode cX3_suggest 290 = .ok (.iload 11, 2) := by decide +kernel
theorem dX3_suggest_292 : decode cX3_suggest 292 = .ok (.ifCond .gt 39, 3) := by decide +kernel
theorem dX3_suggest_295 : decode cX3_suggest 295 = .ok (.iload 11, 2) := by decide +kernel
theorem dX3_suggest_297 : decode cX3_suggest 297 = .ok (.ifCond .ne 23, 3) := by decide +kernel
theorem dX3_suggest_300 : decode cX3_suggest 300 = .ok (.iload 12, 2) := by decide +kernel
theorem dX3_suggest_302 : decode cX3_suggest 302 = .ok (.ifCond .gt 29, 3) := by decide +kernel
theorem dX3_suggest_305 : decode cX3_suggest 305 = .ok (.iload 12, 2) := by decide +kernel
theorem dX3_suggest_307 : decode cX3_suggest 307 = .ok (.ifCond .ne 13, 3) := by decide +kernel
theorem dX3_suggest_310 : decode cX3_suggest 310 = .ok (.iload 8, 2) := by decide +kernel
theorem dX3_suggest_312 : decode cX3_suggest 312 = .ok (.iload 5, 2) := by decide +kernel
theorem dX3_suggest_314 : decode cX3_suggest 314 = .ok (.if_icmp .le 6, 3) := by decide +kernel
theorem dX3_suggest_317 : decode cX3_suggest 317 = .ok (.goto 14, 3) := by decide +kernel
theorem dX3_suggest_320 : decode cX3_suggest 320 = .ok (.iload 8, 2) := by decide +kernel
theorem dX3_suggest_322 : decode cX3_suggest 322 = .ok (.istore 5, 2) := by decide +kernel
theorem dX3_suggest_324 : decode cX3_suggest 324 = .ok (.iload 9, 2) := by decide +kernel
theorem dX3_suggest_326 : decode cX3_suggest 326 = .ok (.invokestatic 78, 3) := by decide +kernel
theorem dX3_suggest_329 : decode cX3_suggest 329 = .ok (.istore 6, 2) := by decide +kernel
theorem dX3_suggest_331 : decode cX3_suggest 331 = .ok (.iinc 7 1, 3) := by decide +kernel
theorem dX3_suggest_334 : decode cX3_suggest 334 = .ok (.goto (-202), 3) := by decide +kernel
theorem dX3_suggest_337 : decode cX3_suggest 337 = .ok (.iload 5, 2) := by decide +kernel
theorem dX3_suggest_339 : decode cX3_suggest 339 = .ok (.ireturn, 1) := by decide +kernel
set_option maxRecDepth 20000 in
theorem ggX3_exposure_X3_riskyDoors : GoodIn wsX3_exposure wsX3_riskyDoors := goodIn_r _ [7, 8, 9, 10, 11, 12, 13, 14, 6, 15, 2, 16, 17, 18, 19, 20, 21, 22, 23, 24, 25, 26, 27, 28, 29, 30, 31, 50, 51, 52, 53, 54, 55, 56, 57, 58, 59, 60, 61, 62, 63, 64] (by decide +kernel) (by decide +kernel)
set_option maxRecDepth 20000 in
theorem gX3_exposure_X3_riskyDoors : GoodIn wsX3_exposure (wsV RX3 114 RX3 yX3_riskyDoors wsX3_riskyDoors) := goodIn_app (goodIn_of _ (by decide +kernel)) ggX3_exposure_X3_riskyDoors
set_option maxRecDepth 20000 in
theorem ggX3_exposure_X3_reachOf : GoodIn wsX3_exposure wsX3_reachOf := goodIn_r _ [35, 8, 9, 10, 11, 36, 37, 38, 6, 39, 40, 41, 42, 12, 13, 14, 15, 2, 16, 17, 18, 19, 20, 21, 22, 23, 24, 25, 26, 27, 28, 29, 30, 31, 50, 51, 52, 53, 54, 55, 56, 57, 58, 59, 60, 61, 62, 63, 64] (by decide +kernel) (by decide +kernel)
set_option maxRecDepth 20000 in
theorem gX3_exposure_X3_reachOf : GoodIn wsX3_exposure (wsV RX3 120 RX3 yX3_reachOf wsX3_reachOf) := goodIn_app (goodIn_of _ (by decide +kernel)) ggX3_exposure_X3_reachOf
set_option maxRecDepth 20000 in
theorem ggX3_exposure_J6_bitCount_0f7a4 : GoodIn wsX3_exposure wsJ6_bitCount_0f7a4 := goodIn_r _ [46, 47, 48, 49] (by decide +kernel) (by decide +kernel)
set_option maxRecDepth 20000 in
theorem gX3_exposure_J6_bitCount_0f7a4 : GoodIn wsX3_exposure (va_wsS RX3 78 yJ6_bitCount_0f7a4 wsJ6_bitCount_0f7a4) := goodIn_app (goodIn_of _ (by decide +kernel)) ggX3_exposure_J6_bitCount_0f7a4
theorem dX3_exposure_0 : decode cX3_exposure 0 = .ok (.aload_n 0, 1) := by decide +kernel
theorem dX3_exposure_1 : decode cX3_exposure 1 = .ok (.iconst 0, 1) := by decide +kernel
theorem dX3_exposure_2 : decode cX3_exposure 2 = .ok (.putfield 37, 3) := by decide +kernel
theorem dX3_exposure_5 : decode cX3_exposure 5 = .ok (.aload_n 0, 1) := by decide +kernel
theorem dX3_exposure_6 : decode cX3_exposure 6 = .ok (.invokevirtual 114, 3) := by decide +kernel
theorem dX3_exposure_9 : decode cX3_exposure 9 = .ok (.istore_n 1, 1) := by decide +kernel
theorem dX3_exposure_10 : decode cX3_exposure 10 = .ok (.iconst 0, 1) := by decide +kernel
theorem dX3_exposure_11 : decode cX3_exposure 11 = .ok (.istore_n 2, 1) := by decide +kernel
theorem dX3_exposure_12 : decode cX3_exposure 12 = .ok (.iload_n 2, 1) := by decide +kernel
theorem dX3_exposure_13 : decode cX3_exposure 13 = .ok (.bipush 8, 2) := by decide +kernel
theorem dX3_exposure_15 : decode cX3_exposure 15 = .ok (.if_icmp .ge 17, 3) := by decide +kernel
theorem dX3_exposure_18 : decode cX3_exposure 18 = .ok (.iload_n 1, 1) := by decide +kernel
theorem dX3_exposure_19 : decode cX3_exposure 19 = .ok (.aload_n 0, 1) := by decide +kernel
theorem dX3_exposure_20 : decode cX3_exposure 20 = .ok (.iload_n 2, 1) := by decide +kernel
theorem dX3_exposure_21 : decode cX3_exposure 21 = .ok (.invokevirtual 120, 3) := by decide +kernel
theorem dX3_exposure_24 : decode cX3_exposure 24 = .ok (.ior, 1) := by decide +kernel
theorem dX3_exposure_25 : decode cX3_exposure 25 = .ok (.istore_n 1, 1) := by decide +kernel
theorem dX3_exposure_26 : decode cX3_exposure 26 = .ok (.iinc 2 1, 3) := by decide +kernel
theorem dX3_exposure_29 : decode cX3_exposure 29 = .ok (.goto (-17), 3) := by decide +kernel
theorem dX3_exposure_32 : decode cX3_exposure 32 = .ok (.aload_n 0, 1) := by decide +kernel
theorem dX3_exposure_33 : decode cX3_exposure 33 = .ok (.getfield 44, 3) := by decide +kernel
theorem dX3_exposure_36 : decode cX3_exposure 36 = .ok (.ifCond .ne 7, 3) := by decide +kernel
theorem dX3_exposure_39 : decode cX3_exposure 39 = .ok (.dconst 0, 1) := by decide +kernel
theorem dX3_exposure_40 : decode cX3_exposure 40 = .ok (.goto 14, 3) := by decide +kernel
theorem dX3_exposure_43 : decode cX3_exposure 43 = .ok (.iload_n 1, 1) := by decide +kernel
theorem dX3_exposure_44 : decode cX3_exposure 44 = .ok (.invokestatic 78, 3) := by decide +kernel
theorem dX3_exposure_47 : decode cX3_exposure 47 = .ok (.i2d, 1) := by decide +kernel
theorem dX3_exposure_48 : decode cX3_exposure 48 = .ok (.aload_n 0, 1) := by decide +kernel
theorem dX3_exposure_49 : decode cX3_exposure 49 = .ok (.getfield 44, 3) := by decide +kernel
theorem dX3_exposure_52 : decode cX3_exposure 52 = .ok (.i2d, 1) := by decide +kernel
theorem dX3_exposure_53 : decode cX3_exposure 53 = .ok (.ddiv, 1) := by decide +kernel
theorem dX3_exposure_54 : decode cX3_exposure 54 = .ok (.dreturn, 1) := by decide +kernel
set_option maxRecDepth 20000 in
theorem ggX3_digest_X3_pinsOf : GoodIn wsX3_digest wsX3_pinsOf := goodIn_r _ [15, 3, 7, 5, 16, 17, 14, 18, 19, 20, 21, 31, 32, 33, 34, 35, 36, 37, 38, 39, 40, 41, 42, 43, 44, 45] (by decide +kernel) (by decide +kernel)
set_option maxRecDepth 20000 in
theorem gX3_digest_X3_pinsOf : GoodIn wsX3_digest (wsV RX3 58 RX3 yX3_pinsOf wsX3_pinsOf) := goodIn_app (goodIn_of _ (by decide +kernel)) ggX3_digest_X3_pinsOf
set_option maxRecDepth 20000 in
theorem ggX3_digest_X3_told : GoodIn wsX3_digest wsX3_told := goodIn_r _ [25, 26, 27, 28, 29, 30, 31, 32, 33, 34, 35, 36, 37, 38, 39, 40, 41, 42, 43, 44, 45] (by decide +kernel) (by decide +kernel)
set_option maxRecDepth 20000 in
theorem gX3_digest_X3_told : GoodIn wsX3_digest (wsV RX3 117 RX3 yX3_told wsX3_told) := goodIn_app (goodIn_of _ (by decide +kernel)) ggX3_digest_X3_told
theorem dX3_digest_0 : decode cX3_digest 0 = .ok (.aload_n 0, 1) := by decide +kernel
theorem dX3_digest_1 : decode cX3_digest 1 = .ok (.iconst 0, 1) := by decide +kernel
theorem dX3_digest_2 : decode cX3_digest 2 = .ok (.putfield 37, 3) := by decide +kernel
theorem dX3_digest_5 : decode cX3_digest 5 = .ok (.ldc2_w 123, 3) := by decide +kernel
theorem dX3_digest_8 : decode cX3_digest 8 = .ok (.aload_n 0, 1) := by decide +kernel
theorem dX3_digest_9 : decode cX3_digest 9 = .ok (.getfield 41, 3) := by decide +kernel
theorem dX3_digest_12 : decode cX3_digest 12 = .ok (.i2l, 1) := by decide +kernel
theorem dX3_digest_13 : decode cX3_digest 13 = .ok (.ladd, 1) := by decide +kernel
theorem dX3_digest_14 : decode cX3_digest 14 = .ok (.lstore_n 1, 1) := by decide +kernel
theorem dX3_digest_15 : decode cX3_digest 15 = .ok (.iconst 0, 1) := by decide +kernel
theorem dX3_digest_16 : decode cX3_digest 16 = .ok (.istore_n 3, 1) := by decide +kernel
theorem dX3_digest_17 : decode cX3_digest 17 = .ok (.iload_n 3, 1) := by decide +kernel
theorem dX3_digest_18 : decode cX3_digest 18 = .ok (.aload_n 0, 1) := by decide +kernel
theorem dX3_digest_19 : decode cX3_digest 19 = .ok (.getfield 41, 3) := by decide +kernel
theorem dX3_digest_22 : decode cX3_digest 22 = .ok (.if_icmp .ge 23, 3) := by decide +kernel
theorem dX3_digest_25 : decode cX3_digest 25 = .ok (.lload_n 1, 1) := by decide +kernel
theorem dX3_digest_26 : decode cX3_digest 26 = .ok (.ldc2_w 125, 3) := by decide +kernel
theorem dX3_digest_29 : decode cX3_digest 29 = .ok (.lmul, 1) := by decide +kernel
theorem dX3_digest_30 : decode cX3_digest 30 = .ok (.aload_n 0, 1) := by decide +kernel
theorem dX3_digest_31 : decode cX3_digest 31 = .ok (.getfield 9, 3) := by decide +kernel
theorem dX3_digest_34 : decode cX3_digest 34 = .ok (.iload_n 3, 1) := by decide +kernel
theorem dX3_digest_35 : decode cX3_digest 35 = .ok (.iaload, 1) := by decide +kernel
theorem dX3_digest_36 : decode cX3_digest 36 = .ok (.i2l, 1) := by decide +kernel
theorem dX3_digest_37 : decode cX3_digest 37 = .ok (.ladd, 1) := by decide +kernel
theorem dX3_digest_38 : decode cX3_digest 38 = .ok (.lstore_n 1, 1) := by decide +kernel
theorem dX3_digest_39 : decode cX3_digest 39 = .ok (.iinc 3 1, 3) := by decide +kernel
theorem dX3_digest_42 : decode cX3_digest 42 = .ok (.goto (-25), 3) := by decide +kernel
theorem dX3_digest_45 : decode cX3_digest 45 = .ok (.lload_n 1, 1) := by decide +kernel
theorem dX3_digest_46 : decode cX3_digest 46 = .ok (.ldc2_w 125, 3) := by decide +kernel
theorem dX3_digest_49 : decode cX3_digest 49 = .ok (.lmul, 1) := by decide +kernel
theorem dX3_digest_50 : decode cX3_digest 50 = .ok (.aload_n 0, 1) := by decide +kernel
theorem dX3_digest_51 : decode cX3_digest 51 = .ok (.getfield 44, 3) := by decide +kernel
theorem dX3_digest_54 : decode cX3_digest 54 = .ok (.i2l, 1) := by decide +kernel
theorem dX3_digest_55 : decode cX3_digest 55 = .ok (.ladd, 1) := by decide +kernel
theorem dX3_digest_56 : decode cX3_digest 56 = .ok (.lstore_n 1, 1) := by decide +kernel
theorem dX3_digest_57 : decode cX3_digest 57 = .ok (.iconst 0, 1) := by decide +kernel
theorem dX3_digest_58 : decode cX3_digest 58 = .ok (.istore_n 3, 1) := by decide +kernel
theorem dX3_digest_59 : decode cX3_digest 59 = .ok (.iload_n 3, 1) := by decide +kernel
theorem dX3_digest_60 : decode cX3_digest 60 = .ok (.aload_n 0, 1) := by decide +kernel
theorem dX3_digest_61 : decode cX3_digest 61 = .ok (.getfield 44, 3) := by decide +kernel
theorem dX3_digest_64 : decode cX3_digest 64 = .ok (.if_icmp .ge 53, 3) := by decide +kernel
theorem dX3_digest_67 : decode cX3_digest 67 = .ok (.lload_n 1, 1) := by decide +kernel
theorem dX3_digest_68 : decode cX3_digest 68 = .ok (.ldc2_w 125, 3) := by decide +kernel
theorem dX3_digest_71 : decode cX3_digest 71 = .ok (.lmul, 1) := by decide +kernel
theorem dX3_digest_72 : decode cX3_digest 72 = .ok (.aload_n 0, 1) := by decide +kernel
theorem dX3_digest_73 : decode cX3_digest 73 = .ok (.getfield 13, 3) := by decide +kernel
theorem dX3_digest_76 : decode cX3_digest 76 = .ok (.iload_n 3, 1) := by decide +kernel
theorem dX3_digest_77 : decode cX3_digest 77 = .ok (.iaload, 1) := by decide +kernel
theorem dX3_digest_78 : decode cX3_digest 78 = .ok (.i2l, 1) := by decide +kernel
theorem dX3_digest_79 : decode cX3_digest 79 = .ok (.ladd, 1) := by decide +kernel
theorem dX3_digest_80 : decode cX3_digest 80 = .ok (.lstore_n 1, 1) := by decide +kernel
theorem dX3_digest_81 : decode cX3_digest 81 = .ok (.iconst 0, 1) := by decide +kernel
theorem dX3_digest_82 : decode cX3_digest 82 = .ok (.istore 4, 2) := by decide +kernel
theorem dX3_digest_84 : decode cX3_digest 84 = .ok (.iload 4, 2) := by decide +kernel
theorem dX3_digest_86 : decode cX3_digest 86 = .ok (.iconst 5, 1) := by decide +kernel
theorem dX3_digest_87 : decode cX3_digest 87 = .ok (.if_icmp .ge 24, 3) := by decide +kernel
theorem dX3_digest_90 : decode cX3_digest 90 = .ok (.lload_n 1, 1) := by decide +kernel
theorem dX3_digest_91 : decode cX3_digest 91 = .ok (.ldc2_w 125, 3) := by decide +kernel
theorem dX3_digest_94 : decode cX3_digest 94 = .ok (.lmul, 1) := by decide +kernel
theorem dX3_digest_95 : decode cX3_digest 95 = .ok (.aload_n 0, 1) := by decide +kernel
theorem dX3_digest_96 : decode cX3_digest 96 = .ok (.iload_n 3, 1) := by decide +kernel
theorem dX3_digest_97 : decode cX3_digest 97 = .ok (.iload 4, 2) := by decide +kernel
theorem dX3_digest_99 : decode cX3_digest 99 = .ok (.invokevirtual 58, 3) := by decide +kernel
theorem dX3_digest_102 : decode cX3_digest 102 = .ok (.i2l, 1) := by decide +kernel
theorem dX3_digest_103 : decode cX3_digest 103 = .ok (.ladd, 1) := by decide +kernel
theorem dX3_digest_104 : decode cX3_digest 104 = .ok (.lstore_n 1, 1) := by decide +kernel
theorem dX3_digest_105 : decode cX3_digest 105 = .ok (.iinc 4 1, 3) := by decide +kernel
theorem dX3_digest_108 : decode cX3_digest 108 = .ok (.goto (-24), 3) := by decide +kernel
theorem dX3_digest_111 : decode cX3_digest 111 = .ok (.iinc 3 1, 3) := by decide +kernel
theorem dX3_digest_114 : decode cX3_digest 114 = .ok (.goto (-55), 3) := by decide +kernel
theorem dX3_digest_117 : decode cX3_digest 117 = .ok (.lload_n 1, 1) := by decide +kernel
theorem dX3_digest_118 : decode cX3_digest 118 = .ok (.ldc2_w 125, 3) := by decide +kernel
theorem dX3_digest_121 : decode cX3_digest 121 = .ok (.lmul, 1) := by decide +kernel
theorem dX3_digest_122 : decode cX3_digest 122 = .ok (.aload_n 0, 1) := by decide +kernel
theorem dX3_digest_123 : decode cX3_digest 123 = .ok (.getfield 72, 3) := by decide +kernel
theorem dX3_digest_126 : decode cX3_digest 126 = .ok (.i2l, 1) := by decide +kernel
theorem dX3_digest_127 : decode cX3_digest 127 = .ok (.ladd, 1) := by decide +kernel
theorem dX3_digest_128 : decode cX3_digest 128 = .ok (.ldc2_w 125, 3) := by decide +kernel
theorem dX3_digest_131 : decode cX3_digest 131 = .ok (.lmul, 1) := by decide +kernel
theorem dX3_digest_132 : decode cX3_digest 132 = .ok (.aload_n 0, 1) := by decide +kernel
theorem dX3_digest_133 : decode cX3_digest 133 = .ok (.getfield 100, 3) := by decide +kernel
theorem dX3_digest_136 : decode cX3_digest 136 = .ok (.i2l, 1) := by decide +kernel
theorem dX3_digest_137 : decode cX3_digest 137 = .ok (.ladd, 1) := by decide +kernel
theorem dX3_digest_138 : decode cX3_digest 138 = .ok (.ldc2_w 125, 3) := by decide +kernel
theorem dX3_digest_141 : decode cX3_digest 141 = .ok (.lmul, 1) := by decide +kernel
theorem dX3_digest_142 : decode cX3_digest 142 = .ok (.aload_n 0, 1) := by decide +kernel
theorem dX3_digest_143 : decode cX3_digest 143 = .ok (.getfield 47, 3) := by decide +kernel
theorem dX3_digest_146 : decode cX3_digest 146 = .ok (.i2l, 1) := by decide +kernel
theorem dX3_digest_147 : decode cX3_digest 147 = .ok (.ladd, 1) := by decide +kernel
theorem dX3_digest_148 : decode cX3_digest 148 = .ok (.lstore_n 1, 1) := by decide +kernel
theorem dX3_digest_149 : decode cX3_digest 149 = .ok (.iconst 0, 1) := by decide +kernel
theorem dX3_digest_150 : decode cX3_digest 150 = .ok (.istore_n 3, 1) := by decide +kernel
theorem dX3_digest_151 : decode cX3_digest 151 = .ok (.iload_n 3, 1) := by decide +kernel
theorem dX3_digest_152 : decode cX3_digest 152 = .ok (.aload_n 0, 1) := by decide +kernel
theorem dX3_digest_153 : decode cX3_digest 153 = .ok (.getfield 47, 3) := by decide +kernel
theorem dX3_digest_156 : decode cX3_digest 156 = .ok (.if_icmp .ge 39, 3) := by decide +kernel
theorem dX3_digest_159 : decode cX3_digest 159 = .ok (.iconst 0, 1) := by decide +kernel
theorem dX3_digest_160 : decode cX3_digest 160 = .ok (.istore 4, 2) := by decide +kernel
theorem dX3_digest_162 : decode cX3_digest 162 = .ok (.iload 4, 2) := by decide +kernel
theorem dX3_digest_164 : decode cX3_digest 164 = .ok (.iconst 5, 1) := by decide +kernel
theorem dX3_digest_165 : decode cX3_digest 165 = .ok (.if_icmp .ge 24, 3) := by decide +kernel
theorem dX3_digest_168 : decode cX3_digest 168 = .ok (.lload_n 1, 1) := by decide +kernel
theorem dX3_digest_169 : decode cX3_digest 169 = .ok (.ldc2_w 125, 3) := by decide +kernel
theorem dX3_digest_172 : decode cX3_digest 172 = .ok (.lmul, 1) := by decide +kernel
theorem dX3_digest_173 : decode cX3_digest 173 = .ok (.aload_n 0, 1) := by decide +kernel
theorem dX3_digest_174 : decode cX3_digest 174 = .ok (.iload_n 3, 1) := by decide +kernel
theorem dX3_digest_175 : decode cX3_digest 175 = .ok (.iload 4, 2) := by decide +kernel
theorem dX3_digest_177 : decode cX3_digest 177 = .ok (.invokevirtual 117, 3) := by decide +kernel
theorem dX3_digest_180 : decode cX3_digest 180 = .ok (.i2l, 1) := by decide +kernel
theorem dX3_digest_181 : decode cX3_digest 181 = .ok (.ladd, 1) := by decide +kernel
theorem dX3_digest_182 : decode cX3_digest 182 = .ok (.lstore_n 1, 1) := by decide +kernel
theorem dX3_digest_183 : decode cX3_digest 183 = .ok (.iinc 4 1, 3) := by decide +kernel
theorem dX3_digest_186 : decode cX3_digest 186 = .ok (.goto (-24), 3) := by decide +kernel
theorem dX3_digest_189 : decode cX3_digest 189 = .ok (.iinc 3 1, 3) := by decide +kernel
theorem dX3_digest_192 : decode cX3_digest 192 = .ok (.goto (-41), 3) := by decide +kernel
theorem dX3_digest_195 : decode cX3_digest 195 = .ok (.lload_n 1, 1) := by decide +kernel
theorem dX3_digest_196 : decode cX3_digest 196 = .ok (.lreturn, 1) := by decide +kernel
theorem dJ6_bitCount_0f7a4_0 : decode cJ6_bitCount_0f7a4 0 = .ok (.iload_n 0, 1) := by decide +kernel
theorem dJ6_bitCount_0f7a4_1 : decode cJ6_bitCount_0f7a4 1 = .ok (.iload_n 0, 1) := by decide +kernel
theorem dJ6_bitCount_0f7a4_2 : decode cJ6_bitCount_0f7a4 2 = .ok (.iconst 1, 1) := by decide +kernel
theorem dJ6_bitCount_0f7a4_3 : decode cJ6_bitCount_0f7a4 3 = .ok (.iushr, 1) := by decide +kernel
theorem dJ6_bitCount_0f7a4_4 : decode cJ6_bitCount_0f7a4 4 = .ok (.ldc_w 265, 3) := by decide +kernel
theorem dJ6_bitCount_0f7a4_7 : decode cJ6_bitCount_0f7a4 7 = .ok (.iand, 1) := by decide +kernel
theorem dJ6_bitCount_0f7a4_8 : decode cJ6_bitCount_0f7a4 8 = .ok (.isub, 1) := by decide +kernel
theorem dJ6_bitCount_0f7a4_9 : decode cJ6_bitCount_0f7a4 9 = .ok (.istore_n 0, 1) := by decide +kernel
theorem dJ6_bitCount_0f7a4_10 : decode cJ6_bitCount_0f7a4 10 = .ok (.iload_n 0, 1) := by decide +kernel
theorem dJ6_bitCount_0f7a4_11 : decode cJ6_bitCount_0f7a4 11 = .ok (.ldc_w 266, 3) := by decide +kernel
theorem dJ6_bitCount_0f7a4_14 : decode cJ6_bitCount_0f7a4 14 = .ok (.iand, 1) := by decide +kernel
theorem dJ6_bitCount_0f7a4_15 : decode cJ6_bitCount_0f7a4 15 = .ok (.iload_n 0, 1) := by decide +kernel
theorem dJ6_bitCount_0f7a4_16 : decode cJ6_bitCount_0f7a4 16 = .ok (.iconst 2, 1) := by decide +kernel
theorem dJ6_bitCount_0f7a4_17 : decode cJ6_bitCount_0f7a4 17 = .ok (.iushr, 1) := by decide +kernel
theorem dJ6_bitCount_0f7a4_18 : decode cJ6_bitCount_0f7a4 18 = .ok (.ldc_w 266, 3) := by decide +kernel
theorem dJ6_bitCount_0f7a4_21 : decode cJ6_bitCount_0f7a4 21 = .ok (.iand, 1) := by decide +kernel
theorem dJ6_bitCount_0f7a4_22 : decode cJ6_bitCount_0f7a4 22 = .ok (.iadd, 1) := by decide +kernel
theorem dJ6_bitCount_0f7a4_23 : decode cJ6_bitCount_0f7a4 23 = .ok (.istore_n 0, 1) := by decide +kernel
theorem dJ6_bitCount_0f7a4_24 : decode cJ6_bitCount_0f7a4 24 = .ok (.iload_n 0, 1) := by decide +kernel
theorem dJ6_bitCount_0f7a4_25 : decode cJ6_bitCount_0f7a4 25 = .ok (.iload_n 0, 1) := by decide +kernel
theorem dJ6_bitCount_0f7a4_26 : decode cJ6_bitCount_0f7a4 26 = .ok (.iconst 4, 1) := by decide +kernel
theorem dJ6_bitCount_0f7a4_27 : decode cJ6_bitCount_0f7a4 27 = .ok (.iushr, 1) := by decide +kernel
theorem dJ6_bitCount_0f7a4_28 : decode cJ6_bitCount_0f7a4 28 = .ok (.iadd, 1) := by decide +kernel
theorem dJ6_bitCount_0f7a4_29 : decode cJ6_bitCount_0f7a4 29 = .ok (.ldc_w 267, 3) := by decide +kernel
theorem dJ6_bitCount_0f7a4_32 : decode cJ6_bitCount_0f7a4 32 = .ok (.iand, 1) := by decide +kernel
theorem dJ6_bitCount_0f7a4_33 : decode cJ6_bitCount_0f7a4 33 = .ok (.istore_n 0, 1) := by decide +kernel
theorem dJ6_bitCount_0f7a4_34 : decode cJ6_bitCount_0f7a4 34 = .ok (.iload_n 0, 1) := by decide +kernel
theorem dJ6_bitCount_0f7a4_35 : decode cJ6_bitCount_0f7a4 35 = .ok (.iload_n 0, 1) := by decide +kernel
theorem dJ6_bitCount_0f7a4_36 : decode cJ6_bitCount_0f7a4 36 = .ok (.bipush 8, 2) := by decide +kernel
theorem dJ6_bitCount_0f7a4_38 : decode cJ6_bitCount_0f7a4 38 = .ok (.iushr, 1) := by decide +kernel
theorem dJ6_bitCount_0f7a4_39 : decode cJ6_bitCount_0f7a4 39 = .ok (.iadd, 1) := by decide +kernel
theorem dJ6_bitCount_0f7a4_40 : decode cJ6_bitCount_0f7a4 40 = .ok (.istore_n 0, 1) := by decide +kernel
theorem dJ6_bitCount_0f7a4_41 : decode cJ6_bitCount_0f7a4 41 = .ok (.iload_n 0, 1) := by decide +kernel
theorem dJ6_bitCount_0f7a4_42 : decode cJ6_bitCount_0f7a4 42 = .ok (.iload_n 0, 1) := by decide +kernel
theorem dJ6_bitCount_0f7a4_43 : decode cJ6_bitCount_0f7a4 43 = .ok (.bipush 16, 2) := by decide +kernel
theorem dJ6_bitCount_0f7a4_45 : decode cJ6_bitCount_0f7a4 45 = .ok (.iushr, 1) := by decide +kernel
theorem dJ6_bitCount_0f7a4_46 : decode cJ6_bitCount_0f7a4 46 = .ok (.iadd, 1) := by decide +kernel
theorem dJ6_bitCount_0f7a4_47 : decode cJ6_bitCount_0f7a4 47 = .ok (.istore_n 0, 1) := by decide +kernel
theorem dJ6_bitCount_0f7a4_48 : decode cJ6_bitCount_0f7a4 48 = .ok (.iload_n 0, 1) := by decide +kernel
theorem dJ6_bitCount_0f7a4_49 : decode cJ6_bitCount_0f7a4 49 = .ok (.bipush 63, 2) := by decide +kernel
theorem dJ6_bitCount_0f7a4_51 : decode cJ6_bitCount_0f7a4 51 = .ok (.iand, 1) := by decide +kernel
theorem dJ6_bitCount_0f7a4_52 : decode cJ6_bitCount_0f7a4 52 = .ok (.ireturn, 1) := by decide +kernel
theorem dJ9_max_7cf53_0 : decode cJ9_max_7cf53 0 = .ok (.iload_n 0, 1) := by decide +kernel
theorem dJ9_max_7cf53_1 : decode cJ9_max_7cf53 1 = .ok (.iload_n 1, 1) := by decide +kernel
theorem dJ9_max_7cf53_2 : decode cJ9_max_7cf53 2 = .ok (.if_icmp .lt 7, 3) := by decide +kernel
theorem dJ9_max_7cf53_5 : decode cJ9_max_7cf53 5 = .ok (.iload_n 0, 1) := by decide +kernel
theorem dJ9_max_7cf53_6 : decode cJ9_max_7cf53 6 = .ok (.goto 4, 3) := by decide +kernel
theorem dJ9_max_7cf53_9 : decode cJ9_max_7cf53 9 = .ok (.iload_n 1, 1) := by decide +kernel
theorem dJ9_max_7cf53_10 : decode cJ9_max_7cf53 10 = .ok (.ireturn, 1) := by decide +kernel
end
section
set_option maxRecDepth 20000 in
theorem ggL_addKey_X2_addKey : GoodIn wsL_addKey wsX2_addKey := goodIn_ca (goodIn_ca (goodIn_r _ [7, 8, 9, 10, 11, 12, 13, 14, 15, 16, 17, 18, 19, 20, 21, 22, 23, 24, 25, 26, 27, 28, 29, 30, 31, 32, 33, 34, 35, 36, 37, 38, 39, 40, 41] (by decide +kernel) (by decide +kernel)) (goodIn_sub (fun _ h => List.mem_cons_of_mem _ (List.mem_append_left _ (List.mem_append_right _ h))) (by decide +kernel))) (goodIn_sub (fun _ h => List.mem_cons_of_mem _ (List.mem_append_right _ h)) (by decide +kernel))
set_option maxRecDepth 20000 in
theorem gL_addKey_X2_addKey : GoodIn wsL_addKey (wsV RL 7 RX2 yX2_addKey wsX2_addKey) := goodIn_app (goodIn_of _ (by decide +kernel)) ggL_addKey_X2_addKey
theorem dL_addKey_0 : decode cL_addKey 0 = .ok (.aload_n 2, 1) := by decide +kernel
theorem dL_addKey_1 : decode cL_addKey 1 = .ok (.iconst 0, 1) := by decide +kernel
theorem dL_addKey_2 : decode cL_addKey 2 = .ok (.aload_n 0, 1) := by decide +kernel
theorem dL_addKey_3 : decode cL_addKey 3 = .ok (.iload_n 1, 1) := by decide +kernel
theorem dL_addKey_4 : decode cL_addKey 4 = .ok (.invokevirtual 7, 3) := by decide +kernel
theorem dL_addKey_7 : decode cL_addKey 7 = .ok (.i2l, 1) := by decide +kernel
theorem dL_addKey_8 : decode cL_addKey 8 = .ok (.lastore, 1) := by decide +kernel
theorem dL_addKey_9 : decode cL_addKey 9 = .ok (.goto 9, 3) := by decide +kernel
theorem dL_addKey_12 : decode cL_addKey 12 = .ok (.astore_n 3, 1) := by decide +kernel
theorem dL_addKey_13 : decode cL_addKey 13 = .ok (.iconst 1, 1) := by decide +kernel
theorem dL_addKey_14 : decode cL_addKey 14 = .ok (.ireturn, 1) := by decide +kernel
theorem dL_addKey_15 : decode cL_addKey 15 = .ok (.astore_n 3, 1) := by decide +kernel
theorem dL_addKey_16 : decode cL_addKey 16 = .ok (.iconst 2, 1) := by decide +kernel
theorem dL_addKey_17 : decode cL_addKey 17 = .ok (.ireturn, 1) := by decide +kernel
theorem dL_addKey_18 : decode cL_addKey 18 = .ok (.iconst 0, 1) := by decide +kernel
theorem dL_addKey_19 : decode cL_addKey 19 = .ok (.ireturn, 1) := by decide +kernel
set_option maxRecDepth 20000 in
theorem ggL_addDoor_X2_addDoor : GoodIn wsL_addDoor wsX2_addDoor := goodIn_ca (goodIn_ca (goodIn_r _ [7, 8, 9, 10, 11, 12, 13, 14, 6, 15, 16, 17, 18, 19, 20, 21, 22, 23, 24, 25, 26, 27, 28, 29, 30, 31, 32, 33, 34, 35, 36, 37, 38, 39, 40, 41, 42, 43, 44, 45, 46, 47, 48, 49, 50, 51, 52, 53, 54, 55, 56, 57, 58, 59, 60, 61, 62, 63, 64] (by decide +kernel) (by decide +kernel)) (goodIn_sub (fun _ h => List.mem_cons_of_mem _ (List.mem_append_left _ (List.mem_append_right _ h))) (by decide +kernel))) (goodIn_sub (fun _ h => List.mem_cons_of_mem _ (List.mem_append_right _ h)) (by decide +kernel))
set_option maxRecDepth 20000 in
theorem gL_addDoor_X2_addDoor : GoodIn wsL_addDoor (wsV RL 17 RX2 yX2_addDoor wsX2_addDoor) := goodIn_app (goodIn_of _ (by decide +kernel)) ggL_addDoor_X2_addDoor
theorem dL_addDoor_0 : decode cL_addDoor 0 = .ok (.aload_n 2, 1) := by decide +kernel
theorem dL_addDoor_1 : decode cL_addDoor 1 = .ok (.iconst 0, 1) := by decide +kernel
theorem dL_addDoor_2 : decode cL_addDoor 2 = .ok (.aload_n 0, 1) := by decide +kernel
theorem dL_addDoor_3 : decode cL_addDoor 3 = .ok (.iload_n 1, 1) := by decide +kernel
theorem dL_addDoor_4 : decode cL_addDoor 4 = .ok (.invokevirtual 17, 3) := by decide +kernel
theorem dL_addDoor_7 : decode cL_addDoor 7 = .ok (.i2l, 1) := by decide +kernel
theorem dL_addDoor_8 : decode cL_addDoor 8 = .ok (.lastore, 1) := by decide +kernel
theorem dL_addDoor_9 : decode cL_addDoor 9 = .ok (.goto 9, 3) := by decide +kernel
theorem dL_addDoor_12 : decode cL_addDoor 12 = .ok (.astore_n 3, 1) := by decide +kernel
theorem dL_addDoor_13 : decode cL_addDoor 13 = .ok (.iconst 1, 1) := by decide +kernel
theorem dL_addDoor_14 : decode cL_addDoor 14 = .ok (.ireturn, 1) := by decide +kernel
theorem dL_addDoor_15 : decode cL_addDoor 15 = .ok (.astore_n 3, 1) := by decide +kernel
theorem dL_addDoor_16 : decode cL_addDoor 16 = .ok (.iconst 2, 1) := by decide +kernel
theorem dL_addDoor_17 : decode cL_addDoor 17 = .ok (.ireturn, 1) := by decide +kernel
theorem dL_addDoor_18 : decode cL_addDoor 18 = .ok (.iconst 0, 1) := by decide +kernel
theorem dL_addDoor_19 : decode cL_addDoor 19 = .ok (.ireturn, 1) := by decide +kernel
set_option maxRecDepth 20000 in
theorem ggL_setRights_X2_setRights : GoodIn wsL_setRights wsX2_setRights := goodIn_ca (goodIn_ca (goodIn_r _ [7, 8, 9, 10, 11, 12, 6, 13, 14, 15, 16, 17, 18, 19, 20, 21, 22, 23, 24, 25, 26, 27, 28, 29, 30, 31, 32, 33, 34, 35, 36, 37, 38, 39, 40, 41, 42, 43, 44, 45, 46, 47, 48, 49, 50, 51, 52, 53, 54, 55, 56, 57, 58, 59, 60, 61, 62, 63, 64] (by decide +kernel) (by decide +kernel)) (goodIn_sub (fun _ h => List.mem_cons_of_mem _ (List.mem_append_left _ (List.mem_append_right _ h))) (by decide +kernel))) (goodIn_sub (fun _ h => List.mem_cons_of_mem _ (List.mem_append_right _ h)) (by decide +kernel))
set_option maxRecDepth 20000 in
theorem gL_setRights_X2_setRights : GoodIn wsL_setRights (wsV RL 20 RX2 yX2_setRights wsX2_setRights) := goodIn_app (goodIn_of _ (by decide +kernel)) ggL_setRights_X2_setRights
theorem dL_setRights_0 : decode cL_setRights 0 = .ok (.aload_n 3, 1) := by decide +kernel
theorem dL_setRights_1 : decode cL_setRights 1 = .ok (.iconst 0, 1) := by decide +kernel
theorem dL_setRights_2 : decode cL_setRights 2 = .ok (.aload_n 0, 1) := by decide +kernel
theorem dL_setRights_3 : decode cL_setRights 3 = .ok (.iload_n 1, 1) := by decide +kernel
theorem dL_setRights_4 : decode cL_setRights 4 = .ok (.iload_n 2, 1) := by decide +kernel
theorem dL_setRights_5 : decode cL_setRights 5 = .ok (.invokevirtual 20, 3) := by decide +kernel
theorem dL_setRights_8 : decode cL_setRights 8 = .ok (.i2l, 1) := by decide +kernel
theorem dL_setRights_9 : decode cL_setRights 9 = .ok (.lastore, 1) := by decide +kernel
theorem dL_setRights_10 : decode cL_setRights 10 = .ok (.goto 11, 3) := by decide +kernel
theorem dL_setRights_13 : decode cL_setRights 13 = .ok (.astore 4, 2) := by decide +kernel
theorem dL_setRights_15 : decode cL_setRights 15 = .ok (.iconst 1, 1) := by decide +kernel
theorem dL_setRights_16 : decode cL_setRights 16 = .ok (.ireturn, 1) := by decide +kernel
theorem dL_setRights_17 : decode cL_setRights 17 = .ok (.astore 4, 2) := by decide +kernel
theorem dL_setRights_19 : decode cL_setRights 19 = .ok (.iconst 2, 1) := by decide +kernel
theorem dL_setRights_20 : decode cL_setRights 20 = .ok (.ireturn, 1) := by decide +kernel
theorem dL_setRights_21 : decode cL_setRights 21 = .ok (.iconst 0, 1) := by decide +kernel
theorem dL_setRights_22 : decode cL_setRights 22 = .ok (.ireturn, 1) := by decide +kernel
set_option maxRecDepth 20000 in
theorem ggL_code_X2_code : GoodIn wsL_code wsX2_code := goodIn_ca (goodIn_r _ [6, 7, 8, 9, 10, 11, 5, 12, 13, 14, 15, 16, 17, 18, 19, 20, 21, 22, 23, 24, 25, 26, 27, 28] (by decide +kernel) (by decide +kernel)) (goodIn_sub (fun _ h => List.mem_cons_of_mem _ (List.mem_append_right _ h)) (by decide +kernel))
set_option maxRecDepth 20000 in
theorem gL_code_X2_code : GoodIn wsL_code (wsV RL 26 RX2 yX2_code wsX2_code) := goodIn_app (goodIn_of _ (by decide +kernel)) ggL_code_X2_code
theorem dL_code_0 : decode cL_code 0 = .ok (.aload_n 2, 1) := by decide +kernel
theorem dL_code_1 : decode cL_code 1 = .ok (.iconst 0, 1) := by decide +kernel
theorem dL_code_2 : decode cL_code 2 = .ok (.aload_n 0, 1) := by decide +kernel
theorem dL_code_3 : decode cL_code 3 = .ok (.iload_n 1, 1) := by decide +kernel
theorem dL_code_4 : decode cL_code 4 = .ok (.invokevirtual 26, 3) := by decide +kernel
theorem dL_code_7 : decode cL_code 7 = .ok (.i2l, 1) := by decide +kernel
theorem dL_code_8 : decode cL_code 8 = .ok (.lastore, 1) := by decide +kernel
theorem dL_code_9 : decode cL_code 9 = .ok (.goto 6, 3) := by decide +kernel
theorem dL_code_12 : decode cL_code 12 = .ok (.astore_n 3, 1) := by decide +kernel
theorem dL_code_13 : decode cL_code 13 = .ok (.iconst 1, 1) := by decide +kernel
theorem dL_code_14 : decode cL_code 14 = .ok (.ireturn, 1) := by decide +kernel
theorem dL_code_15 : decode cL_code 15 = .ok (.iconst 0, 1) := by decide +kernel
theorem dL_code_16 : decode cL_code 16 = .ok (.ireturn, 1) := by decide +kernel
set_option maxRecDepth 20000 in
theorem ggL_pins_X2_pins : GoodIn wsL_pins wsX2_pins := goodIn_ca (goodIn_r _ [6, 7, 8, 9, 10, 11, 12, 5, 13, 14, 15, 16, 17, 18, 19, 20, 21, 22, 23, 24, 25, 26, 27, 28, 29, 30, 31, 32, 33] (by decide +kernel) (by decide +kernel)) (goodIn_sub (fun _ h => List.mem_cons_of_mem _ (List.mem_append_right _ h)) (by decide +kernel))
set_option maxRecDepth 20000 in
theorem gL_pins_X2_pins : GoodIn wsL_pins (wsV RL 29 RX2 yX2_pins wsX2_pins) := goodIn_app (goodIn_of _ (by decide +kernel)) ggL_pins_X2_pins
theorem dL_pins_0 : decode cL_pins 0 = .ok (.aload_n 3, 1) := by decide +kernel
theorem dL_pins_1 : decode cL_pins 1 = .ok (.iconst 0, 1) := by decide +kernel
theorem dL_pins_2 : decode cL_pins 2 = .ok (.aload_n 0, 1) := by decide +kernel
theorem dL_pins_3 : decode cL_pins 3 = .ok (.iload_n 1, 1) := by decide +kernel
theorem dL_pins_4 : decode cL_pins 4 = .ok (.iload_n 2, 1) := by decide +kernel
theorem dL_pins_5 : decode cL_pins 5 = .ok (.invokevirtual 29, 3) := by decide +kernel
theorem dL_pins_8 : decode cL_pins 8 = .ok (.i2l, 1) := by decide +kernel
theorem dL_pins_9 : decode cL_pins 9 = .ok (.lastore, 1) := by decide +kernel
theorem dL_pins_10 : decode cL_pins 10 = .ok (.goto 7, 3) := by decide +kernel
theorem dL_pins_13 : decode cL_pins 13 = .ok (.astore 4, 2) := by decide +kernel
theorem dL_pins_15 : decode cL_pins 15 = .ok (.iconst 1, 1) := by decide +kernel
theorem dL_pins_16 : decode cL_pins 16 = .ok (.ireturn, 1) := by decide +kernel
theorem dL_pins_17 : decode cL_pins 17 = .ok (.iconst 0, 1) := by decide +kernel
theorem dL_pins_18 : decode cL_pins 18 = .ok (.ireturn, 1) := by decide +kernel
set_option maxRecDepth 20000 in
theorem ggL_opens_X2_opens : GoodIn wsL_opens wsX2_opens := goodIn_ca (goodIn_r _ [6, 7, 8, 9, 10, 5, 11, 12, 13, 14, 15, 16, 17, 18, 19, 20, 21, 22, 23, 24, 25, 26, 27, 28, 29, 30, 31, 32, 33, 34, 35, 36, 37, 38, 39, 40, 41] (by decide +kernel) (by decide +kernel)) (goodIn_sub (fun _ h => List.mem_cons_of_mem _ (List.mem_append_right _ h)) (by decide +kernel))
set_option maxRecDepth 20000 in
theorem gL_opens_X2_opens : GoodIn wsL_opens (wsV RL 32 RX2 yX2_opens wsX2_opens) := goodIn_app (goodIn_of _ (by decide +kernel)) ggL_opens_X2_opens
theorem dL_opens_0 : decode cL_opens 0 = .ok (.aload_n 3, 1) := by decide +kernel
theorem dL_opens_1 : decode cL_opens 1 = .ok (.iconst 0, 1) := by decide +kernel
theorem dL_opens_2 : decode cL_opens 2 = .ok (.aload_n 0, 1) := by decide +kernel
theorem dL_opens_3 : decode cL_opens 3 = .ok (.iload_n 1, 1) := by decide +kernel
theorem dL_opens_4 : decode cL_opens 4 = .ok (.iload_n 2, 1) := by decide +kernel
theorem dL_opens_5 : decode cL_opens 5 = .ok (.invokevirtual 32, 3) := by decide +kernel
theorem dL_opens_8 : decode cL_opens 8 = .ok (.ifCond .eq 7, 3) := by decide +kernel
theorem dL_opens_11 : decode cL_opens 11 = .ok (.lconst 1, 1) := by decide +kernel
theorem dL_opens_12 : decode cL_opens 12 = .ok (.goto 4, 3) := by decide +kernel
theorem dL_opens_15 : decode cL_opens 15 = .ok (.lconst 0, 1) := by decide +kernel
theorem dL_opens_16 : decode cL_opens 16 = .ok (.lastore, 1) := by decide +kernel
theorem dL_opens_17 : decode cL_opens 17 = .ok (.goto 7, 3) := by decide +kernel
theorem dL_opens_20 : decode cL_opens 20 = .ok (.astore 4, 2) := by decide +kernel
theorem dL_opens_22 : decode cL_opens 22 = .ok (.iconst 1, 1) := by decide +kernel
theorem dL_opens_23 : decode cL_opens 23 = .ok (.ireturn, 1) := by decide +kernel
theorem dL_opens_24 : decode cL_opens 24 = .ok (.iconst 0, 1) := by decide +kernel
theorem dL_opens_25 : decode cL_opens 25 = .ok (.ireturn, 1) := by decide +kernel
set_option maxRecDepth 20000 in
theorem ggL_openers_X2_openers : GoodIn wsL_openers wsX2_openers := goodIn_ca (goodIn_r _ [6, 7, 8, 9, 10, 5, 11, 12, 13, 14, 15, 16, 17, 18, 19, 20, 21, 22, 23, 24, 25, 26, 27, 28, 29, 30, 31, 32, 33, 34, 35, 36, 37, 38, 39, 40, 41] (by decide +kernel) (by decide +kernel)) (goodIn_sub (fun _ h => List.mem_cons_of_mem _ (List.mem_append_right _ h)) (by decide +kernel))
set_option maxRecDepth 20000 in
theorem gL_openers_X2_openers : GoodIn wsL_openers (wsV RL 36 RX2 yX2_openers wsX2_openers) := goodIn_app (goodIn_of _ (by decide +kernel)) ggL_openers_X2_openers
theorem dL_openers_0 : decode cL_openers 0 = .ok (.aload_n 2, 1) := by decide +kernel
theorem dL_openers_1 : decode cL_openers 1 = .ok (.iconst 0, 1) := by decide +kernel
theorem dL_openers_2 : decode cL_openers 2 = .ok (.aload_n 0, 1) := by decide +kernel
theorem dL_openers_3 : decode cL_openers 3 = .ok (.iload_n 1, 1) := by decide +kernel
theorem dL_openers_4 : decode cL_openers 4 = .ok (.invokevirtual 36, 3) := by decide +kernel
theorem dL_openers_7 : decode cL_openers 7 = .ok (.i2l, 1) := by decide +kernel
theorem dL_openers_8 : decode cL_openers 8 = .ok (.lastore, 1) := by decide +kernel
theorem dL_openers_9 : decode cL_openers 9 = .ok (.goto 6, 3) := by decide +kernel
theorem dL_openers_12 : decode cL_openers 12 = .ok (.astore_n 3, 1) := by decide +kernel
theorem dL_openers_13 : decode cL_openers 13 = .ok (.iconst 1, 1) := by decide +kernel
theorem dL_openers_14 : decode cL_openers 14 = .ok (.ireturn, 1) := by decide +kernel
theorem dL_openers_15 : decode cL_openers 15 = .ok (.iconst 0, 1) := by decide +kernel
theorem dL_openers_16 : decode cL_openers 16 = .ok (.ireturn, 1) := by decide +kernel
set_option maxRecDepth 20000 in
theorem ggL_doors_X2_doors : GoodIn wsL_doors wsX2_doors := goodIn_ca (goodIn_r _ [6, 7, 8, 9, 10, 5, 11, 12, 13, 14, 15, 16, 17, 18, 19, 20, 21, 22, 23, 24, 25, 26, 27, 28, 29, 30, 31, 32, 33, 34, 35, 36, 37, 38, 39, 40, 41] (by decide +kernel) (by decide +kernel)) (goodIn_sub (fun _ h => List.mem_cons_of_mem _ (List.mem_append_right _ h)) (by decide +kernel))
set_option maxRecDepth 20000 in
theorem gL_doors_X2_doors : GoodIn wsL_doors (wsV RL 39 RX2 yX2_doors wsX2_doors) := goodIn_app (goodIn_of _ (by decide +kernel)) ggL_doors_X2_doors
theorem dL_doors_0 : decode cL_doors 0 = .ok (.aload_n 2, 1) := by decide +kernel
theorem dL_doors_1 : decode cL_doors 1 = .ok (.iconst 0, 1) := by decide +kernel
theorem dL_doors_2 : decode cL_doors 2 = .ok (.aload_n 0, 1) := by decide +kernel
theorem dL_doors_3 : decode cL_doors 3 = .ok (.iload_n 1, 1) := by decide +kernel
theorem dL_doors_4 : decode cL_doors 4 = .ok (.invokevirtual 39, 3) := by decide +kernel
theorem dL_doors_7 : decode cL_doors 7 = .ok (.i2l, 1) := by decide +kernel
theorem dL_doors_8 : decode cL_doors 8 = .ok (.lastore, 1) := by decide +kernel
theorem dL_doors_9 : decode cL_doors 9 = .ok (.goto 6, 3) := by decide +kernel
theorem dL_doors_12 : decode cL_doors 12 = .ok (.astore_n 3, 1) := by decide +kernel
theorem dL_doors_13 : decode cL_doors 13 = .ok (.iconst 1, 1) := by decide +kernel
theorem dL_doors_14 : decode cL_doors 14 = .ok (.ireturn, 1) := by decide +kernel
theorem dL_doors_15 : decode cL_doors 15 = .ok (.iconst 0, 1) := by decide +kernel
theorem dL_doors_16 : decode cL_doors 16 = .ok (.ireturn, 1) := by decide +kernel
set_option maxRecDepth 20000 in
theorem ggL_codes_X2_codes : GoodIn wsL_codes wsX2_codes := goodIn_ca (goodIn_r _ [6, 7, 8, 9, 10, 5, 11, 12, 13, 14, 15, 16, 17, 18, 19, 20, 21, 22, 23, 24, 25, 26, 27, 28, 29, 30, 31, 32, 33, 34, 35, 36, 37, 38, 39, 40, 41, 42, 43, 44] (by decide +kernel) (by decide +kernel)) (goodIn_sub (fun _ h => List.mem_cons_of_mem _ (List.mem_append_right _ h)) (by decide +kernel))
set_option maxRecDepth 20000 in
theorem gL_codes_X2_codes : GoodIn wsL_codes (wsV RL 42 RX2 yX2_codes wsX2_codes) := goodIn_app (goodIn_of _ (by decide +kernel)) ggL_codes_X2_codes
theorem dL_codes_0 : decode cL_codes 0 = .ok (.aload_n 2, 1) := by decide +kernel
theorem dL_codes_1 : decode cL_codes 1 = .ok (.iconst 0, 1) := by decide +kernel
theorem dL_codes_2 : decode cL_codes 2 = .ok (.aload_n 0, 1) := by decide +kernel
theorem dL_codes_3 : decode cL_codes 3 = .ok (.iload_n 1, 1) := by decide +kernel
theorem dL_codes_4 : decode cL_codes 4 = .ok (.invokevirtual 42, 3) := by decide +kernel
theorem dL_codes_7 : decode cL_codes 7 = .ok (.i2l, 1) := by decide +kernel
theorem dL_codes_8 : decode cL_codes 8 = .ok (.lastore, 1) := by decide +kernel
theorem dL_codes_9 : decode cL_codes 9 = .ok (.goto 6, 3) := by decide +kernel
theorem dL_codes_12 : decode cL_codes 12 = .ok (.astore_n 3, 1) := by decide +kernel
theorem dL_codes_13 : decode cL_codes 13 = .ok (.iconst 1, 1) := by decide +kernel
theorem dL_codes_14 : decode cL_codes 14 = .ok (.ireturn, 1) := by decide +kernel
theorem dL_codes_15 : decode cL_codes 15 = .ok (.iconst 0, 1) := by decide +kernel
theorem dL_codes_16 : decode cL_codes 16 = .ok (.ireturn, 1) := by decide +kernel
set_option maxRecDepth 20000 in
theorem ggL_isAbove_X2_isAbove : GoodIn wsL_isAbove wsX2_isAbove := goodIn_ca (goodIn_r _ [6, 7, 8, 9, 10, 5, 11, 12, 13, 14, 15, 16, 17, 18, 19, 20, 21, 22, 23, 24, 25, 26, 27, 28, 29, 30, 31, 32, 33, 34, 35, 36, 37, 38, 39, 40, 41, 42] (by decide +kernel) (by decide +kernel)) (goodIn_sub (fun _ h => List.mem_cons_of_mem _ (List.mem_append_right _ h)) (by decide +kernel))
set_option maxRecDepth 20000 in
theorem gL_isAbove_X2_isAbove : GoodIn wsL_isAbove (wsV RL 45 RX2 yX2_isAbove wsX2_isAbove) := goodIn_app (goodIn_of _ (by decide +kernel)) ggL_isAbove_X2_isAbove
theorem dL_isAbove_0 : decode cL_isAbove 0 = .ok (.aload_n 3, 1) := by decide +kernel
theorem dL_isAbove_1 : decode cL_isAbove 1 = .ok (.iconst 0, 1) := by decide +kernel
theorem dL_isAbove_2 : decode cL_isAbove 2 = .ok (.aload_n 0, 1) := by decide +kernel
theorem dL_isAbove_3 : decode cL_isAbove 3 = .ok (.iload_n 1, 1) := by decide +kernel
theorem dL_isAbove_4 : decode cL_isAbove 4 = .ok (.iload_n 2, 1) := by decide +kernel
theorem dL_isAbove_5 : decode cL_isAbove 5 = .ok (.invokevirtual 45, 3) := by decide +kernel
theorem dL_isAbove_8 : decode cL_isAbove 8 = .ok (.ifCond .eq 7, 3) := by decide +kernel
theorem dL_isAbove_11 : decode cL_isAbove 11 = .ok (.lconst 1, 1) := by decide +kernel
theorem dL_isAbove_12 : decode cL_isAbove 12 = .ok (.goto 4, 3) := by decide +kernel
theorem dL_isAbove_15 : decode cL_isAbove 15 = .ok (.lconst 0, 1) := by decide +kernel
theorem dL_isAbove_16 : decode cL_isAbove 16 = .ok (.lastore, 1) := by decide +kernel
theorem dL_isAbove_17 : decode cL_isAbove 17 = .ok (.goto 7, 3) := by decide +kernel
theorem dL_isAbove_20 : decode cL_isAbove 20 = .ok (.astore 4, 2) := by decide +kernel
theorem dL_isAbove_22 : decode cL_isAbove 22 = .ok (.iconst 1, 1) := by decide +kernel
theorem dL_isAbove_23 : decode cL_isAbove 23 = .ok (.ireturn, 1) := by decide +kernel
theorem dL_isAbove_24 : decode cL_isAbove 24 = .ok (.iconst 0, 1) := by decide +kernel
theorem dL_isAbove_25 : decode cL_isAbove 25 = .ok (.ireturn, 1) := by decide +kernel
set_option maxRecDepth 20000 in
theorem ggL_replace_X2_replace : GoodIn wsL_replace wsX2_replace := goodIn_ca (goodIn_r _ [6, 7, 8, 9, 10, 11, 12, 5, 13, 14, 15, 16, 17, 18, 19, 20, 21, 22, 23, 24, 25, 26, 27, 28, 29, 30, 31, 32, 33, 34, 35, 36, 37, 38, 39, 40, 41, 42, 43, 44, 45, 46, 47, 48, 49, 50, 51, 52, 53, 54, 55, 56, 57, 58, 59, 60, 61, 62, 63, 64, 65, 66, 67, 68, 69, 70, 71, 72, 73, 74, 75, 76, 77, 78, 79, 80, 81, 82, 83, 84, 85, 86, 87, 88, 89, 90, 91, 92, 93, 94, 95, 96, 97, 98, 99, 100, 101, 102, 103, 104, 105, 106, 107, 108, 109, 110, 111, 112] (by decide +kernel) (by decide +kernel)) (goodIn_sub (fun _ h => List.mem_cons_of_mem _ (List.mem_append_right _ h)) (by decide +kernel))
set_option maxRecDepth 20000 in
theorem gL_replace_X2_replace : GoodIn wsL_replace (wsV RL 48 RX2 yX2_replace wsX2_replace) := goodIn_app (goodIn_of _ (by decide +kernel)) ggL_replace_X2_replace
theorem dL_replace_0 : decode cL_replace 0 = .ok (.aload_n 2, 1) := by decide +kernel
theorem dL_replace_1 : decode cL_replace 1 = .ok (.iconst 0, 1) := by decide +kernel
theorem dL_replace_2 : decode cL_replace 2 = .ok (.aload_n 0, 1) := by decide +kernel
theorem dL_replace_3 : decode cL_replace 3 = .ok (.iload_n 1, 1) := by decide +kernel
theorem dL_replace_4 : decode cL_replace 4 = .ok (.invokevirtual 48, 3) := by decide +kernel
theorem dL_replace_7 : decode cL_replace 7 = .ok (.i2l, 1) := by decide +kernel
theorem dL_replace_8 : decode cL_replace 8 = .ok (.lastore, 1) := by decide +kernel
theorem dL_replace_9 : decode cL_replace 9 = .ok (.goto 6, 3) := by decide +kernel
theorem dL_replace_12 : decode cL_replace 12 = .ok (.astore_n 3, 1) := by decide +kernel
theorem dL_replace_13 : decode cL_replace 13 = .ok (.iconst 1, 1) := by decide +kernel
theorem dL_replace_14 : decode cL_replace 14 = .ok (.ireturn, 1) := by decide +kernel
theorem dL_replace_15 : decode cL_replace 15 = .ok (.iconst 0, 1) := by decide +kernel
theorem dL_replace_16 : decode cL_replace 16 = .ok (.ireturn, 1) := by decide +kernel
set_option maxRecDepth 20000 in
theorem ggL_cut_X2_cut : GoodIn wsL_cut wsX2_cut := goodIn_ca (goodIn_ca (goodIn_r _ [7, 8, 9, 10, 11, 12, 13, 14, 6, 15, 16, 17, 18, 19, 20, 21, 22, 23, 24, 25, 26, 27, 28, 29, 30, 31, 32, 33, 34, 35, 36, 37, 38, 39, 40, 41, 42, 43, 44, 45, 46, 47, 48] (by decide +kernel) (by decide +kernel)) (goodIn_sub (fun _ h => List.mem_cons_of_mem _ (List.mem_append_left _ (List.mem_append_right _ h))) (by decide +kernel))) (goodIn_sub (fun _ h => List.mem_cons_of_mem _ (List.mem_append_right _ h)) (by decide +kernel))
set_option maxRecDepth 20000 in
theorem gL_cut_X2_cut : GoodIn wsL_cut (wsV RL 51 RX2 yX2_cut wsX2_cut) := goodIn_app (goodIn_of _ (by decide +kernel)) ggL_cut_X2_cut
theorem dL_cut_0 : decode cL_cut 0 = .ok (.aload_n 2, 1) := by decide +kernel
theorem dL_cut_1 : decode cL_cut 1 = .ok (.iconst 0, 1) := by decide +kernel
theorem dL_cut_2 : decode cL_cut 2 = .ok (.aload_n 0, 1) := by decide +kernel
theorem dL_cut_3 : decode cL_cut 3 = .ok (.iload_n 1, 1) := by decide +kernel
theorem dL_cut_4 : decode cL_cut 4 = .ok (.invokevirtual 51, 3) := by decide +kernel
theorem dL_cut_7 : decode cL_cut 7 = .ok (.i2l, 1) := by decide +kernel
theorem dL_cut_8 : decode cL_cut 8 = .ok (.lastore, 1) := by decide +kernel
theorem dL_cut_9 : decode cL_cut 9 = .ok (.goto 9, 3) := by decide +kernel
theorem dL_cut_12 : decode cL_cut 12 = .ok (.astore_n 3, 1) := by decide +kernel
theorem dL_cut_13 : decode cL_cut 13 = .ok (.iconst 1, 1) := by decide +kernel
theorem dL_cut_14 : decode cL_cut 14 = .ok (.ireturn, 1) := by decide +kernel
theorem dL_cut_15 : decode cL_cut 15 = .ok (.astore_n 3, 1) := by decide +kernel
theorem dL_cut_16 : decode cL_cut 16 = .ok (.iconst 2, 1) := by decide +kernel
theorem dL_cut_17 : decode cL_cut 17 = .ok (.ireturn, 1) := by decide +kernel
theorem dL_cut_18 : decode cL_cut 18 = .ok (.iconst 0, 1) := by decide +kernel
theorem dL_cut_19 : decode cL_cut 19 = .ok (.ireturn, 1) := by decide +kernel
set_option maxRecDepth 20000 in
theorem ggL_lend_X2_lend : GoodIn wsL_lend wsX2_lend := goodIn_ca (goodIn_ca (goodIn_ca (goodIn_r _ [8, 9, 10, 11, 12, 13, 14, 15, 7, 16, 17, 18, 19, 20, 21, 22, 23, 24, 25, 26, 27, 28, 29, 30, 31, 32, 33, 34, 35, 36, 37, 38, 39, 40, 41, 42, 43, 44, 45, 46, 47, 48, 49, 50, 51, 52, 53, 54, 55, 56, 57, 58, 59, 60, 61] (by decide +kernel) (by decide +kernel)) (goodIn_sub (fun _ h => List.mem_cons_of_mem _ (List.mem_append_left _ (List.mem_append_left _ (List.mem_append_right _ h)))) (by decide +kernel))) (goodIn_sub (fun _ h => List.mem_cons_of_mem _ (List.mem_append_left _ (List.mem_append_right _ h))) (by decide +kernel))) (goodIn_sub (fun _ h => List.mem_cons_of_mem _ (List.mem_append_right _ h)) (by decide +kernel))
set_option maxRecDepth 20000 in
theorem gL_lend_X2_lend : GoodIn wsL_lend (wsV RL 54 RX2 yX2_lend wsX2_lend) := goodIn_app (goodIn_of _ (by decide +kernel)) ggL_lend_X2_lend
theorem dL_lend_0 : decode cL_lend 0 = .ok (.aload 4, 2) := by decide +kernel
theorem dL_lend_2 : decode cL_lend 2 = .ok (.iconst 0, 1) := by decide +kernel
theorem dL_lend_3 : decode cL_lend 3 = .ok (.aload_n 0, 1) := by decide +kernel
theorem dL_lend_4 : decode cL_lend 4 = .ok (.iload_n 1, 1) := by decide +kernel
theorem dL_lend_5 : decode cL_lend 5 = .ok (.iload_n 2, 1) := by decide +kernel
theorem dL_lend_6 : decode cL_lend 6 = .ok (.iload_n 3, 1) := by decide +kernel
theorem dL_lend_7 : decode cL_lend 7 = .ok (.invokevirtual 54, 3) := by decide +kernel
theorem dL_lend_10 : decode cL_lend 10 = .ok (.i2l, 1) := by decide +kernel
theorem dL_lend_11 : decode cL_lend 11 = .ok (.lastore, 1) := by decide +kernel
theorem dL_lend_12 : decode cL_lend 12 = .ok (.goto 15, 3) := by decide +kernel
theorem dL_lend_15 : decode cL_lend 15 = .ok (.astore 5, 2) := by decide +kernel
theorem dL_lend_17 : decode cL_lend 17 = .ok (.iconst 1, 1) := by decide +kernel
theorem dL_lend_18 : decode cL_lend 18 = .ok (.ireturn, 1) := by decide +kernel
theorem dL_lend_19 : decode cL_lend 19 = .ok (.astore 5, 2) := by decide +kernel
theorem dL_lend_21 : decode cL_lend 21 = .ok (.iconst 2, 1) := by decide +kernel
theorem dL_lend_22 : decode cL_lend 22 = .ok (.ireturn, 1) := by decide +kernel
theorem dL_lend_23 : decode cL_lend 23 = .ok (.astore 5, 2) := by decide +kernel
theorem dL_lend_25 : decode cL_lend 25 = .ok (.iconst 3, 1) := by decide +kernel
theorem dL_lend_26 : decode cL_lend 26 = .ok (.ireturn, 1) := by decide +kernel
theorem dL_lend_27 : decode cL_lend 27 = .ok (.iconst 0, 1) := by decide +kernel
theorem dL_lend_28 : decode cL_lend 28 = .ok (.ireturn, 1) := by decide +kernel
set_option maxRecDepth 20000 in
theorem ggL_giveBack_X2_giveBack : GoodIn wsL_giveBack wsX2_giveBack := goodIn_ca (goodIn_ca (goodIn_r _ [7, 8, 9, 10, 11, 12, 13, 14, 15, 16, 17, 18, 19, 6, 20, 21, 22, 23, 24, 25, 26, 27, 28, 29, 30, 31, 32, 33, 34, 35, 36, 37, 38, 39, 40, 41, 42, 43, 44, 45, 46, 47, 48, 49, 50, 51, 52, 53] (by decide +kernel) (by decide +kernel)) (goodIn_sub (fun _ h => List.mem_cons_of_mem _ (List.mem_append_left _ (List.mem_append_right _ h))) (by decide +kernel))) (goodIn_sub (fun _ h => List.mem_cons_of_mem _ (List.mem_append_right _ h)) (by decide +kernel))
set_option maxRecDepth 20000 in
theorem gL_giveBack_X2_giveBack : GoodIn wsL_giveBack (wsV RL 58 RX2 yX2_giveBack wsX2_giveBack) := goodIn_app (goodIn_of _ (by decide +kernel)) ggL_giveBack_X2_giveBack
theorem dL_giveBack_0 : decode cL_giveBack 0 = .ok (.aload_n 2, 1) := by decide +kernel
theorem dL_giveBack_1 : decode cL_giveBack 1 = .ok (.iconst 0, 1) := by decide +kernel
theorem dL_giveBack_2 : decode cL_giveBack 2 = .ok (.aload_n 0, 1) := by decide +kernel
theorem dL_giveBack_3 : decode cL_giveBack 3 = .ok (.iload_n 1, 1) := by decide +kernel
theorem dL_giveBack_4 : decode cL_giveBack 4 = .ok (.invokevirtual 58, 3) := by decide +kernel
theorem dL_giveBack_7 : decode cL_giveBack 7 = .ok (.i2l, 1) := by decide +kernel
theorem dL_giveBack_8 : decode cL_giveBack 8 = .ok (.lastore, 1) := by decide +kernel
theorem dL_giveBack_9 : decode cL_giveBack 9 = .ok (.goto 9, 3) := by decide +kernel
theorem dL_giveBack_12 : decode cL_giveBack 12 = .ok (.astore_n 3, 1) := by decide +kernel
theorem dL_giveBack_13 : decode cL_giveBack 13 = .ok (.iconst 1, 1) := by decide +kernel
theorem dL_giveBack_14 : decode cL_giveBack 14 = .ok (.ireturn, 1) := by decide +kernel
theorem dL_giveBack_15 : decode cL_giveBack 15 = .ok (.astore_n 3, 1) := by decide +kernel
theorem dL_giveBack_16 : decode cL_giveBack 16 = .ok (.iconst 2, 1) := by decide +kernel
theorem dL_giveBack_17 : decode cL_giveBack 17 = .ok (.ireturn, 1) := by decide +kernel
theorem dL_giveBack_18 : decode cL_giveBack 18 = .ok (.iconst 0, 1) := by decide +kernel
theorem dL_giveBack_19 : decode cL_giveBack 19 = .ok (.ireturn, 1) := by decide +kernel
set_option maxRecDepth 20000 in
theorem ggL_lose_X2_lose : GoodIn wsL_lose wsX2_lose := goodIn_ca (goodIn_ca (goodIn_r _ [7, 8, 9, 10, 11, 12, 13, 14, 15, 16, 17, 6, 18, 19, 20, 21, 22, 23, 24, 25, 26, 27, 28, 29, 30, 31, 32, 33, 34, 35, 36, 37, 38, 39, 40, 41, 42, 43, 44, 45, 46, 47, 48, 49, 50, 51, 52, 53, 54, 55, 56, 57, 58, 59, 60, 61, 62, 63, 64, 65, 66, 67, 68] (by decide +kernel) (by decide +kernel)) (goodIn_sub (fun _ h => List.mem_cons_of_mem _ (List.mem_append_left _ (List.mem_append_right _ h))) (by decide +kernel))) (goodIn_sub (fun _ h => List.mem_cons_of_mem _ (List.mem_append_right _ h)) (by decide +kernel))
set_option maxRecDepth 20000 in
theorem gL_lose_X2_lose : GoodIn wsL_lose (wsV RL 61 RX2 yX2_lose wsX2_lose) := goodIn_app (goodIn_of _ (by decide +kernel)) ggL_lose_X2_lose
theorem dL_lose_0 : decode cL_lose 0 = .ok (.aload_n 2, 1) := by decide +kernel
theorem dL_lose_1 : decode cL_lose 1 = .ok (.iconst 0, 1) := by decide +kernel
theorem dL_lose_2 : decode cL_lose 2 = .ok (.aload_n 0, 1) := by decide +kernel
theorem dL_lose_3 : decode cL_lose 3 = .ok (.iload_n 1, 1) := by decide +kernel
theorem dL_lose_4 : decode cL_lose 4 = .ok (.invokevirtual 61, 3) := by decide +kernel
theorem dL_lose_7 : decode cL_lose 7 = .ok (.i2l, 1) := by decide +kernel
theorem dL_lose_8 : decode cL_lose 8 = .ok (.lastore, 1) := by decide +kernel
theorem dL_lose_9 : decode cL_lose 9 = .ok (.goto 9, 3) := by decide +kernel
theorem dL_lose_12 : decode cL_lose 12 = .ok (.astore_n 3, 1) := by decide +kernel
theorem dL_lose_13 : decode cL_lose 13 = .ok (.iconst 1, 1) := by decide +kernel
theorem dL_lose_14 : decode cL_lose 14 = .ok (.ireturn, 1) := by decide +kernel
theorem dL_lose_15 : decode cL_lose 15 = .ok (.astore_n 3, 1) := by decide +kernel
theorem dL_lose_16 : decode cL_lose 16 = .ok (.iconst 2, 1) := by decide +kernel
theorem dL_lose_17 : decode cL_lose 17 = .ok (.ireturn, 1) := by decide +kernel
theorem dL_lose_18 : decode cL_lose 18 = .ok (.iconst 0, 1) := by decide +kernel
theorem dL_lose_19 : decode cL_lose 19 = .ok (.ireturn, 1) := by decide +kernel
set_option maxRecDepth 20000 in
theorem ggL_find_X2_find : GoodIn wsL_find wsX2_find := goodIn_ca (goodIn_ca (goodIn_r _ [7, 8, 9, 10, 11, 12, 13, 14, 15, 6, 16, 17, 18, 19, 20, 21, 22, 23, 24, 25, 26, 27, 28, 29, 30, 31, 32, 33, 34, 35, 36, 37, 38, 39, 40, 41, 42, 43, 44, 45, 46, 47, 48, 49, 50, 51, 52, 53, 54, 55, 56, 57, 58, 59, 60, 61, 62, 63, 64, 65, 66, 67, 68, 69, 70, 71, 72, 73, 74, 75, 76, 77, 78, 79, 80, 81, 82] (by decide +kernel) (by decide +kernel)) (goodIn_sub (fun _ h => List.mem_cons_of_mem _ (List.mem_append_left _ (List.mem_append_right _ h))) (by decide +kernel))) (goodIn_sub (fun _ h => List.mem_cons_of_mem _ (List.mem_append_right _ h)) (by decide +kernel))
set_option maxRecDepth 20000 in
theorem gL_find_X2_find : GoodIn wsL_find (wsV RL 64 RX2 yX2_find wsX2_find) := goodIn_app (goodIn_of _ (by decide +kernel)) ggL_find_X2_find
theorem dL_find_0 : decode cL_find 0 = .ok (.aload_n 2, 1) := by decide +kernel
theorem dL_find_1 : decode cL_find 1 = .ok (.iconst 0, 1) := by decide +kernel
theorem dL_find_2 : decode cL_find 2 = .ok (.aload_n 0, 1) := by decide +kernel
theorem dL_find_3 : decode cL_find 3 = .ok (.iload_n 1, 1) := by decide +kernel
theorem dL_find_4 : decode cL_find 4 = .ok (.invokevirtual 64, 3) := by decide +kernel
theorem dL_find_7 : decode cL_find 7 = .ok (.i2l, 1) := by decide +kernel
theorem dL_find_8 : decode cL_find 8 = .ok (.lastore, 1) := by decide +kernel
theorem dL_find_9 : decode cL_find 9 = .ok (.goto 9, 3) := by decide +kernel
theorem dL_find_12 : decode cL_find 12 = .ok (.astore_n 3, 1) := by decide +kernel
theorem dL_find_13 : decode cL_find 13 = .ok (.iconst 1, 1) := by decide +kernel
theorem dL_find_14 : decode cL_find 14 = .ok (.ireturn, 1) := by decide +kernel
theorem dL_find_15 : decode cL_find 15 = .ok (.astore_n 3, 1) := by decide +kernel
theorem dL_find_16 : decode cL_find 16 = .ok (.iconst 2, 1) := by decide +kernel
theorem dL_find_17 : decode cL_find 17 = .ok (.ireturn, 1) := by decide +kernel
theorem dL_find_18 : decode cL_find 18 = .ok (.iconst 0, 1) := by decide +kernel
theorem dL_find_19 : decode cL_find 19 = .ok (.ireturn, 1) := by decide +kernel
set_option maxRecDepth 20000 in
theorem ggL_pass_X2_pass : GoodIn wsL_pass wsX2_pass := goodIn_ca (goodIn_ca (goodIn_r _ [7, 8, 9, 10, 11, 12, 13, 6, 14, 15, 16, 17, 18, 19, 20, 21] (by decide +kernel) (by decide +kernel)) (goodIn_sub (fun _ h => List.mem_cons_of_mem _ (List.mem_append_left _ (List.mem_append_right _ h))) (by decide +kernel))) (goodIn_sub (fun _ h => List.mem_cons_of_mem _ (List.mem_append_right _ h)) (by decide +kernel))
set_option maxRecDepth 20000 in
theorem gL_pass_X2_pass : GoodIn wsL_pass (wsV RL 67 RX2 yX2_pass wsX2_pass) := goodIn_app (goodIn_of _ (by decide +kernel)) ggL_pass_X2_pass
theorem dL_pass_0 : decode cL_pass 0 = .ok (.aload_n 2, 1) := by decide +kernel
theorem dL_pass_1 : decode cL_pass 1 = .ok (.iconst 0, 1) := by decide +kernel
theorem dL_pass_2 : decode cL_pass 2 = .ok (.aload_n 0, 1) := by decide +kernel
theorem dL_pass_3 : decode cL_pass 3 = .ok (.iload_n 1, 1) := by decide +kernel
theorem dL_pass_4 : decode cL_pass 4 = .ok (.invokevirtual 67, 3) := by decide +kernel
theorem dL_pass_7 : decode cL_pass 7 = .ok (.i2l, 1) := by decide +kernel
theorem dL_pass_8 : decode cL_pass 8 = .ok (.lastore, 1) := by decide +kernel
theorem dL_pass_9 : decode cL_pass 9 = .ok (.goto 9, 3) := by decide +kernel
theorem dL_pass_12 : decode cL_pass 12 = .ok (.astore_n 3, 1) := by decide +kernel
theorem dL_pass_13 : decode cL_pass 13 = .ok (.iconst 1, 1) := by decide +kernel
theorem dL_pass_14 : decode cL_pass 14 = .ok (.ireturn, 1) := by decide +kernel
theorem dL_pass_15 : decode cL_pass 15 = .ok (.astore_n 3, 1) := by decide +kernel
theorem dL_pass_16 : decode cL_pass 16 = .ok (.iconst 2, 1) := by decide +kernel
theorem dL_pass_17 : decode cL_pass 17 = .ok (.ireturn, 1) := by decide +kernel
theorem dL_pass_18 : decode cL_pass 18 = .ok (.iconst 0, 1) := by decide +kernel
theorem dL_pass_19 : decode cL_pass 19 = .ok (.ireturn, 1) := by decide +kernel
set_option maxRecDepth 20000 in
theorem ggL_copy_X2_copy : GoodIn wsL_copy wsX2_copy := goodIn_ca (goodIn_r _ [6, 7, 8, 9, 10, 11, 12, 13, 14, 15, 5, 16, 17, 18, 19, 20, 21, 22, 23, 24, 25, 26, 27, 28, 29, 30, 31, 32, 33, 34, 35, 36, 37, 38, 39, 40, 41, 42, 43, 44, 45, 46, 47] (by decide +kernel) (by decide +kernel)) (goodIn_sub (fun _ h => List.mem_cons_of_mem _ (List.mem_append_right _ h)) (by decide +kernel))
set_option maxRecDepth 20000 in
theorem gL_copy_X2_copy : GoodIn wsL_copy (wsV RL 70 RX2 yX2_copy wsX2_copy) := goodIn_app (goodIn_of _ (by decide +kernel)) ggL_copy_X2_copy
theorem dL_copy_0 : decode cL_copy 0 = .ok (.aload_n 3, 1) := by decide +kernel
theorem dL_copy_1 : decode cL_copy 1 = .ok (.iconst 0, 1) := by decide +kernel
theorem dL_copy_2 : decode cL_copy 2 = .ok (.aload_n 0, 1) := by decide +kernel
theorem dL_copy_3 : decode cL_copy 3 = .ok (.iload_n 1, 1) := by decide +kernel
theorem dL_copy_4 : decode cL_copy 4 = .ok (.iload_n 2, 1) := by decide +kernel
theorem dL_copy_5 : decode cL_copy 5 = .ok (.invokevirtual 70, 3) := by decide +kernel
theorem dL_copy_8 : decode cL_copy 8 = .ok (.i2l, 1) := by decide +kernel
theorem dL_copy_9 : decode cL_copy 9 = .ok (.lastore, 1) := by decide +kernel
theorem dL_copy_10 : decode cL_copy 10 = .ok (.goto 7, 3) := by decide +kernel
theorem dL_copy_13 : decode cL_copy 13 = .ok (.astore 4, 2) := by decide +kernel
theorem dL_copy_15 : decode cL_copy 15 = .ok (.iconst 1, 1) := by decide +kernel
theorem dL_copy_16 : decode cL_copy 16 = .ok (.ireturn, 1) := by decide +kernel
theorem dL_copy_17 : decode cL_copy 17 = .ok (.iconst 0, 1) := by decide +kernel
theorem dL_copy_18 : decode cL_copy 18 = .ok (.ireturn, 1) := by decide +kernel
set_option maxRecDepth 20000 in
theorem ggL_holderAt_X2_holderAt : GoodIn wsL_holderAt wsX2_holderAt := goodIn_ca (goodIn_ca (goodIn_r _ [7, 8, 9, 10, 11, 12, 13, 14, 6, 15, 16, 17, 18, 19, 20, 21, 22, 23, 24, 25, 26, 27, 28, 29, 30, 31, 32, 33, 34, 35, 36, 37, 38, 39, 40] (by decide +kernel) (by decide +kernel)) (goodIn_sub (fun _ h => List.mem_cons_of_mem _ (List.mem_append_left _ (List.mem_append_right _ h))) (by decide +kernel))) (goodIn_sub (fun _ h => List.mem_cons_of_mem _ (List.mem_append_right _ h)) (by decide +kernel))
set_option maxRecDepth 20000 in
theorem gL_holderAt_X2_holderAt : GoodIn wsL_holderAt (wsV RL 73 RX2 yX2_holderAt wsX2_holderAt) := goodIn_app (goodIn_of _ (by decide +kernel)) ggL_holderAt_X2_holderAt
theorem dL_holderAt_0 : decode cL_holderAt 0 = .ok (.aload_n 3, 1) := by decide +kernel
theorem dL_holderAt_1 : decode cL_holderAt 1 = .ok (.iconst 0, 1) := by decide +kernel
theorem dL_holderAt_2 : decode cL_holderAt 2 = .ok (.aload_n 0, 1) := by decide +kernel
theorem dL_holderAt_3 : decode cL_holderAt 3 = .ok (.iload_n 1, 1) := by decide +kernel
theorem dL_holderAt_4 : decode cL_holderAt 4 = .ok (.iload_n 2, 1) := by decide +kernel
theorem dL_holderAt_5 : decode cL_holderAt 5 = .ok (.invokevirtual 73, 3) := by decide +kernel
theorem dL_holderAt_8 : decode cL_holderAt 8 = .ok (.i2l, 1) := by decide +kernel
theorem dL_holderAt_9 : decode cL_holderAt 9 = .ok (.lastore, 1) := by decide +kernel
theorem dL_holderAt_10 : decode cL_holderAt 10 = .ok (.goto 11, 3) := by decide +kernel
theorem dL_holderAt_13 : decode cL_holderAt 13 = .ok (.astore 4, 2) := by decide +kernel
theorem dL_holderAt_15 : decode cL_holderAt 15 = .ok (.iconst 1, 1) := by decide +kernel
theorem dL_holderAt_16 : decode cL_holderAt 16 = .ok (.ireturn, 1) := by decide +kernel
theorem dL_holderAt_17 : decode cL_holderAt 17 = .ok (.astore 4, 2) := by decide +kernel
theorem dL_holderAt_19 : decode cL_holderAt 19 = .ok (.iconst 2, 1) := by decide +kernel
theorem dL_holderAt_20 : decode cL_holderAt 20 = .ok (.ireturn, 1) := by decide +kernel
theorem dL_holderAt_21 : decode cL_holderAt 21 = .ok (.iconst 0, 1) := by decide +kernel
theorem dL_holderAt_22 : decode cL_holderAt 22 = .ok (.ireturn, 1) := by decide +kernel
set_option maxRecDepth 20000 in
theorem ggL_reach_X2_reach : GoodIn wsL_reach wsX2_reach := goodIn_ca (goodIn_r _ [6, 7, 8, 9, 5, 10, 11, 12, 13, 14, 15, 16, 17, 18, 19, 20, 21, 22, 23, 24, 25, 26, 27, 28, 29, 30, 31, 32, 33, 34, 35, 36, 37, 38, 39, 40, 41, 42, 43, 44, 45, 46, 47, 48, 49, 50, 51, 52, 53, 54, 55, 56, 57, 58, 59, 60, 61, 62, 63, 64, 65, 66, 67, 68, 69, 70, 71, 72, 73, 74, 75, 76] (by decide +kernel) (by decide +kernel)) (goodIn_sub (fun _ h => List.mem_cons_of_mem _ (List.mem_append_right _ h)) (by decide +kernel))
set_option maxRecDepth 20000 in
theorem gL_reach_X2_reach : GoodIn wsL_reach (wsV RL 76 RX2 yX2_reach wsX2_reach) := goodIn_app (goodIn_of _ (by decide +kernel)) ggL_reach_X2_reach
theorem dL_reach_0 : decode cL_reach 0 = .ok (.aload_n 2, 1) := by decide +kernel
theorem dL_reach_1 : decode cL_reach 1 = .ok (.iconst 0, 1) := by decide +kernel
theorem dL_reach_2 : decode cL_reach 2 = .ok (.aload_n 0, 1) := by decide +kernel
theorem dL_reach_3 : decode cL_reach 3 = .ok (.iload_n 1, 1) := by decide +kernel
theorem dL_reach_4 : decode cL_reach 4 = .ok (.invokevirtual 76, 3) := by decide +kernel
theorem dL_reach_7 : decode cL_reach 7 = .ok (.i2l, 1) := by decide +kernel
theorem dL_reach_8 : decode cL_reach 8 = .ok (.lastore, 1) := by decide +kernel
theorem dL_reach_9 : decode cL_reach 9 = .ok (.goto 6, 3) := by decide +kernel
theorem dL_reach_12 : decode cL_reach 12 = .ok (.astore_n 3, 1) := by decide +kernel
theorem dL_reach_13 : decode cL_reach 13 = .ok (.iconst 1, 1) := by decide +kernel
theorem dL_reach_14 : decode cL_reach 14 = .ok (.ireturn, 1) := by decide +kernel
theorem dL_reach_15 : decode cL_reach 15 = .ok (.iconst 0, 1) := by decide +kernel
theorem dL_reach_16 : decode cL_reach 16 = .ok (.ireturn, 1) := by decide +kernel
set_option maxRecDepth 20000 in
theorem ggL_suggest_X2_suggest : GoodIn wsL_suggest wsX2_suggest := goodIn_ca (goodIn_ca (goodIn_r _ [7, 8, 9, 10, 11, 12, 13, 14, 15, 16, 17, 18, 6, 19, 20, 21, 22, 23, 24, 25, 26, 27, 28, 29, 30, 31, 32, 33, 34, 35, 36, 37, 38, 39, 40, 41, 42, 43, 44, 45, 46, 47, 48, 49, 50, 51, 52, 53, 54, 55, 56, 57, 58, 59, 60, 61, 62, 63, 64, 65, 66, 67, 68, 69, 70, 71, 72, 73, 74, 75, 76, 77, 78, 79, 80, 81, 82, 83, 84, 85, 86, 87, 88, 89, 90, 91, 92, 93, 94, 95, 96, 97, 98, 99, 100, 101, 102, 103, 104, 105, 106, 107, 108, 109, 110, 111, 112, 113, 114, 115] (by decide +kernel) (by decide +kernel)) (goodIn_sub (fun _ h => List.mem_cons_of_mem _ (List.mem_append_left _ (List.mem_append_right _ h))) (by decide +kernel))) (goodIn_sub (fun _ h => List.mem_cons_of_mem _ (List.mem_append_right _ h)) (by decide +kernel))
set_option maxRecDepth 20000 in
theorem gL_suggest_X2_suggest : GoodIn wsL_suggest (wsV RL 79 RX2 yX2_suggest wsX2_suggest) := goodIn_app (goodIn_of _ (by decide +kernel)) ggL_suggest_X2_suggest
theorem dL_suggest_0 : decode cL_suggest 0 = .ok (.aload_n 3, 1) := by decide +kernel
theorem dL_suggest_1 : decode cL_suggest 1 = .ok (.iconst 0, 1) := by decide +kernel
theorem dL_suggest_2 : decode cL_suggest 2 = .ok (.aload_n 0, 1) := by decide +kernel
theorem dL_suggest_3 : decode cL_suggest 3 = .ok (.iload_n 1, 1) := by decide +kernel
theorem dL_suggest_4 : decode cL_suggest 4 = .ok (.iload_n 2, 1) := by decide +kernel
theorem dL_suggest_5 : decode cL_suggest 5 = .ok (.invokevirtual 79, 3) := by decide +kernel
theorem dL_suggest_8 : decode cL_suggest 8 = .ok (.i2l, 1) := by decide +kernel
theorem dL_suggest_9 : decode cL_suggest 9 = .ok (.lastore, 1) := by decide +kernel
theorem dL_suggest_10 : decode cL_suggest 10 = .ok (.goto 11, 3) := by decide +kernel
theorem dL_suggest_13 : decode cL_suggest 13 = .ok (.astore 4, 2) := by decide +kernel
theorem dL_suggest_15 : decode cL_suggest 15 = .ok (.iconst 1, 1) := by decide +kernel
theorem dL_suggest_16 : decode cL_suggest 16 = .ok (.ireturn, 1) := by decide +kernel
theorem dL_suggest_17 : decode cL_suggest 17 = .ok (.astore 4, 2) := by decide +kernel
theorem dL_suggest_19 : decode cL_suggest 19 = .ok (.iconst 2, 1) := by decide +kernel
theorem dL_suggest_20 : decode cL_suggest 20 = .ok (.ireturn, 1) := by decide +kernel
theorem dL_suggest_21 : decode cL_suggest 21 = .ok (.iconst 0, 1) := by decide +kernel
theorem dL_suggest_22 : decode cL_suggest 22 = .ok (.ireturn, 1) := by decide +kernel
end
section
set_option maxRecDepth 20000 in
theorem ggL_law_X2_init : GoodIn wsL_law wsX2_init := goodIn_r _ [9, 10, 11, 12, 13, 14, 15, 16, 17, 18, 19, 20, 21, 22, 23, 24, 25, 26, 27, 28, 29, 30, 31, 32, 33, 34, 35, 36, 37, 38, 39, 40, 41, 42, 43, 44, 45, 46, 685, 686, 687, 688, 689, 705, 706, 707, 708, 709, 710, 711, 712, 713, 714, 715, 716, 717, 718, 719, 720] (by decide +kernel) (by decide +kernel)
set_option maxRecDepth 20000 in
theorem gL_law_X2_init : GoodIn wsL_law (wsX2_init) := ggL_law_X2_init
set_option maxRecDepth 20000 in
theorem ggL_law_X3_init : GoodIn wsL_law wsX3_init := goodIn_r _ [49, 50, 11, 12, 22, 51, 52, 53, 54, 55, 56, 57, 58, 59, 690, 691, 692, 693, 694, 695, 696, 697, 698, 699, 700, 701, 702, 703, 704] (by decide +kernel) (by decide +kernel)
set_option maxRecDepth 20000 in
theorem gL_law_X3_init : GoodIn wsL_law (wsX3_init) := ggL_law_X3_init
set_option maxRecDepth 20000 in
theorem ggL_law_L_addKey : GoodIn wsL_law wsL_addKey := goodIn_ca (goodIn_ca (goodIn_r _ [63, 64, 65, 66, 67, 68, 2, 69, 70, 71, 72, 73, 17, 74, 75, 76, 77, 16, 78, 33, 28, 79, 80, 81, 82, 29, 83, 84, 85, 685, 686, 687, 688, 689, 705, 706, 707, 708, 709, 710, 711, 712] (by decide +kernel) (by decide +kernel)) (goodIn_sub (fun _ h => List.mem_append_left _ (List.mem_append_left _ (List.mem_append_right _ h))) (by decide +kernel))) (goodIn_sub (fun _ h => List.mem_append_left _ (List.mem_append_right _ h)) (by decide +kernel))
set_option maxRecDepth 20000 in
theorem gL_law_L_addKey : GoodIn wsL_law (va_wsS RL 86 yL_addKey wsL_addKey) := goodIn_app (goodIn_of _ (by decide +kernel)) ggL_law_L_addKey
set_option maxRecDepth 20000 in
theorem ggL_law_X3_addKey : GoodIn wsL_law wsX3_addKey := goodIn_r _ [89, 90, 91, 51, 92, 93, 94, 5, 95, 690, 691, 692, 693, 694, 695, 696, 697, 698, 699, 700, 701, 702, 703, 704] (by decide +kernel) (by decide +kernel)
set_option maxRecDepth 20000 in
theorem gL_law_X3_addKey : GoodIn wsL_law (wsV RL 91 RX3 yX3_addKey wsX3_addKey) := goodIn_app (goodIn_of _ (by decide +kernel)) ggL_law_X3_addKey
set_option maxRecDepth 20000 in
theorem ggL_law_X3_thrown : GoodIn wsL_law wsX3_thrown := goodIn_r _ [99, 90, 690, 691, 692, 693, 694, 695, 696, 697, 698, 699, 700, 701, 702, 703, 704] (by decide +kernel) (by decide +kernel)
set_option maxRecDepth 20000 in
theorem gL_law_X3_thrown : GoodIn wsL_law (wsV RL 92 RX3 yX3_thrown wsX3_thrown) := goodIn_app (goodIn_of _ (by decide +kernel)) ggL_law_X3_thrown
set_option maxRecDepth 20000 in
theorem ggL_law_L_addDoor : GoodIn wsL_law wsL_addDoor := goodIn_ca (goodIn_ca (goodIn_r _ [102, 64, 65, 103, 104, 105, 2, 106, 72, 73, 17, 107, 108, 109, 110, 111, 70, 71, 74, 112, 113, 114, 115, 116, 117, 16, 118, 34, 119, 120, 121, 122, 30, 123, 124, 125, 126, 31, 35, 127, 128, 129, 130, 33, 29, 131, 132, 133, 134, 135, 136, 137, 685, 686, 687, 688, 689, 705, 706, 707, 708, 709, 710, 711, 712] (by decide +kernel) (by decide +kernel)) (goodIn_sub (fun _ h => List.mem_append_left _ (List.mem_append_right _ h)) (by decide +kernel))) (goodIn_sub (fun _ h => List.mem_append_left _ (List.mem_append_left _ (List.mem_append_right _ h))) (by decide +kernel))
set_option maxRecDepth 20000 in
theorem gL_law_L_addDoor : GoodIn wsL_law (va_wsS RL 96 yL_addDoor wsL_addDoor) := goodIn_app (goodIn_of _ (by decide +kernel)) ggL_law_L_addDoor
set_option maxRecDepth 20000 in
theorem ggL_law_X3_addDoor : GoodIn wsL_law wsX3_addDoor := goodIn_r _ [141, 90, 142, 52, 143, 144, 145, 146, 5, 147, 91, 92, 93, 94, 95, 148, 149, 150, 151, 152, 153, 154, 155, 51, 156, 157, 158, 159, 160, 161, 162, 132, 133, 134, 135, 136, 137, 690, 691, 692, 693, 694, 695, 696, 697, 698, 699, 700, 701, 702, 703, 704] (by decide +kernel) (by decide +kernel)
set_option maxRecDepth 20000 in
theorem gL_law_X3_addDoor : GoodIn wsL_law (wsV RL 98 RX3 yX3_addDoor wsX3_addDoor) := goodIn_app (goodIn_of _ (by decide +kernel)) ggL_law_X3_addDoor
set_option maxRecDepth 20000 in
theorem ggL_law_L_setRights : GoodIn wsL_law wsL_setRights := goodIn_ca (goodIn_ca (goodIn_r _ [165, 166, 64, 167, 168, 169, 2, 170, 17, 171, 172, 173, 174, 175, 176, 177, 107, 108, 109, 110, 111, 70, 71, 74, 112, 113, 114, 178, 120, 121, 16, 122, 30, 123, 124, 125, 126, 31, 35, 127, 128, 129, 130, 33, 29, 131, 132, 133, 134, 135, 136, 137, 685, 686, 687, 688, 689, 705, 706, 707, 708, 709, 710, 711, 712] (by decide +kernel) (by decide +kernel)) (goodIn_sub (fun _ h => List.mem_append_right _ h) (by decide +kernel))) (goodIn_sub (fun _ h => List.mem_append_left _ (List.mem_append_left _ (List.mem_append_right _ h))) (by decide +kernel))
set_option maxRecDepth 20000 in
theorem gL_law_L_setRights : GoodIn wsL_law (va_wsS RL 99 yL_setRights wsL_setRights) := goodIn_app (goodIn_of _ (by decide +kernel)) ggL_law_L_setRights
set_option maxRecDepth 20000 in
theorem ggL_law_X3_setRights : GoodIn wsL_law wsX3_setRights := goodIn_r _ [182, 90, 52, 143, 183, 184, 185, 5, 186, 142, 92, 93, 94, 95, 144, 145, 146, 147, 91, 148, 149, 150, 151, 152, 153, 154, 155, 51, 156, 157, 158, 159, 160, 161, 162, 132, 133, 134, 135, 136, 137, 690, 691, 692, 693, 694, 695, 696, 697, 698, 699, 700, 701, 702, 703, 704] (by decide +kernel) (by decide +kernel)
set_option maxRecDepth 20000 in
theorem gL_law_X3_setRights : GoodIn wsL_law (wsV RL 102 RX3 yX3_setRights wsX3_setRights) := goodIn_app (goodIn_of _ (by decide +kernel)) ggL_law_X3_setRights
set_option maxRecDepth 20000 in
theorem ggL_law_X2_keyCount : GoodIn wsL_law wsX2_keyCount := goodIn_r _ [190, 17, 74, 685, 686, 687, 688, 689, 705, 706, 707, 708, 709, 710, 711, 712] (by decide +kernel) (by decide +kernel)
set_option maxRecDepth 20000 in
theorem gL_law_X2_keyCount : GoodIn wsL_law (wsV RL 103 RX2 yX2_keyCount wsX2_keyCount) := goodIn_app (goodIn_of _ (by decide +kernel)) ggL_law_X2_keyCount
set_option maxRecDepth 20000 in
theorem ggL_law_X3_keyCount : GoodIn wsL_law wsX3_keyCount := goodIn_r _ [194, 90, 91, 690, 691, 692, 693, 694, 695, 696, 697, 698, 699, 700, 701, 702, 703, 704] (by decide +kernel) (by decide +kernel)
set_option maxRecDepth 20000 in
theorem gL_law_X3_keyCount : GoodIn wsL_law (wsV RL 106 RX3 yX3_keyCount wsX3_keyCount) := goodIn_app (goodIn_of _ (by decide +kernel)) ggL_law_X3_keyCount
set_option maxRecDepth 20000 in
theorem ggL_law_X2_doorCount : GoodIn wsL_law wsX2_doorCount := goodIn_r _ [198, 17, 107, 685, 686, 687, 688, 689, 705, 706, 707, 708, 709, 710, 711, 712] (by decide +kernel) (by decide +kernel)
set_option maxRecDepth 20000 in
theorem gL_law_X2_doorCount : GoodIn wsL_law (wsV RL 107 RX2 yX2_doorCount wsX2_doorCount) := goodIn_app (goodIn_of _ (by decide +kernel)) ggL_law_X2_doorCount
set_option maxRecDepth 20000 in
theorem ggL_law_X3_doorCount : GoodIn wsL_law wsX3_doorCount := goodIn_r _ [202, 90, 142, 690, 691, 692, 693, 694, 695, 696, 697, 698, 699, 700, 701, 702, 703, 704] (by decide +kernel) (by decide +kernel)
set_option maxRecDepth 20000 in
theorem gL_law_X3_doorCount : GoodIn wsL_law (wsV RL 110 RX3 yX3_doorCount wsX3_doorCount) := goodIn_app (goodIn_of _ (by decide +kernel)) ggL_law_X3_doorCount
set_option maxRecDepth 20000 in
theorem ggL_law_L_code : GoodIn wsL_law wsL_code := goodIn_ca (goodIn_r _ [205, 166, 206, 207, 208, 2, 209, 17, 210, 211, 212, 213, 214, 176, 177, 74, 685, 686, 687, 688, 689, 705, 706, 707, 708, 709, 710, 711, 712] (by decide +kernel) (by decide +kernel)) (goodIn_sub (fun _ h => List.mem_append_right _ h) (by decide +kernel))
set_option maxRecDepth 20000 in
theorem gL_law_L_code : GoodIn wsL_law (va_wsS RL 111 yL_code wsL_code) := goodIn_app (goodIn_of _ (by decide +kernel)) ggL_law_L_code
set_option maxRecDepth 20000 in
theorem ggL_law_X3_code : GoodIn wsL_law wsX3_code := goodIn_r _ [218, 90, 51, 219, 220, 221, 5, 222, 91, 92, 93, 94, 95, 690, 691, 692, 693, 694, 695, 696, 697, 698, 699, 700, 701, 702, 703, 704] (by decide +kernel) (by decide +kernel)
set_option maxRecDepth 20000 in
theorem gL_law_X3_code : GoodIn wsL_law (wsV RL 113 RX3 yX3_code wsX3_code) := goodIn_app (goodIn_of _ (by decide +kernel)) ggL_law_X3_code
set_option maxRecDepth 20000 in
theorem ggL_law_L_pins : GoodIn wsL_law wsL_pins := goodIn_ca (goodIn_r _ [225, 166, 226, 227, 228, 2, 229, 176, 177, 17, 172, 173, 174, 175, 107, 230, 231, 232, 16, 233, 31, 685, 686, 687, 688, 689, 705, 706, 707, 708, 709, 710, 711, 712] (by decide +kernel) (by decide +kernel)) (goodIn_sub (fun _ h => List.mem_append_right _ h) (by decide +kernel))
set_option maxRecDepth 20000 in
theorem gL_law_L_pins : GoodIn wsL_law (va_wsS RL 114 yL_pins wsL_pins) := goodIn_app (goodIn_of _ (by decide +kernel)) ggL_law_L_pins
set_option maxRecDepth 20000 in
theorem ggL_law_X3_pins : GoodIn wsL_law wsX3_pins := goodIn_r _ [237, 90, 183, 184, 185, 5, 186, 142, 152, 153, 154, 155, 91, 52, 51, 156, 157, 158, 159, 160, 161, 92, 93, 94, 95, 690, 691, 692, 693, 694, 695, 696, 697, 698, 699, 700, 701, 702, 703, 704] (by decide +kernel) (by decide +kernel)
set_option maxRecDepth 20000 in
theorem gL_law_X3_pins : GoodIn wsL_law (wsV RL 116 RX3 yX3_pins wsX3_pins) := goodIn_app (goodIn_of _ (by decide +kernel)) ggL_law_X3_pins
set_option maxRecDepth 20000 in
theorem ggL_law_L_opens : GoodIn wsL_law wsL_opens := goodIn_ca (goodIn_r _ [240, 166, 241, 242, 243, 2, 244, 17, 211, 212, 213, 214, 176, 177, 74, 172, 173, 174, 175, 107, 245, 246, 247, 16, 248, 31, 29, 249, 250, 685, 686, 687, 688, 689, 705, 706, 707, 708, 709, 710, 711, 712] (by decide +kernel) (by decide +kernel)) (goodIn_sub (fun _ h => List.mem_append_right _ h) (by decide +kernel))
set_option maxRecDepth 20000 in
theorem gL_law_L_opens : GoodIn wsL_law (va_wsS RL 117 yL_opens wsL_opens) := goodIn_app (goodIn_of _ (by decide +kernel)) ggL_law_L_opens
set_option maxRecDepth 20000 in
theorem ggL_law_X3_opens : GoodIn wsL_law wsX3_opens := goodIn_r _ [254, 90, 51, 219, 220, 221, 5, 222, 91, 183, 184, 185, 186, 142, 255, 256, 257, 258, 152, 153, 154, 155, 52, 156, 157, 158, 159, 160, 161, 690, 691, 692, 693, 694, 695, 696, 697, 698, 699, 700, 701, 702, 703, 704] (by decide +kernel) (by decide +kernel)
set_option maxRecDepth 20000 in
theorem gL_law_X3_opens : GoodIn wsL_law (wsV RL 119 RX3 yX3_opens wsX3_opens) := goodIn_app (goodIn_of _ (by decide +kernel)) ggL_law_X3_opens
set_option maxRecDepth 20000 in
theorem ggL_law_L_openers : GoodIn wsL_law wsL_openers := goodIn_ca (goodIn_r _ [261, 166, 262, 263, 264, 2, 265, 17, 172, 173, 174, 175, 176, 177, 107, 266, 267, 268, 16, 269, 33, 270, 246, 247, 248, 31, 29, 249, 250, 685, 686, 687, 688, 689, 705, 706, 707, 708, 709, 710, 711, 712] (by decide +kernel) (by decide +kernel)) (goodIn_sub (fun _ h => List.mem_append_right _ h) (by decide +kernel))
set_option maxRecDepth 20000 in
theorem gL_law_L_openers : GoodIn wsL_law (va_wsS RL 120 yL_openers wsL_openers) := goodIn_app (goodIn_of _ (by decide +kernel)) ggL_law_L_openers
set_option maxRecDepth 20000 in
theorem ggL_law_X3_openers : GoodIn wsL_law wsX3_openers := goodIn_r _ [274, 90, 91, 51, 183, 184, 185, 5, 186, 142, 92, 93, 94, 95, 255, 256, 257, 258, 152, 153, 154, 155, 52, 156, 157, 158, 159, 160, 161, 690, 691, 692, 693, 694, 695, 696, 697, 698, 699, 700, 701, 702, 703, 704] (by decide +kernel) (by decide +kernel)
set_option maxRecDepth 20000 in
theorem gL_law_X3_openers : GoodIn wsL_law (wsV RL 122 RX3 yX3_openers wsX3_openers) := goodIn_app (goodIn_of _ (by decide +kernel)) ggL_law_X3_openers
set_option maxRecDepth 20000 in
theorem ggL_law_L_doors : GoodIn wsL_law wsL_doors := goodIn_ca (goodIn_r _ [277, 166, 278, 279, 280, 2, 281, 17, 211, 212, 213, 214, 176, 177, 74, 282, 283, 284, 16, 285, 34, 270, 246, 247, 248, 31, 29, 249, 250, 685, 686, 687, 688, 689, 705, 706, 707, 708, 709, 710, 711, 712] (by decide +kernel) (by decide +kernel)) (goodIn_sub (fun _ h => List.mem_append_right _ h) (by decide +kernel))
set_option maxRecDepth 20000 in
theorem gL_law_L_doors : GoodIn wsL_law (va_wsS RL 123 yL_doors wsL_doors) := goodIn_app (goodIn_of _ (by decide +kernel)) ggL_law_L_doors
set_option maxRecDepth 20000 in
theorem ggL_law_X3_doors : GoodIn wsL_law wsX3_doors := goodIn_r _ [289, 90, 51, 219, 220, 221, 5, 222, 91, 290, 291, 292, 293, 142, 255, 256, 257, 258, 152, 153, 154, 155, 52, 156, 157, 158, 159, 160, 161, 92, 93, 94, 95, 690, 691, 692, 693, 694, 695, 696, 697, 698, 699, 700, 701, 702, 703, 704] (by decide +kernel) (by decide +kernel)
set_option maxRecDepth 20000 in
theorem gL_law_X3_doors : GoodIn wsL_law (wsV RL 125 RX3 yX3_doors wsX3_doors) := goodIn_app (goodIn_of _ (by decide +kernel)) ggL_law_X3_doors
set_option maxRecDepth 20000 in
theorem ggL_law_X2_strays : GoodIn wsL_law wsX2_strays := goodIn_r _ [297, 17, 298, 299, 300, 16, 301, 34, 30, 302, 267, 268, 269, 33, 270, 246, 247, 248, 31, 29, 249, 2, 250, 131, 132, 133, 134, 135, 136, 137, 685, 686, 687, 688, 689, 705, 706, 707, 708, 709, 710, 711, 712] (by decide +kernel) (by decide +kernel)
set_option maxRecDepth 20000 in
theorem gL_law_X2_strays : GoodIn wsL_law (wsV RL 126 RX2 yX2_strays wsX2_strays) := goodIn_app (goodIn_of _ (by decide +kernel)) ggL_law_X2_strays
set_option maxRecDepth 20000 in
theorem ggL_law_X3_strays : GoodIn wsL_law wsX3_strays := goodIn_r _ [306, 90, 307, 308, 309, 5, 310, 91, 142, 51, 52, 255, 256, 257, 258, 152, 153, 154, 155, 156, 157, 158, 159, 160, 161, 690, 691, 692, 693, 694, 695, 696, 697, 698, 699, 700, 701, 702, 703, 704] (by decide +kernel) (by decide +kernel)
set_option maxRecDepth 20000 in
theorem gL_law_X3_strays : GoodIn wsL_law (wsV RL 129 RX3 yX3_strays wsX3_strays) := goodIn_app (goodIn_of _ (by decide +kernel)) ggL_law_X3_strays
set_option maxRecDepth 20000 in
theorem ggL_law_L_codes : GoodIn wsL_law wsL_codes := goodIn_ca (goodIn_r _ [313, 166, 314, 315, 316, 2, 317, 17, 172, 173, 174, 175, 176, 177, 107, 318, 319, 320, 16, 321, 322, 231, 232, 233, 31, 131, 132, 133, 134, 135, 136, 137, 685, 686, 687, 688, 689, 705, 706, 707, 708, 709, 710, 711, 712] (by decide +kernel) (by decide +kernel)) (goodIn_sub (fun _ h => List.mem_append_right _ h) (by decide +kernel))
set_option maxRecDepth 20000 in
theorem gL_law_L_codes : GoodIn wsL_law (va_wsS RL 130 yL_codes wsL_codes) := goodIn_app (goodIn_of _ (by decide +kernel)) ggL_law_L_codes
set_option maxRecDepth 20000 in
theorem ggL_law_X3_codes : GoodIn wsL_law wsX3_codes := goodIn_r _ [326, 90, 183, 184, 185, 5, 186, 142, 92, 93, 94, 95, 255, 256, 257, 258, 152, 153, 154, 155, 91, 52, 51, 156, 157, 158, 159, 160, 161, 690, 691, 692, 693, 694, 695, 696, 697, 698, 699, 700, 701, 702, 703, 704] (by decide +kernel) (by decide +kernel)
set_option maxRecDepth 20000 in
theorem gL_law_X3_codes : GoodIn wsL_law (wsV RL 132 RX3 yX3_codes wsX3_codes) := goodIn_app (goodIn_of _ (by decide +kernel)) ggL_law_X3_codes
set_option maxRecDepth 20000 in
theorem ggL_law_L_isAbove : GoodIn wsL_law wsL_isAbove := goodIn_ca (goodIn_r _ [329, 166, 330, 331, 332, 2, 333, 17, 211, 212, 213, 214, 176, 177, 74, 282, 283, 284, 16, 285, 34, 270, 246, 247, 248, 31, 29, 249, 250, 334, 685, 686, 687, 688, 689, 705, 706, 707, 708, 709, 710, 711, 712] (by decide +kernel) (by decide +kernel)) (goodIn_sub (fun _ h => List.mem_append_right _ h) (by decide +kernel))
set_option maxRecDepth 20000 in
theorem gL_law_L_isAbove : GoodIn wsL_law (va_wsS RL 133 yL_isAbove wsL_isAbove) := goodIn_app (goodIn_of _ (by decide +kernel)) ggL_law_L_isAbove
set_option maxRecDepth 20000 in
theorem ggL_law_X3_isAbove : GoodIn wsL_law wsX3_isAbove := goodIn_r _ [338, 90, 51, 219, 220, 221, 5, 222, 91, 290, 291, 292, 293, 142, 255, 256, 257, 258, 152, 153, 154, 155, 52, 156, 157, 158, 159, 160, 161, 690, 691, 692, 693, 694, 695, 696, 697, 698, 699, 700, 701, 702, 703, 704] (by decide +kernel) (by decide +kernel)
set_option maxRecDepth 20000 in
theorem gL_law_X3_isAbove : GoodIn wsL_law (wsV RL 135 RX3 yX3_isAbove wsX3_isAbove) := goodIn_app (goodIn_of _ (by decide +kernel)) ggL_law_X3_isAbove
set_option maxRecDepth 20000 in
theorem ggL_law_X2_work : GoodIn wsL_law wsX2_work := goodIn_r _ [342, 17, 343, 685, 686, 687, 688, 689, 705, 706, 707, 708, 709, 710, 711, 712] (by decide +kernel) (by decide +kernel)
set_option maxRecDepth 20000 in
theorem gL_law_X2_work : GoodIn wsL_law (wsV RL 136 RX2 yX2_work wsX2_work) := goodIn_app (goodIn_of _ (by decide +kernel)) ggL_law_X2_work
set_option maxRecDepth 20000 in
theorem ggL_law_X3_work : GoodIn wsL_law wsX3_work := goodIn_r _ [347, 90, 143, 690, 691, 692, 693, 694, 695, 696, 697, 698, 699, 700, 701, 702, 703, 704] (by decide +kernel) (by decide +kernel)
set_option maxRecDepth 20000 in
theorem gL_law_X3_work : GoodIn wsL_law (wsV RL 139 RX3 yX3_work wsX3_work) := goodIn_app (goodIn_of _ (by decide +kernel)) ggL_law_X3_work
set_option maxRecDepth 20000 in
theorem ggL_law_L_replace : GoodIn wsL_law wsL_replace := goodIn_ca (goodIn_r _ [350, 166, 351, 352, 353, 2, 354, 17, 21, 13, 211, 212, 213, 214, 176, 177, 74, 355, 356, 357, 16, 358, 34, 32, 30, 127, 128, 129, 130, 33, 29, 83, 84, 85, 359, 76, 77, 78, 28, 360, 361, 362, 363, 364, 365, 366, 367, 249, 250, 368, 369, 370, 371, 372, 373, 374, 375, 31, 131, 132, 133, 134, 135, 136, 137, 376, 377, 378, 379, 123, 124, 125, 126, 35, 380, 381, 382, 20, 383, 46, 39, 384, 385, 386, 387, 40, 45, 388, 389, 390, 391, 41, 685, 686, 687, 688, 689, 705, 706, 707, 708, 709, 710, 711, 712, 713, 714, 715, 716, 717, 718, 719, 720] (by decide +kernel) (by decide +kernel)) (goodIn_sub (fun _ h => List.mem_append_right _ h) (by decide +kernel))
set_option maxRecDepth 20000 in
theorem gL_law_L_replace : GoodIn wsL_law (va_wsS RL 140 yL_replace wsL_replace) := goodIn_app (goodIn_of _ (by decide +kernel)) ggL_law_L_replace
set_option maxRecDepth 20000 in
theorem ggL_law_X3_replace : GoodIn wsL_law wsX3_replace := goodIn_r _ [395, 90, 51, 142, 22, 91, 143, 396, 53, 54, 219, 220, 221, 5, 222, 92, 93, 94, 95, 148, 149, 150, 151, 152, 153, 154, 155, 52, 156, 157, 158, 159, 160, 161, 290, 291, 292, 293, 255, 256, 257, 258, 307, 308, 309, 310, 162, 132, 133, 134, 135, 136, 137, 397, 398, 399, 400, 59, 56, 401, 690, 691, 692, 693, 694, 695, 696, 697, 698, 699, 700, 701, 702, 703, 704] (by decide +kernel) (by decide +kernel)
set_option maxRecDepth 20000 in
theorem gL_law_X3_replace : GoodIn wsL_law (wsV RL 142 RX3 yX3_replace wsX3_replace) := goodIn_app (goodIn_of _ (by decide +kernel)) ggL_law_X3_replace
set_option maxRecDepth 20000 in
theorem ggL_law_L_cut : GoodIn wsL_law wsL_cut := goodIn_ca (goodIn_ca (goodIn_r _ [404, 166, 65, 405, 406, 407, 2, 408, 72, 73, 21, 409, 211, 212, 213, 214, 176, 177, 17, 74, 410, 411, 412, 20, 413, 46, 39, 40, 685, 686, 687, 688, 689, 713, 714, 715, 716, 717, 718, 719, 720, 705, 706, 707, 708, 709, 710, 711, 712] (by decide +kernel) (by decide +kernel)) (goodIn_sub (fun _ h => List.mem_append_left _ (List.mem_append_right _ h)) (by decide +kernel))) (goodIn_sub (fun _ h => List.mem_append_right _ h) (by decide +kernel))
set_option maxRecDepth 20000 in
theorem gL_law_L_cut : GoodIn wsL_law (va_wsS RL 143 yL_cut wsL_cut) := goodIn_app (goodIn_of _ (by decide +kernel)) ggL_law_L_cut
set_option maxRecDepth 20000 in
theorem ggL_law_X3_cut : GoodIn wsL_law wsX3_cut := goodIn_r _ [417, 90, 396, 53, 54, 56, 219, 220, 221, 5, 222, 91, 92, 93, 94, 95, 690, 691, 692, 693, 694, 695, 696, 697, 698, 699, 700, 701, 702, 703, 704] (by decide +kernel) (by decide +kernel)
set_option maxRecDepth 20000 in
theorem gL_law_X3_cut : GoodIn wsL_law (wsV RL 145 RX3 yX3_cut wsX3_cut) := goodIn_app (goodIn_of _ (by decide +kernel)) ggL_law_X3_cut
set_option maxRecDepth 20000 in
theorem ggL_law_L_lend : GoodIn wsL_law wsL_lend := goodIn_ca (goodIn_ca (goodIn_ca (goodIn_r _ [420, 166, 64, 65, 421, 422, 423, 2, 424, 72, 73, 21, 13, 425, 426, 427, 428, 176, 177, 409, 429, 430, 431, 432, 433, 434, 435, 436, 70, 71, 437, 438, 439, 20, 440, 40, 41, 441, 442, 443, 444, 42, 43, 44, 45, 388, 389, 390, 391, 685, 686, 687, 688, 689, 713, 714, 715, 716, 717, 718, 719, 720] (by decide +kernel) (by decide +kernel)) (goodIn_sub (fun _ h => List.mem_append_left _ (List.mem_append_right _ h)) (by decide +kernel))) (goodIn_sub (fun _ h => List.mem_append_right _ h) (by decide +kernel))) (goodIn_sub (fun _ h => List.mem_append_left _ (List.mem_append_left _ (List.mem_append_right _ h))) (by decide +kernel))
set_option maxRecDepth 20000 in
theorem gL_law_L_lend : GoodIn wsL_law (va_wsS RL 146 yL_lend wsL_lend) := goodIn_app (goodIn_of _ (by decide +kernel)) ggL_law_L_lend
set_option maxRecDepth 20000 in
theorem ggL_law_X3_lend : GoodIn wsL_law wsX3_lend := goodIn_r _ [448, 90, 54, 56, 57, 58, 401, 59, 55, 449, 450, 451, 5, 452, 396, 453, 454, 455, 92, 93, 94, 95, 690, 691, 692, 693, 694, 695, 696, 697, 698, 699, 700, 701, 702, 703, 704] (by decide +kernel) (by decide +kernel)
set_option maxRecDepth 20000 in
theorem gL_law_X3_lend : GoodIn wsL_law (wsV RL 149 RX3 yX3_lend wsX3_lend) := goodIn_app (goodIn_of _ (by decide +kernel)) ggL_law_X3_lend
set_option maxRecDepth 20000 in
theorem ggL_law_L_giveBack : GoodIn wsL_law wsL_giveBack := goodIn_ca (goodIn_ca (goodIn_r _ [458, 166, 65, 459, 460, 461, 2, 462, 72, 73, 21, 463, 13, 464, 465, 466, 467, 425, 426, 427, 428, 176, 177, 409, 468, 469, 470, 20, 471, 40, 44, 388, 389, 390, 391, 41, 472, 385, 386, 387, 45, 685, 686, 687, 688, 689, 713, 714, 715, 716, 717, 718, 719, 720] (by decide +kernel) (by decide +kernel)) (goodIn_sub (fun _ h => List.mem_append_left _ (List.mem_append_right _ h)) (by decide +kernel))) (goodIn_sub (fun _ h => List.mem_append_right _ h) (by decide +kernel))
set_option maxRecDepth 20000 in
theorem gL_law_L_giveBack : GoodIn wsL_law (va_wsS RL 150 yL_giveBack wsL_giveBack) := goodIn_app (goodIn_of _ (by decide +kernel)) ggL_law_L_giveBack
set_option maxRecDepth 20000 in
theorem ggL_law_X3_giveBack : GoodIn wsL_law wsX3_giveBack := goodIn_r _ [476, 90, 54, 401, 55, 477, 465, 466, 467, 449, 450, 451, 5, 452, 396, 92, 93, 94, 95, 397, 398, 399, 400, 59, 56, 690, 691, 692, 693, 694, 695, 696, 697, 698, 699, 700, 701, 702, 703, 704] (by decide +kernel) (by decide +kernel)
set_option maxRecDepth 20000 in
theorem gL_law_X3_giveBack : GoodIn wsL_law (wsV RL 152 RX3 yX3_giveBack wsX3_giveBack) := goodIn_app (goodIn_of _ (by decide +kernel)) ggL_law_X3_giveBack
set_option maxRecDepth 20000 in
theorem ggL_law_L_lose : GoodIn wsL_law wsL_lose := goodIn_ca (goodIn_ca (goodIn_r _ [480, 166, 65, 481, 482, 483, 2, 484, 72, 73, 21, 463, 13, 17, 485, 425, 426, 427, 428, 176, 177, 409, 472, 385, 386, 20, 387, 40, 45, 388, 389, 390, 391, 41, 282, 283, 284, 16, 285, 34, 270, 246, 247, 248, 31, 29, 249, 250, 685, 686, 687, 688, 689, 713, 714, 715, 716, 717, 718, 719, 720, 705, 706, 707, 708, 709, 710, 711, 712] (by decide +kernel) (by decide +kernel)) (goodIn_sub (fun _ h => List.mem_append_left _ (List.mem_append_right _ h)) (by decide +kernel))) (goodIn_sub (fun _ h => List.mem_append_right _ h) (by decide +kernel))
set_option maxRecDepth 20000 in
theorem gL_law_L_lose : GoodIn wsL_law (va_wsS RL 153 yL_lose wsL_lose) := goodIn_app (goodIn_of _ (by decide +kernel)) ggL_law_L_lose
set_option maxRecDepth 20000 in
theorem ggL_law_X3_lose : GoodIn wsL_law wsX3_lose := goodIn_r _ [489, 90, 54, 51, 53, 449, 450, 451, 5, 452, 396, 92, 93, 94, 95, 397, 398, 399, 400, 59, 56, 401, 290, 291, 292, 293, 142, 255, 256, 257, 258, 152, 153, 154, 155, 91, 52, 156, 157, 158, 159, 160, 161, 690, 691, 692, 693, 694, 695, 696, 697, 698, 699, 700, 701, 702, 703, 704] (by decide +kernel) (by decide +kernel)
set_option maxRecDepth 20000 in
theorem gL_law_X3_lose : GoodIn wsL_law (wsV RL 155 RX3 yX3_lose wsX3_lose) := goodIn_app (goodIn_of _ (by decide +kernel)) ggL_law_X3_lose
set_option maxRecDepth 20000 in
theorem ggL_law_L_find : GoodIn wsL_law wsL_find := goodIn_ca (goodIn_ca (goodIn_r _ [492, 166, 65, 493, 494, 495, 2, 496, 72, 73, 21, 463, 13, 425, 426, 427, 428, 176, 177, 409, 472, 385, 386, 20, 387, 40, 45, 388, 389, 390, 391, 41, 497, 498, 499, 500, 17, 501, 502, 503, 504, 46, 39, 505, 506, 507, 16, 508, 33, 509, 283, 284, 285, 34, 270, 246, 247, 248, 31, 29, 249, 250, 685, 686, 687, 688, 689, 713, 714, 715, 716, 717, 718, 719, 720, 705, 706, 707, 708, 709, 710, 711, 712] (by decide +kernel) (by decide +kernel)) (goodIn_sub (fun _ h => List.mem_append_left _ (List.mem_append_right _ h)) (by decide +kernel))) (goodIn_sub (fun _ h => List.mem_append_right _ h) (by decide +kernel))
set_option maxRecDepth 20000 in
theorem gL_law_L_find : GoodIn wsL_law (va_wsS RL 156 yL_find wsL_find) := goodIn_app (goodIn_of _ (by decide +kernel)) ggL_law_L_find
set_option maxRecDepth 20000 in
theorem ggL_law_X3_find : GoodIn wsL_law wsX3_find := goodIn_r _ [513, 90, 54, 449, 450, 451, 5, 452, 396, 92, 93, 94, 95, 514, 515, 516, 517, 51, 53, 290, 291, 292, 293, 142, 255, 256, 257, 258, 152, 153, 154, 155, 91, 52, 156, 157, 158, 159, 160, 161, 690, 691, 692, 693, 694, 695, 696, 697, 698, 699, 700, 701, 702, 703, 704] (by decide +kernel) (by decide +kernel)
set_option maxRecDepth 20000 in
theorem gL_law_X3_find : GoodIn wsL_law (wsV RL 158 RX3 yX3_find wsX3_find) := goodIn_app (goodIn_of _ (by decide +kernel)) ggL_law_X3_find
set_option maxRecDepth 20000 in
theorem ggL_law_L_pass : GoodIn wsL_law wsL_pass := goodIn_ca (goodIn_ca (goodIn_r _ [520, 64, 65, 521, 522, 523, 2, 524, 72, 73, 13, 433, 434, 435, 436, 70, 71, 685, 686, 687, 688, 689] (by decide +kernel) (by decide +kernel)) (goodIn_sub (fun _ h => List.mem_append_left _ (List.mem_append_right _ h)) (by decide +kernel))) (goodIn_sub (fun _ h => List.mem_append_left _ (List.mem_append_left _ (List.mem_append_right _ h))) (by decide +kernel))
set_option maxRecDepth 20000 in
theorem gL_law_L_pass : GoodIn wsL_law (va_wsS RL 159 yL_pass wsL_pass) := goodIn_app (goodIn_of _ (by decide +kernel)) ggL_law_L_pass
set_option maxRecDepth 20000 in
theorem ggL_law_X3_pass : GoodIn wsL_law wsX3_pass := goodIn_r _ [528, 90, 401, 92, 93, 94, 5, 95, 690, 691, 692, 693, 694, 695, 696, 697, 698, 699, 700, 701, 702, 703, 704] (by decide +kernel) (by decide +kernel)
set_option maxRecDepth 20000 in
theorem gL_law_X3_pass : GoodIn wsL_law (wsV RL 161 RX3 yX3_pass wsX3_pass) := goodIn_app (goodIn_of _ (by decide +kernel)) ggL_law_X3_pass
set_option maxRecDepth 20000 in
theorem ggL_law_X2_today : GoodIn wsL_law wsX2_today := goodIn_r _ [532, 13, 685, 686, 687, 688, 689] (by decide +kernel) (by decide +kernel)
set_option maxRecDepth 20000 in
theorem gL_law_X2_today : GoodIn wsL_law (wsV RL 162 RX2 yX2_today wsX2_today) := goodIn_app (goodIn_of _ (by decide +kernel)) ggL_law_X2_today
set_option maxRecDepth 20000 in
theorem ggL_law_X3_today : GoodIn wsL_law wsX3_today := goodIn_r _ [536, 90, 401, 690, 691, 692, 693, 694, 695, 696, 697, 698, 699, 700, 701, 702, 703, 704] (by decide +kernel) (by decide +kernel)
set_option maxRecDepth 20000 in
theorem gL_law_X3_today : GoodIn wsL_law (wsV RL 165 RX3 yX3_today wsX3_today) := goodIn_app (goodIn_of _ (by decide +kernel)) ggL_law_X3_today
set_option maxRecDepth 20000 in
theorem ggL_law_X2_copyCount : GoodIn wsL_law wsX2_copyCount := goodIn_r _ [540, 21, 409, 685, 686, 687, 688, 689, 713, 714, 715, 716, 717, 718, 719, 720] (by decide +kernel) (by decide +kernel)
set_option maxRecDepth 20000 in
theorem gL_law_X2_copyCount : GoodIn wsL_law (wsV RL 166 RX2 yX2_copyCount wsX2_copyCount) := goodIn_app (goodIn_of _ (by decide +kernel)) ggL_law_X2_copyCount
set_option maxRecDepth 20000 in
theorem ggL_law_X3_copyCount : GoodIn wsL_law wsX3_copyCount := goodIn_r _ [544, 90, 396, 690, 691, 692, 693, 694, 695, 696, 697, 698, 699, 700, 701, 702, 703, 704] (by decide +kernel) (by decide +kernel)
set_option maxRecDepth 20000 in
theorem gL_law_X3_copyCount : GoodIn wsL_law (wsV RL 169 RX3 yX3_copyCount wsX3_copyCount) := goodIn_app (goodIn_of _ (by decide +kernel)) ggL_law_X3_copyCount
set_option maxRecDepth 20000 in
theorem ggL_law_L_copy : GoodIn wsL_law wsL_copy := goodIn_ca (goodIn_r _ [547, 166, 548, 549, 550, 2, 551, 176, 177, 21, 485, 463, 552, 425, 426, 427, 428, 409, 553, 554, 555, 20, 556, 40, 42, 388, 389, 390, 391, 41, 468, 469, 470, 471, 44, 685, 686, 687, 688, 689, 713, 714, 715, 716, 717, 718, 719, 720] (by decide +kernel) (by decide +kernel)) (goodIn_sub (fun _ h => List.mem_append_right _ h) (by decide +kernel))
set_option maxRecDepth 20000 in
theorem gL_law_L_copy : GoodIn wsL_law (va_wsS RL 170 yL_copy wsL_copy) := goodIn_app (goodIn_of _ (by decide +kernel)) ggL_law_L_copy
set_option maxRecDepth 20000 in
theorem ggL_law_X3_copy : GoodIn wsL_law wsX3_copy := goodIn_r _ [560, 90, 449, 450, 451, 5, 452, 396, 561, 562, 563, 564, 54, 53, 57, 56, 55, 92, 93, 94, 95, 690, 691, 692, 693, 694, 695, 696, 697, 698, 699, 700, 701, 702, 703, 704] (by decide +kernel) (by decide +kernel)
set_option maxRecDepth 20000 in
theorem gL_law_X3_copy : GoodIn wsL_law (wsV RL 172 RX3 yX3_copy wsX3_copy) := goodIn_app (goodIn_of _ (by decide +kernel)) ggL_law_X3_copy
set_option maxRecDepth 20000 in
theorem ggL_law_X2_overdue : GoodIn wsL_law wsX2_overdue := goodIn_r _ [568, 21, 13, 569, 570, 571, 20, 572, 46, 40, 573, 469, 470, 471, 44, 388, 389, 390, 391, 41, 685, 686, 687, 688, 689, 713, 714, 715, 716, 717, 718, 719, 720] (by decide +kernel) (by decide +kernel)
set_option maxRecDepth 20000 in
theorem gL_law_X2_overdue : GoodIn wsL_law (wsV RL 173 RX2 yX2_overdue wsX2_overdue) := goodIn_app (goodIn_of _ (by decide +kernel)) ggL_law_X2_overdue
set_option maxRecDepth 20000 in
theorem ggL_law_X3_overdue : GoodIn wsL_law wsX3_overdue := goodIn_r _ [577, 90, 396, 54, 401, 55, 690, 691, 692, 693, 694, 695, 696, 697, 698, 699, 700, 701, 702, 703, 704] (by decide +kernel) (by decide +kernel)
set_option maxRecDepth 20000 in
theorem gL_law_X3_overdue : GoodIn wsL_law (wsV RL 176 RX3 yX3_overdue wsX3_overdue) := goodIn_app (goodIn_of _ (by decide +kernel)) ggL_law_X3_overdue
set_option maxRecDepth 20000 in
theorem ggL_law_L_holderAt : GoodIn wsL_law wsL_holderAt := goodIn_ca (goodIn_ca (goodIn_r _ [580, 166, 64, 581, 582, 583, 2, 584, 70, 71, 13, 21, 425, 426, 427, 428, 176, 177, 409, 585, 586, 587, 20, 588, 41, 43, 45, 42, 685, 686, 687, 688, 689, 713, 714, 715, 716, 717, 718, 719, 720] (by decide +kernel) (by decide +kernel)) (goodIn_sub (fun _ h => List.mem_append_left _ (List.mem_append_left _ (List.mem_append_right _ h))) (by decide +kernel))) (goodIn_sub (fun _ h => List.mem_append_right _ h) (by decide +kernel))
set_option maxRecDepth 20000 in
theorem gL_law_L_holderAt : GoodIn wsL_law (va_wsS RL 177 yL_holderAt wsL_holderAt) := goodIn_app (goodIn_of _ (by decide +kernel)) ggL_law_L_holderAt
set_option maxRecDepth 20000 in
theorem ggL_law_X3_holderAt : GoodIn wsL_law wsX3_holderAt := goodIn_r _ [592, 90, 401, 56, 58, 59, 57, 449, 450, 451, 5, 452, 396, 92, 93, 94, 95, 690, 691, 692, 693, 694, 695, 696, 697, 698, 699, 700, 701, 702, 703, 704] (by decide +kernel) (by decide +kernel)
set_option maxRecDepth 20000 in
theorem gL_law_X3_holderAt : GoodIn wsL_law (wsV RL 179 RX3 yX3_holderAt wsX3_holderAt) := goodIn_app (goodIn_of _ (by decide +kernel)) ggL_law_X3_holderAt
set_option maxRecDepth 20000 in
theorem ggL_law_L_reach : GoodIn wsL_law wsL_reach := goodIn_ca (goodIn_r _ [595, 166, 596, 597, 598, 2, 599, 429, 430, 431, 432, 176, 177, 600, 601, 602, 603, 17, 21, 604, 605, 606, 20, 607, 46, 39, 608, 554, 555, 556, 40, 42, 388, 389, 390, 391, 41, 505, 506, 507, 16, 508, 33, 509, 283, 284, 285, 34, 270, 246, 247, 248, 31, 29, 249, 250, 685, 686, 687, 688, 689, 713, 714, 715, 716, 717, 718, 719, 720, 705, 706, 707, 708, 709, 710, 711, 712] (by decide +kernel) (by decide +kernel)) (goodIn_sub (fun _ h => List.mem_append_right _ h) (by decide +kernel))
set_option maxRecDepth 20000 in
theorem gL_law_L_reach : GoodIn wsL_law (va_wsS RL 180 yL_reach wsL_reach) := goodIn_app (goodIn_of _ (by decide +kernel)) ggL_law_L_reach
set_option maxRecDepth 20000 in
theorem ggL_law_X3_reach : GoodIn wsL_law wsX3_reach := goodIn_r _ [612, 90, 453, 454, 5, 455, 613, 614, 615, 616, 396, 54, 51, 53, 561, 562, 563, 564, 57, 56, 55, 290, 291, 292, 293, 142, 255, 256, 257, 258, 152, 153, 154, 155, 91, 52, 156, 157, 158, 159, 160, 161, 92, 93, 94, 95, 690, 691, 692, 693, 694, 695, 696, 697, 698, 699, 700, 701, 702, 703, 704] (by decide +kernel) (by decide +kernel)
set_option maxRecDepth 20000 in
theorem gL_law_X3_reach : GoodIn wsL_law (wsV RL 182 RX3 yX3_reach wsX3_reach) := goodIn_app (goodIn_of _ (by decide +kernel)) ggL_law_X3_reach
set_option maxRecDepth 20000 in
theorem ggL_law_X2_risk : GoodIn wsL_law wsX2_risk := goodIn_r _ [620, 497, 498, 499, 2, 500, 17, 21, 501, 502, 503, 20, 504, 46, 40, 39, 505, 506, 507, 16, 508, 33, 509, 283, 284, 285, 34, 270, 246, 247, 248, 31, 29, 249, 250, 685, 686, 687, 688, 689, 713, 714, 715, 716, 717, 718, 719, 720, 705, 706, 707, 708, 709, 710, 711, 712] (by decide +kernel) (by decide +kernel)
set_option maxRecDepth 20000 in
theorem gL_law_X2_risk : GoodIn wsL_law (wsV RL 183 RX2 yX2_risk wsX2_risk) := goodIn_app (goodIn_of _ (by decide +kernel)) ggL_law_X2_risk
set_option maxRecDepth 20000 in
theorem ggL_law_X3_risk : GoodIn wsL_law wsX3_risk := goodIn_r _ [624, 90, 514, 515, 516, 5, 517, 396, 54, 51, 53, 290, 291, 292, 293, 142, 255, 256, 257, 258, 152, 153, 154, 155, 91, 52, 156, 157, 158, 159, 160, 161, 690, 691, 692, 693, 694, 695, 696, 697, 698, 699, 700, 701, 702, 703, 704] (by decide +kernel) (by decide +kernel)
set_option maxRecDepth 20000 in
theorem gL_law_X3_risk : GoodIn wsL_law (wsV RL 186 RX3 yX3_risk wsX3_risk) := goodIn_app (goodIn_of _ (by decide +kernel)) ggL_law_X3_risk
set_option maxRecDepth 20000 in
theorem ggL_law_L_suggest : GoodIn wsL_law wsL_suggest := goodIn_ca (goodIn_ca (goodIn_r _ [627, 166, 64, 628, 629, 630, 2, 631, 70, 71, 17, 107, 74, 23, 21, 24, 429, 430, 431, 432, 176, 177, 112, 113, 114, 632, 633, 634, 20, 635, 46, 39, 636, 438, 439, 440, 40, 41, 282, 283, 284, 16, 285, 34, 270, 246, 247, 248, 31, 29, 249, 250, 600, 601, 602, 603, 604, 605, 606, 607, 608, 554, 555, 556, 42, 388, 389, 390, 391, 505, 506, 507, 508, 33, 509, 637, 638, 639, 640, 641, 642, 643, 644, 334, 645, 646, 647, 648, 649, 132, 133, 134, 135, 136, 137, 685, 686, 687, 688, 689, 705, 706, 707, 708, 709, 710, 711, 712, 713, 714, 715, 716, 717, 718, 719, 720] (by decide +kernel) (by decide +kernel)) (goodIn_sub (fun _ h => List.mem_append_left _ (List.mem_append_left _ (List.mem_append_right _ h))) (by decide +kernel))) (goodIn_sub (fun _ h => List.mem_append_right _ h) (by decide +kernel))
set_option maxRecDepth 20000 in
theorem gL_law_L_suggest : GoodIn wsL_law (va_wsS RL 187 yL_suggest wsL_suggest) := goodIn_app (goodIn_of _ (by decide +kernel)) ggL_law_L_suggest
set_option maxRecDepth 20000 in
theorem ggL_law_X3_suggest : GoodIn wsL_law wsX3_suggest := goodIn_r _ [653, 90, 142, 22, 396, 54, 56, 53, 91, 51, 453, 454, 5, 455, 92, 93, 94, 95, 613, 614, 615, 616, 561, 562, 563, 564, 57, 55, 290, 291, 292, 293, 255, 256, 257, 258, 152, 153, 154, 155, 52, 156, 157, 158, 159, 160, 161, 162, 132, 133, 134, 135, 136, 137, 690, 691, 692, 693, 694, 695, 696, 697, 698, 699, 700, 701, 702, 703, 704] (by decide +kernel) (by decide +kernel)
set_option maxRecDepth 20000 in
theorem gL_law_X3_suggest : GoodIn wsL_law (wsV RL 189 RX3 yX3_suggest wsX3_suggest) := goodIn_app (goodIn_of _ (by decide +kernel)) ggL_law_X3_suggest
set_option maxRecDepth 20000 in
theorem ggL_law_X2_exposure : GoodIn wsL_law wsX2_exposure := goodIn_r _ [657, 17, 107, 497, 498, 499, 2, 500, 21, 501, 502, 503, 20, 504, 46, 40, 39, 505, 506, 507, 16, 508, 33, 509, 283, 284, 285, 34, 270, 246, 247, 248, 31, 29, 249, 250, 600, 601, 602, 603, 604, 605, 606, 607, 608, 554, 555, 556, 42, 388, 389, 390, 391, 41, 649, 132, 133, 134, 135, 136, 137, 685, 686, 687, 688, 689, 705, 706, 707, 708, 709, 710, 711, 712, 713, 714, 715, 716, 717, 718, 719, 720] (by decide +kernel) (by decide +kernel)
set_option maxRecDepth 20000 in
theorem gL_law_X2_exposure : GoodIn wsL_law (wsV RL 190 RX2 yX2_exposure wsX2_exposure) := goodIn_app (goodIn_of _ (by decide +kernel)) ggL_law_X2_exposure
set_option maxRecDepth 20000 in
theorem ggL_law_X3_exposure : GoodIn wsL_law wsX3_exposure := goodIn_r _ [661, 90, 142, 514, 515, 516, 5, 517, 396, 54, 51, 53, 290, 291, 292, 293, 255, 256, 257, 258, 152, 153, 154, 155, 91, 52, 156, 157, 158, 159, 160, 161, 613, 614, 615, 616, 561, 562, 563, 564, 57, 56, 55, 162, 132, 133, 134, 135, 136, 137, 690, 691, 692, 693, 694, 695, 696, 697, 698, 699, 700, 701, 702, 703, 704] (by decide +kernel) (by decide +kernel)
set_option maxRecDepth 20000 in
theorem gL_law_X3_exposure : GoodIn wsL_law (wsV RL 194 RX3 yX3_exposure wsX3_exposure) := goodIn_app (goodIn_of _ (by decide +kernel)) ggL_law_X3_exposure
set_option maxRecDepth 20000 in
theorem ggL_law_X2_digest : GoodIn wsL_law wsX2_digest := goodIn_r _ [665, 666, 17, 74, 210, 107, 343, 13, 21, 409, 667, 668, 2, 669, 670, 671, 672, 673, 674, 171, 230, 231, 232, 16, 233, 31, 675, 676, 677, 678, 485, 463, 552, 553, 554, 555, 20, 556, 40, 42, 388, 389, 390, 391, 41, 468, 469, 470, 471, 44, 685, 686, 687, 688, 689, 705, 706, 707, 708, 709, 710, 711, 712, 713, 714, 715, 716, 717, 718, 719, 720] (by decide +kernel) (by decide +kernel)
set_option maxRecDepth 20000 in
theorem gL_law_X2_digest : GoodIn wsL_law (wsV RL 195 RX2 yX2_digest wsX2_digest) := goodIn_app (goodIn_of _ (by decide +kernel)) ggL_law_X2_digest
set_option maxRecDepth 20000 in
theorem ggL_law_X3_digest : GoodIn wsL_law wsX3_digest := goodIn_r _ [682, 90, 683, 91, 684, 51, 142, 52, 143, 401, 396, 152, 153, 154, 5, 155, 156, 157, 158, 159, 160, 161, 561, 562, 563, 564, 54, 53, 57, 56, 55, 690, 691, 692, 693, 694, 695, 696, 697, 698, 699, 700, 701, 702, 703, 704] (by decide +kernel) (by decide +kernel)
set_option maxRecDepth 20000 in
theorem gL_law_X3_digest : GoodIn wsL_law (wsV RL 199 RX3 yX3_digest wsX3_digest) := goodIn_app (goodIn_of _ (by decide +kernel)) ggL_law_X3_digest
theorem dL_law_0 : decode cL_law 0 = .ok (.new 8, 3) := by decide +kernel
theorem dL_law_3 : decode cL_law 3 = .ok (.dup, 1) := by decide +kernel
theorem dL_law_4 : decode cL_law 4 = .ok (.invokespecial 82, 3) := by decide +kernel
theorem dL_law_7 : decode cL_law 7 = .ok (.astore_n 1, 1) := by decide +kernel
theorem dL_law_8 : decode cL_law 8 = .ok (.new 83, 3) := by decide +kernel
theorem dL_law_11 : decode cL_law 11 = .ok (.dup, 1) := by decide +kernel
theorem dL_law_12 : decode cL_law 12 = .ok (.invokespecial 85, 3) := by decide +kernel
theorem dL_law_15 : decode cL_law 15 = .ok (.astore_n 2, 1) := by decide +kernel
theorem dL_law_16 : decode cL_law 16 = .ok (.iconst 1, 1) := by decide +kernel
theorem dL_law_17 : decode cL_law 17 = .ok (.newarray .long, 2) := by decide +kernel
theorem dL_law_19 : decode cL_law 19 = .ok (.astore_n 3, 1) := by decide +kernel
theorem dL_law_20 : decode cL_law 20 = .ok (.iconst 0, 1) := by decide +kernel
theorem dL_law_21 : decode cL_law 21 = .ok (.istore 4, 2) := by decide +kernel
theorem dL_law_23 : decode cL_law 23 = .ok (.iload 4, 2) := by decide +kernel
theorem dL_law_25 : decode cL_law 25 = .ok (.aload_n 0, 1) := by decide +kernel
theorem dL_law_26 : decode cL_law 26 = .ok (.arraylength, 1) := by decide +kernel
theorem dL_law_27 : decode cL_law 27 = .ok (.iconst 4, 1) := by decide +kernel
theorem dL_law_28 : decode cL_law 28 = .ok (.isub, 1) := by decide +kernel
theorem dL_law_29 : decode cL_law 29 = .ok (.if_icmp .gt 1610, 3) := by decide +kernel
theorem dL_law_32 : decode cL_law 32 = .ok (.aload_n 0, 1) := by decide +kernel
theorem dL_law_33 : decode cL_law 33 = .ok (.iload 4, 2) := by decide +kernel
theorem dL_law_35 : decode cL_law 35 = .ok (.iaload, 1) := by decide +kernel
theorem dL_law_36 : decode cL_law 36 = .ok (.bipush 31, 2) := by decide +kernel
theorem dL_law_38 : decode cL_law 38 = .ok (.iand, 1) := by decide +kernel
theorem dL_law_39 : decode cL_law 39 = .ok (.tableswitch 1594 0 30 #[137, 193, 249, 317, 330, 343, 399, 467, 542, 598, 654, 667, 723, 798, 811, 867, 923, 1003, 1059, 1115, 1171, 1227, 1240, 1253, 1321, 1334, 1402, 1458, 1471, 1539, 1580], 137) := by decide +kernel
theorem dL_law_176 : decode cL_law 176 = .ok (.aload_n 1, 1) := by decide +kernel
theorem dL_law_177 : decode cL_law 177 = .ok (.aload_n 0, 1) := by decide +kernel
theorem dL_law_178 : decode cL_law 178 = .ok (.iload 4, 2) := by decide +kernel
theorem dL_law_180 : decode cL_law 180 = .ok (.iconst 1, 1) := by decide +kernel
theorem dL_law_181 : decode cL_law 181 = .ok (.iadd, 1) := by decide +kernel
theorem dL_law_182 : decode cL_law 182 = .ok (.iaload, 1) := by decide +kernel
theorem dL_law_183 : decode cL_law 183 = .ok (.aload_n 3, 1) := by decide +kernel
theorem dL_law_184 : decode cL_law 184 = .ok (.invokestatic 86, 3) := by decide +kernel
theorem dL_law_187 : decode cL_law 187 = .ok (.istore 5, 2) := by decide +kernel
theorem dL_law_189 : decode cL_law 189 = .ok (.aload_n 2, 1) := by decide +kernel
theorem dL_law_190 : decode cL_law 190 = .ok (.aload_n 0, 1) := by decide +kernel
theorem dL_law_191 : decode cL_law 191 = .ok (.iload 4, 2) := by decide +kernel
theorem dL_law_193 : decode cL_law 193 = .ok (.iconst 1, 1) := by decide +kernel
theorem dL_law_194 : decode cL_law 194 = .ok (.iadd, 1) := by decide +kernel
theorem dL_law_195 : decode cL_law 195 = .ok (.iaload, 1) := by decide +kernel
theorem dL_law_196 : decode cL_law 196 = .ok (.invokevirtual 91, 3) := by decide +kernel
theorem dL_law_199 : decode cL_law 199 = .ok (.istore 6, 2) := by decide +kernel
theorem dL_law_201 : decode cL_law 201 = .ok (.aload_n 2, 1) := by decide +kernel
theorem dL_law_202 : decode cL_law 202 = .ok (.invokevirtual 92, 3) := by decide +kernel
theorem dL_law_205 : decode cL_law 205 = .ok (.iload 5, 2) := by decide +kernel
theorem dL_law_207 : decode cL_law 207 = .ok (.if_icmp .eq 5, 3) := by decide +kernel
theorem dL_law_210 : decode cL_law 210 = .ok (.iconst 0, 1) := by decide +kernel
theorem dL_law_211 : decode cL_law 211 = .ok (.ireturn, 1) := by decide +kernel
theorem dL_law_212 : decode cL_law 212 = .ok (.iload 5, 2) := by decide +kernel
theorem dL_law_214 : decode cL_law 214 = .ok (.ifCond .ne 15, 3) := by decide +kernel
theorem dL_law_217 : decode cL_law 217 = .ok (.aload_n 3, 1) := by decide +kernel
theorem dL_law_218 : decode cL_law 218 = .ok (.iconst 0, 1) := by decide +kernel
theorem dL_law_219 : decode cL_law 219 = .ok (.laload, 1) := by decide +kernel
theorem dL_law_220 : decode cL_law 220 = .ok (.iload 6, 2) := by decide +kernel
theorem dL_law_222 : decode cL_law 222 = .ok (.i2l, 1) := by decide +kernel
theorem dL_law_223 : decode cL_law 223 = .ok (.lcmp, 1) := by decide +kernel
theorem dL_law_224 : decode cL_law 224 = .ok (.ifCond .eq 5, 3) := by decide +kernel
theorem dL_law_227 : decode cL_law 227 = .ok (.iconst 0, 1) := by decide +kernel
theorem dL_law_228 : decode cL_law 228 = .ok (.ireturn, 1) := by decide +kernel
theorem dL_law_229 : decode cL_law 229 = .ok (.goto 1404, 3) := by decide +kernel
theorem dL_law_232 : decode cL_law 232 = .ok (.aload_n 1, 1) := by decide +kernel
theorem dL_law_233 : decode cL_law 233 = .ok (.aload_n 0, 1) := by decide +kernel
theorem dL_law_234 : decode cL_law 234 = .ok (.iload 4, 2) := by decide +kernel
theorem dL_law_236 : decode cL_law 236 = .ok (.iconst 1, 1) := by decide +kernel
theorem dL_law_237 : decode cL_law 237 = .ok (.iadd, 1) := by decide +kernel
theorem dL_law_238 : decode cL_law 238 = .ok (.iaload, 1) := by decide +kernel
theorem dL_law_239 : decode cL_law 239 = .ok (.aload_n 3, 1) := by decide +kernel
theorem dL_law_240 : decode cL_law 240 = .ok (.invokestatic 96, 3) := by decide +kernel
theorem dL_law_243 : decode cL_law 243 = .ok (.istore 5, 2) := by decide +kernel
theorem dL_law_245 : decode cL_law 245 = .ok (.aload_n 2, 1) := by decide +kernel
theorem dL_law_246 : decode cL_law 246 = .ok (.aload_n 0, 1) := by decide +kernel
theorem dL_law_247 : decode cL_law 247 = .ok (.iload 4, 2) := by decide +kernel
theorem dL_law_249 : decode cL_law 249 = .ok (.iconst 1, 1) := by decide +kernel
theorem dL_law_250 : decode cL_law 250 = .ok (.iadd, 1) := by decide +kernel
theorem dL_law_251 : decode cL_law 251 = .ok (.iaload, 1) := by decide +kernel
theorem dL_law_252 : decode cL_law 252 = .ok (.invokevirtual 98, 3) := by decide +kernel
theorem dL_law_255 : decode cL_law 255 = .ok (.istore 6, 2) := by decide +kernel
theorem dL_law_257 : decode cL_law 257 = .ok (.aload_n 2, 1) := by decide +kernel
theorem dL_law_258 : decode cL_law 258 = .ok (.invokevirtual 92, 3) := by decide +kernel
theorem dL_law_261 : decode cL_law 261 = .ok (.iload 5, 2) := by decide +kernel
theorem dL_law_263 : decode cL_law 263 = .ok (.if_icmp .eq 5, 3) := by decide +kernel
theorem dL_law_266 : decode cL_law 266 = .ok (.iconst 0, 1) := by decide +kernel
theorem dL_law_267 : decode cL_law 267 = .ok (.ireturn, 1) := by decide +kernel
theorem dL_law_268 : decode cL_law 268 = .ok (.iload 5, 2) := by decide +kernel
theorem dL_law_270 : decode cL_law 270 = .ok (.ifCond .ne 15, 3) := by decide +kernel
theorem dL_law_273 : decode cL_law 273 = .ok (.aload_n 3, 1) := by decide +kernel
theorem dL_law_274 : decode cL_law 274 = .ok (.iconst 0, 1) := by decide +kernel
theorem dL_law_275 : decode cL_law 275 = .ok (.laload, 1) := by decide +kernel
theorem dL_law_276 : decode cL_law 276 = .ok (.iload 6, 2) := by decide +kernel
theorem dL_law_278 : decode cL_law 278 = .ok (.i2l, 1) := by decide +kernel
theorem dL_law_279 : decode cL_law 279 = .ok (.lcmp, 1) := by decide +kernel
theorem dL_law_280 : decode cL_law 280 = .ok (.ifCond .eq 5, 3) := by decide +kernel
theorem dL_law_283 : decode cL_law 283 = .ok (.iconst 0, 1) := by decide +kernel
theorem dL_law_284 : decode cL_law 284 = .ok (.ireturn, 1) := by decide +kernel
theorem dL_law_285 : decode cL_law 285 = .ok (.goto 1348, 3) := by decide +kernel
theorem dL_law_288 : decode cL_law 288 = .ok (.aload_n 1, 1) := by decide +kernel
theorem dL_law_289 : decode cL_law 289 = .ok (.aload_n 0, 1) := by decide +kernel
theorem dL_law_290 : decode cL_law 290 = .ok (.iload 4, 2) := by decide +kernel
theorem dL_law_292 : decode cL_law 292 = .ok (.iconst 1, 1) := by decide +kernel
theorem dL_law_293 : decode cL_law 293 = .ok (.iadd, 1) := by decide +kernel
theorem dL_law_294 : decode cL_law 294 = .ok (.iaload, 1) := by decide +kernel
theorem dL_law_295 : decode cL_law 295 = .ok (.aload_n 0, 1) := by decide +kernel
theorem dL_law_296 : decode cL_law 296 = .ok (.iload 4, 2) := by decide +kernel
theorem dL_law_298 : decode cL_law 298 = .ok (.iconst 2, 1) := by decide +kernel
theorem dL_law_299 : decode cL_law 299 = .ok (.iadd, 1) := by decide +kernel
theorem dL_law_300 : decode cL_law 300 = .ok (.iaload, 1) := by decide +kernel
theorem dL_law_301 : decode cL_law 301 = .ok (.aload_n 3, 1) := by decide +kernel
theorem dL_law_302 : decode cL_law 302 = .ok (.invokestatic 99, 3) := by decide +kernel
theorem dL_law_305 : decode cL_law 305 = .ok (.istore 5, 2) := by decide +kernel
theorem dL_law_307 : decode cL_law 307 = .ok (.aload_n 2, 1) := by decide +kernel
theorem dL_law_308 : decode cL_law 308 = .ok (.aload_n 0, 1) := by decide +kernel
theorem dL_law_309 : decode cL_law 309 = .ok (.iload 4, 2) := by decide +kernel
theorem dL_law_311 : decode cL_law 311 = .ok (.iconst 1, 1) := by decide +kernel
theorem dL_law_312 : decode cL_law 312 = .ok (.iadd, 1) := by decide +kernel
theorem dL_law_313 : decode cL_law 313 = .ok (.iaload, 1) := by decide +kernel
theorem dL_law_314 : decode cL_law 314 = .ok (.aload_n 0, 1) := by decide +kernel
theorem dL_law_315 : decode cL_law 315 = .ok (.iload 4, 2) := by decide +kernel
theorem dL_law_317 : decode cL_law 317 = .ok (.iconst 2, 1) := by decide +kernel
theorem dL_law_318 : decode cL_law 318 = .ok (.iadd, 1) := by decide +kernel
theorem dL_law_319 : decode cL_law 319 = .ok (.iaload, 1) := by decide +kernel
theorem dL_law_320 : decode cL_law 320 = .ok (.invokevirtual 102, 3) := by decide +kernel
theorem dL_law_323 : decode cL_law 323 = .ok (.istore 6, 2) := by decide +kernel
theorem dL_law_325 : decode cL_law 325 = .ok (.aload_n 2, 1) := by decide +kernel
theorem dL_law_326 : decode cL_law 326 = .ok (.invokevirtual 92, 3) := by decide +kernel
theorem dL_law_329 : decode cL_law 329 = .ok (.iload 5, 2) := by decide +kernel
theorem dL_law_331 : decode cL_law 331 = .ok (.if_icmp .eq 5, 3) := by decide +kernel
theorem dL_law_334 : decode cL_law 334 = .ok (.iconst 0, 1) := by decide +kernel
theorem dL_law_335 : decode cL_law 335 = .ok (.ireturn, 1) := by decide +kernel
theorem dL_law_336 : decode cL_law 336 = .ok (.iload 5, 2) := by decide +kernel
theorem dL_law_338 : decode cL_law 338 = .ok (.ifCond .ne 15, 3) := by decide +kernel
theorem dL_law_341 : decode cL_law 341 = .ok (.aload_n 3, 1) := by decide +kernel
theorem dL_law_342 : decode cL_law 342 = .ok (.iconst 0, 1) := by decide +kernel
theorem dL_law_343 : decode cL_law 343 = .ok (.laload, 1) := by decide +kernel
theorem dL_law_344 : decode cL_law 344 = .ok (.iload 6, 2) := by decide +kernel
theorem dL_law_346 : decode cL_law 346 = .ok (.i2l, 1) := by decide +kernel
theorem dL_law_347 : decode cL_law 347 = .ok (.lcmp, 1) := by decide +kernel
theorem dL_law_348 : decode cL_law 348 = .ok (.ifCond .eq 5, 3) := by decide +kernel
theorem dL_law_351 : decode cL_law 351 = .ok (.iconst 0, 1) := by decide +kernel
theorem dL_law_352 : decode cL_law 352 = .ok (.ireturn, 1) := by decide +kernel
theorem dL_law_353 : decode cL_law 353 = .ok (.goto 1280, 3) := by decide +kernel
theorem dL_law_356 : decode cL_law 356 = .ok (.aload_n 1, 1) := by decide +kernel
theorem dL_law_357 : decode cL_law 357 = .ok (.invokevirtual 103, 3) := by decide +kernel
theorem dL_law_360 : decode cL_law 360 = .ok (.aload_n 2, 1) := by decide +kernel
theorem dL_law_361 : decode cL_law 361 = .ok (.invokevirtual 106, 3) := by decide +kernel
theorem dL_law_364 : decode cL_law 364 = .ok (.if_icmp .eq 1269, 3) := by decide +kernel
theorem dL_law_367 : decode cL_law 367 = .ok (.iconst 0, 1) := by decide +kernel
theorem dL_law_368 : decode cL_law 368 = .ok (.ireturn, 1) := by decide +kernel
theorem dL_law_369 : decode cL_law 369 = .ok (.aload_n 1, 1) := by decide +kernel
theorem dL_law_370 : decode cL_law 370 = .ok (.invokevirtual 107, 3) := by decide +kernel
theorem dL_law_373 : decode cL_law 373 = .ok (.aload_n 2, 1) := by decide +kernel
theorem dL_law_374 : decode cL_law 374 = .ok (.invokevirtual 110, 3) := by decide +kernel
theorem dL_law_377 : decode cL_law 377 = .ok (.if_icmp .eq 1256, 3) := by decide +kernel
theorem dL_law_380 : decode cL_law 380 = .ok (.iconst 0, 1) := by decide +kernel
theorem dL_law_381 : decode cL_law 381 = .ok (.ireturn, 1) := by decide +kernel
theorem dL_law_382 : decode cL_law 382 = .ok (.aload_n 1, 1) := by decide +kernel
theorem dL_law_383 : decode cL_law 383 = .ok (.aload_n 0, 1) := by decide +kernel
theorem dL_law_384 : decode cL_law 384 = .ok (.iload 4, 2) := by decide +kernel
theorem dL_law_386 : decode cL_law 386 = .ok (.iconst 1, 1) := by decide +kernel
theorem dL_law_387 : decode cL_law 387 = .ok (.iadd, 1) := by decide +kernel
theorem dL_law_388 : decode cL_law 388 = .ok (.iaload, 1) := by decide +kernel
theorem dL_law_389 : decode cL_law 389 = .ok (.aload_n 3, 1) := by decide +kernel
theorem dL_law_390 : decode cL_law 390 = .ok (.invokestatic 111, 3) := by decide +kernel
theorem dL_law_393 : decode cL_law 393 = .ok (.istore 5, 2) := by decide +kernel
theorem dL_law_395 : decode cL_law 395 = .ok (.aload_n 2, 1) := by decide +kernel
theorem dL_law_396 : decode cL_law 396 = .ok (.aload_n 0, 1) := by decide +kernel
theorem dL_law_397 : decode cL_law 397 = .ok (.iload 4, 2) := by decide +kernel
theorem dL_law_399 : decode cL_law 399 = .ok (.iconst 1, 1) := by decide +kernel
theorem dL_law_400 : decode cL_law 400 = .ok (.iadd, 1) := by decide +kernel
theorem dL_law_401 : decode cL_law 401 = .ok (.iaload, 1) := by decide +kernel
theorem dL_law_402 : decode cL_law 402 = .ok (.invokevirtual 113, 3) := by decide +kernel
theorem dL_law_405 : decode cL_law 405 = .ok (.istore 6, 2) := by decide +kernel
theorem dL_law_407 : decode cL_law 407 = .ok (.aload_n 2, 1) := by decide +kernel
theorem dL_law_408 : decode cL_law 408 = .ok (.invokevirtual 92, 3) := by decide +kernel
theorem dL_law_411 : decode cL_law 411 = .ok (.iload 5, 2) := by decide +kernel
theorem dL_law_413 : decode cL_law 413 = .ok (.if_icmp .eq 5, 3) := by decide +kernel
theorem dL_law_416 : decode cL_law 416 = .ok (.iconst 0, 1) := by decide +kernel
theorem dL_law_417 : decode cL_law 417 = .ok (.ireturn, 1) := by decide +kernel
theorem dL_law_418 : decode cL_law 418 = .ok (.iload 5, 2) := by decide +kernel
theorem dL_law_420 : decode cL_law 420 = .ok (.ifCond .ne 15, 3) := by decide +kernel
theorem dL_law_423 : decode cL_law 423 = .ok (.aload_n 3, 1) := by decide +kernel
theorem dL_law_424 : decode cL_law 424 = .ok (.iconst 0, 1) := by decide +kernel
theorem dL_law_425 : decode cL_law 425 = .ok (.laload, 1) := by decide +kernel
theorem dL_law_426 : decode cL_law 426 = .ok (.iload 6, 2) := by decide +kernel
theorem dL_law_428 : decode cL_law 428 = .ok (.i2l, 1) := by decide +kernel
theorem dL_law_429 : decode cL_law 429 = .ok (.lcmp, 1) := by decide +kernel
theorem dL_law_430 : decode cL_law 430 = .ok (.ifCond .eq 5, 3) := by decide +kernel
theorem dL_law_433 : decode cL_law 433 = .ok (.iconst 0, 1) := by decide +kernel
theorem dL_law_434 : decode cL_law 434 = .ok (.ireturn, 1) := by decide +kernel
theorem dL_law_435 : decode cL_law 435 = .ok (.goto 1198, 3) := by decide +kernel
theorem dL_law_438 : decode cL_law 438 = .ok (.aload_n 1, 1) := by decide +kernel
theorem dL_law_439 : decode cL_law 439 = .ok (.aload_n 0, 1) := by decide +kernel
theorem dL_law_440 : decode cL_law 440 = .ok (.iload 4, 2) := by decide +kernel
theorem dL_law_442 : decode cL_law 442 = .ok (.iconst 1, 1) := by decide +kernel
theorem dL_law_443 : decode cL_law 443 = .ok (.iadd, 1) := by decide +kernel
theorem dL_law_444 : decode cL_law 444 = .ok (.iaload, 1) := by decide +kernel
theorem dL_law_445 : decode cL_law 445 = .ok (.aload_n 0, 1) := by decide +kernel
theorem dL_law_446 : decode cL_law 446 = .ok (.iload 4, 2) := by decide +kernel
theorem dL_law_448 : decode cL_law 448 = .ok (.iconst 2, 1) := by decide +kernel
theorem dL_law_449 : decode cL_law 449 = .ok (.iadd, 1) := by decide +kernel
theorem dL_law_450 : decode cL_law 450 = .ok (.iaload, 1) := by decide +kernel
theorem dL_law_451 : decode cL_law 451 = .ok (.aload_n 3, 1) := by decide +kernel
theorem dL_law_452 : decode cL_law 452 = .ok (.invokestatic 114, 3) := by decide +kernel
theorem dL_law_455 : decode cL_law 455 = .ok (.istore 5, 2) := by decide +kernel
theorem dL_law_457 : decode cL_law 457 = .ok (.aload_n 2, 1) := by decide +kernel
theorem dL_law_458 : decode cL_law 458 = .ok (.aload_n 0, 1) := by decide +kernel
theorem dL_law_459 : decode cL_law 459 = .ok (.iload 4, 2) := by decide +kernel
theorem dL_law_461 : decode cL_law 461 = .ok (.iconst 1, 1) := by decide +kernel
theorem dL_law_462 : decode cL_law 462 = .ok (.iadd, 1) := by decide +kernel
theorem dL_law_463 : decode cL_law 463 = .ok (.iaload, 1) := by decide +kernel
theorem dL_law_464 : decode cL_law 464 = .ok (.aload_n 0, 1) := by decide +kernel
theorem dL_law_465 : decode cL_law 465 = .ok (.iload 4, 2) := by decide +kernel
theorem dL_law_467 : decode cL_law 467 = .ok (.iconst 2, 1) := by decide +kernel
theorem dL_law_468 : decode cL_law 468 = .ok (.iadd, 1) := by decide +kernel
theorem dL_law_469 : decode cL_law 469 = .ok (.iaload, 1) := by decide +kernel
theorem dL_law_470 : decode cL_law 470 = .ok (.invokevirtual 116, 3) := by decide +kernel
theorem dL_law_473 : decode cL_law 473 = .ok (.istore 6, 2) := by decide +kernel
theorem dL_law_475 : decode cL_law 475 = .ok (.aload_n 2, 1) := by decide +kernel
theorem dL_law_476 : decode cL_law 476 = .ok (.invokevirtual 92, 3) := by decide +kernel
theorem dL_law_479 : decode cL_law 479 = .ok (.iload 5, 2) := by decide +kernel
theorem dL_law_481 : decode cL_law 481 = .ok (.if_icmp .eq 5, 3) := by decide +kernel
theorem dL_law_484 : decode cL_law 484 = .ok (.iconst 0, 1) := by decide +kernel
theorem dL_law_485 : decode cL_law 485 = .ok (.ireturn, 1) := by decide +kernel
theorem dL_law_486 : decode cL_law 486 = .ok (.iload 5, 2) := by decide +kernel
theorem dL_law_488 : decode cL_law 488 = .ok (.ifCond .ne 15, 3) := by decide +kernel
theorem dL_law_491 : decode cL_law 491 = .ok (.aload_n 3, 1) := by decide +kernel
theorem dL_law_492 : decode cL_law 492 = .ok (.iconst 0, 1) := by decide +kernel
theorem dL_law_493 : decode cL_law 493 = .ok (.laload, 1) := by decide +kernel
theorem dL_law_494 : decode cL_law 494 = .ok (.iload 6, 2) := by decide +kernel
theorem dL_law_496 : decode cL_law 496 = .ok (.i2l, 1) := by decide +kernel
theorem dL_law_497 : decode cL_law 497 = .ok (.lcmp, 1) := by decide +kernel
theorem dL_law_498 : decode cL_law 498 = .ok (.ifCond .eq 5, 3) := by decide +kernel
theorem dL_law_501 : decode cL_law 501 = .ok (.iconst 0, 1) := by decide +kernel
theorem dL_law_502 : decode cL_law 502 = .ok (.ireturn, 1) := by decide +kernel
theorem dL_law_503 : decode cL_law 503 = .ok (.goto 1130, 3) := by decide +kernel
theorem dL_law_506 : decode cL_law 506 = .ok (.aload_n 1, 1) := by decide +kernel
theorem dL_law_507 : decode cL_law 507 = .ok (.aload_n 0, 1) := by decide +kernel
theorem dL_law_508 : decode cL_law 508 = .ok (.iload 4, 2) := by decide +kernel
theorem dL_law_510 : decode cL_law 510 = .ok (.iconst 1, 1) := by decide +kernel
theorem dL_law_511 : decode cL_law 511 = .ok (.iadd, 1) := by decide +kernel
theorem dL_law_512 : decode cL_law 512 = .ok (.iaload, 1) := by decide +kernel
theorem dL_law_513 : decode cL_law 513 = .ok (.aload_n 0, 1) := by decide +kernel
theorem dL_law_514 : decode cL_law 514 = .ok (.iload 4, 2) := by decide +kernel
theorem dL_law_516 : decode cL_law 516 = .ok (.iconst 2, 1) := by decide +kernel
theorem dL_law_517 : decode cL_law 517 = .ok (.iadd, 1) := by decide +kernel
theorem dL_law_518 : decode cL_law 518 = .ok (.iaload, 1) := by decide +kernel
theorem dL_law_519 : decode cL_law 519 = .ok (.aload_n 3, 1) := by decide +kernel
theorem dL_law_520 : decode cL_law 520 = .ok (.invokestatic 117, 3) := by decide +kernel
theorem dL_law_523 : decode cL_law 523 = .ok (.istore 5, 2) := by decide +kernel
theorem dL_law_525 : decode cL_law 525 = .ok (.aload_n 2, 1) := by decide +kernel
theorem dL_law_526 : decode cL_law 526 = .ok (.aload_n 0, 1) := by decide +kernel
theorem dL_law_527 : decode cL_law 527 = .ok (.iload 4, 2) := by decide +kernel
theorem dL_law_529 : decode cL_law 529 = .ok (.iconst 1, 1) := by decide +kernel
theorem dL_law_530 : decode cL_law 530 = .ok (.iadd, 1) := by decide +kernel
theorem dL_law_531 : decode cL_law 531 = .ok (.iaload, 1) := by decide +kernel
theorem dL_law_532 : decode cL_law 532 = .ok (.aload_n 0, 1) := by decide +kernel
theorem dL_law_533 : decode cL_law 533 = .ok (.iload 4, 2) := by decide +kernel
theorem dL_law_535 : decode cL_law 535 = .ok (.iconst 2, 1) := by decide +kernel
theorem dL_law_536 : decode cL_law 536 = .ok (.iadd, 1) := by decide +kernel
theorem dL_law_537 : decode cL_law 537 = .ok (.iaload, 1) := by decide +kernel
theorem dL_law_538 : decode cL_law 538 = .ok (.invokevirtual 119, 3) := by decide +kernel
theorem dL_law_541 : decode cL_law 541 = .ok (.istore 6, 2) := by decide +kernel
theorem dL_law_543 : decode cL_law 543 = .ok (.aload_n 2, 1) := by decide +kernel
theorem dL_law_544 : decode cL_law 544 = .ok (.invokevirtual 92, 3) := by decide +kernel
theorem dL_law_547 : decode cL_law 547 = .ok (.iload 5, 2) := by decide +kernel
theorem dL_law_549 : decode cL_law 549 = .ok (.if_icmp .eq 5, 3) := by decide +kernel
theorem dL_law_552 : decode cL_law 552 = .ok (.iconst 0, 1) := by decide +kernel
theorem dL_law_553 : decode cL_law 553 = .ok (.ireturn, 1) := by decide +kernel
theorem dL_law_554 : decode cL_law 554 = .ok (.iload 5, 2) := by decide +kernel
theorem dL_law_556 : decode cL_law 556 = .ok (.ifCond .ne 22, 3) := by decide +kernel
theorem dL_law_559 : decode cL_law 559 = .ok (.aload_n 3, 1) := by decide +kernel
theorem dL_law_560 : decode cL_law 560 = .ok (.iconst 0, 1) := by decide +kernel
theorem dL_law_561 : decode cL_law 561 = .ok (.laload, 1) := by decide +kernel
theorem dL_law_562 : decode cL_law 562 = .ok (.iload 6, 2) := by decide +kernel
theorem dL_law_564 : decode cL_law 564 = .ok (.ifCond .eq 7, 3) := by decide +kernel
theorem dL_law_567 : decode cL_law 567 = .ok (.lconst 1, 1) := by decide +kernel
theorem dL_law_568 : decode cL_law 568 = .ok (.goto 4, 3) := by decide +kernel
theorem dL_law_571 : decode cL_law 571 = .ok (.lconst 0, 1) := by decide +kernel
theorem dL_law_572 : decode cL_law 572 = .ok (.lcmp, 1) := by decide +kernel
theorem dL_law_573 : decode cL_law 573 = .ok (.ifCond .eq 5, 3) := by decide +kernel
theorem dL_law_576 : decode cL_law 576 = .ok (.iconst 0, 1) := by decide +kernel
theorem dL_law_577 : decode cL_law 577 = .ok (.ireturn, 1) := by decide +kernel
theorem dL_law_578 : decode cL_law 578 = .ok (.goto 1055, 3) := by decide +kernel
theorem dL_law_581 : decode cL_law 581 = .ok (.aload_n 1, 1) := by decide +kernel
theorem dL_law_582 : decode cL_law 582 = .ok (.aload_n 0, 1) := by decide +kernel
theorem dL_law_583 : decode cL_law 583 = .ok (.iload 4, 2) := by decide +kernel
theorem dL_law_585 : decode cL_law 585 = .ok (.iconst 1, 1) := by decide +kernel
theorem dL_law_586 : decode cL_law 586 = .ok (.iadd, 1) := by decide +kernel
theorem dL_law_587 : decode cL_law 587 = .ok (.iaload, 1) := by decide +kernel
theorem dL_law_588 : decode cL_law 588 = .ok (.aload_n 3, 1) := by decide +kernel
theorem dL_law_589 : decode cL_law 589 = .ok (.invokestatic 120, 3) := by decide +kernel
theorem dL_law_592 : decode cL_law 592 = .ok (.istore 5, 2) := by decide +kernel
theorem dL_law_594 : decode cL_law 594 = .ok (.aload_n 2, 1) := by decide +kernel
theorem dL_law_595 : decode cL_law 595 = .ok (.aload_n 0, 1) := by decide +kernel
theorem dL_law_596 : decode cL_law 596 = .ok (.iload 4, 2) := by decide +kernel
theorem dL_law_598 : decode cL_law 598 = .ok (.iconst 1, 1) := by decide +kernel
theorem dL_law_599 : decode cL_law 599 = .ok (.iadd, 1) := by decide +kernel
theorem dL_law_600 : decode cL_law 600 = .ok (.iaload, 1) := by decide +kernel
theorem dL_law_601 : decode cL_law 601 = .ok (.invokevirtual 122, 3) := by decide +kernel
theorem dL_law_604 : decode cL_law 604 = .ok (.istore 6, 2) := by decide +kernel
theorem dL_law_606 : decode cL_law 606 = .ok (.aload_n 2, 1) := by decide +kernel
theorem dL_law_607 : decode cL_law 607 = .ok (.invokevirtual 92, 3) := by decide +kernel
theorem dL_law_610 : decode cL_law 610 = .ok (.iload 5, 2) := by decide +kernel
theorem dL_law_612 : decode cL_law 612 = .ok (.if_icmp .eq 5, 3) := by decide +kernel
theorem dL_law_615 : decode cL_law 615 = .ok (.iconst 0, 1) := by decide +kernel
theorem dL_law_616 : decode cL_law 616 = .ok (.ireturn, 1) := by decide +kernel
theorem dL_law_617 : decode cL_law 617 = .ok (.iload 5, 2) := by decide +kernel
theorem dL_law_619 : decode cL_law 619 = .ok (.ifCond .ne 15, 3) := by decide +kernel
theorem dL_law_622 : decode cL_law 622 = .ok (.aload_n 3, 1) := by decide +kernel
theorem dL_law_623 : decode cL_law 623 = .ok (.iconst 0, 1) := by decide +kernel
theorem dL_law_624 : decode cL_law 624 = .ok (.laload, 1) := by decide +kernel
theorem dL_law_625 : decode cL_law 625 = .ok (.iload 6, 2) := by decide +kernel
theorem dL_law_627 : decode cL_law 627 = .ok (.i2l, 1) := by decide +kernel
theorem dL_law_628 : decode cL_law 628 = .ok (.lcmp, 1) := by decide +kernel
theorem dL_law_629 : decode cL_law 629 = .ok (.ifCond .eq 5, 3) := by decide +kernel
theorem dL_law_632 : decode cL_law 632 = .ok (.iconst 0, 1) := by decide +kernel
theorem dL_law_633 : decode cL_law 633 = .ok (.ireturn, 1) := by decide +kernel
theorem dL_law_634 : decode cL_law 634 = .ok (.goto 999, 3) := by decide +kernel
theorem dL_law_637 : decode cL_law 637 = .ok (.aload_n 1, 1) := by decide +kernel
theorem dL_law_638 : decode cL_law 638 = .ok (.aload_n 0, 1) := by decide +kernel
theorem dL_law_639 : decode cL_law 639 = .ok (.iload 4, 2) := by decide +kernel
theorem dL_law_641 : decode cL_law 641 = .ok (.iconst 1, 1) := by decide +kernel
theorem dL_law_642 : decode cL_law 642 = .ok (.iadd, 1) := by decide +kernel
theorem dL_law_643 : decode cL_law 643 = .ok (.iaload, 1) := by decide +kernel
theorem dL_law_644 : decode cL_law 644 = .ok (.aload_n 3, 1) := by decide +kernel
theorem dL_law_645 : decode cL_law 645 = .ok (.invokestatic 123, 3) := by decide +kernel
theorem dL_law_648 : decode cL_law 648 = .ok (.istore 5, 2) := by decide +kernel
theorem dL_law_650 : decode cL_law 650 = .ok (.aload_n 2, 1) := by decide +kernel
theorem dL_law_651 : decode cL_law 651 = .ok (.aload_n 0, 1) := by decide +kernel
theorem dL_law_652 : decode cL_law 652 = .ok (.iload 4, 2) := by decide +kernel
theorem dL_law_654 : decode cL_law 654 = .ok (.iconst 1, 1) := by decide +kernel
theorem dL_law_655 : decode cL_law 655 = .ok (.iadd, 1) := by decide +kernel
theorem dL_law_656 : decode cL_law 656 = .ok (.iaload, 1) := by decide +kernel
theorem dL_law_657 : decode cL_law 657 = .ok (.invokevirtual 125, 3) := by decide +kernel
theorem dL_law_660 : decode cL_law 660 = .ok (.istore 6, 2) := by decide +kernel
theorem dL_law_662 : decode cL_law 662 = .ok (.aload_n 2, 1) := by decide +kernel
theorem dL_law_663 : decode cL_law 663 = .ok (.invokevirtual 92, 3) := by decide +kernel
theorem dL_law_666 : decode cL_law 666 = .ok (.iload 5, 2) := by decide +kernel
theorem dL_law_668 : decode cL_law 668 = .ok (.if_icmp .eq 5, 3) := by decide +kernel
theorem dL_law_671 : decode cL_law 671 = .ok (.iconst 0, 1) := by decide +kernel
theorem dL_law_672 : decode cL_law 672 = .ok (.ireturn, 1) := by decide +kernel
end
section
theorem dL_law_673 : decode cL_law 673 = .ok (.iload 5, 2) := by decide +kernel
theorem dL_law_675 : decode cL_law 675 = .ok (.ifCond .ne 15, 3) := by decide +kernel
theorem dL_law_678 : decode cL_law 678 = .ok (.aload_n 3, 1) := by decide +kernel
theorem dL_law_679 : decode cL_law 679 = .ok (.iconst 0, 1) := by decide +kernel
theorem dL_law_680 : decode cL_law 680 = .ok (.laload, 1) := by decide +kernel
theorem dL_law_681 : decode cL_law 681 = .ok (.iload 6, 2) := by decide +kernel
theorem dL_law_683 : decode cL_law 683 = .ok (.i2l, 1) := by decide +kernel
theorem dL_law_684 : decode cL_law 684 = .ok (.lcmp, 1) := by decide +kernel
theorem dL_law_685 : decode cL_law 685 = .ok (.ifCond .eq 5, 3) := by decide +kernel
theorem dL_law_688 : decode cL_law 688 = .ok (.iconst 0, 1) := by decide +kernel
theorem dL_law_689 : decode cL_law 689 = .ok (.ireturn, 1) := by decide +kernel
theorem dL_law_690 : decode cL_law 690 = .ok (.goto 943, 3) := by decide +kernel
theorem dL_law_693 : decode cL_law 693 = .ok (.aload_n 1, 1) := by decide +kernel
theorem dL_law_694 : decode cL_law 694 = .ok (.invokevirtual 126, 3) := by decide +kernel
theorem dL_law_697 : decode cL_law 697 = .ok (.aload_n 2, 1) := by decide +kernel
theorem dL_law_698 : decode cL_law 698 = .ok (.invokevirtual 129, 3) := by decide +kernel
theorem dL_law_701 : decode cL_law 701 = .ok (.if_icmp .eq 932, 3) := by decide +kernel
theorem dL_law_704 : decode cL_law 704 = .ok (.iconst 0, 1) := by decide +kernel
theorem dL_law_705 : decode cL_law 705 = .ok (.ireturn, 1) := by decide +kernel
theorem dL_law_706 : decode cL_law 706 = .ok (.aload_n 1, 1) := by decide +kernel
theorem dL_law_707 : decode cL_law 707 = .ok (.aload_n 0, 1) := by decide +kernel
theorem dL_law_708 : decode cL_law 708 = .ok (.iload 4, 2) := by decide +kernel
theorem dL_law_710 : decode cL_law 710 = .ok (.iconst 1, 1) := by decide +kernel
theorem dL_law_711 : decode cL_law 711 = .ok (.iadd, 1) := by decide +kernel
theorem dL_law_712 : decode cL_law 712 = .ok (.iaload, 1) := by decide +kernel
theorem dL_law_713 : decode cL_law 713 = .ok (.aload_n 3, 1) := by decide +kernel
theorem dL_law_714 : decode cL_law 714 = .ok (.invokestatic 130, 3) := by decide +kernel
theorem dL_law_717 : decode cL_law 717 = .ok (.istore 5, 2) := by decide +kernel
theorem dL_law_719 : decode cL_law 719 = .ok (.aload_n 2, 1) := by decide +kernel
theorem dL_law_720 : decode cL_law 720 = .ok (.aload_n 0, 1) := by decide +kernel
theorem dL_law_721 : decode cL_law 721 = .ok (.iload 4, 2) := by decide +kernel
theorem dL_law_723 : decode cL_law 723 = .ok (.iconst 1, 1) := by decide +kernel
theorem dL_law_724 : decode cL_law 724 = .ok (.iadd, 1) := by decide +kernel
theorem dL_law_725 : decode cL_law 725 = .ok (.iaload, 1) := by decide +kernel
theorem dL_law_726 : decode cL_law 726 = .ok (.invokevirtual 132, 3) := by decide +kernel
theorem dL_law_729 : decode cL_law 729 = .ok (.istore 6, 2) := by decide +kernel
theorem dL_law_731 : decode cL_law 731 = .ok (.aload_n 2, 1) := by decide +kernel
theorem dL_law_732 : decode cL_law 732 = .ok (.invokevirtual 92, 3) := by decide +kernel
theorem dL_law_735 : decode cL_law 735 = .ok (.iload 5, 2) := by decide +kernel
theorem dL_law_737 : decode cL_law 737 = .ok (.if_icmp .eq 5, 3) := by decide +kernel
theorem dL_law_740 : decode cL_law 740 = .ok (.iconst 0, 1) := by decide +kernel
theorem dL_law_741 : decode cL_law 741 = .ok (.ireturn, 1) := by decide +kernel
theorem dL_law_742 : decode cL_law 742 = .ok (.iload 5, 2) := by decide +kernel
theorem dL_law_744 : decode cL_law 744 = .ok (.ifCond .ne 15, 3) := by decide +kernel
theorem dL_law_747 : decode cL_law 747 = .ok (.aload_n 3, 1) := by decide +kernel
theorem dL_law_748 : decode cL_law 748 = .ok (.iconst 0, 1) := by decide +kernel
theorem dL_law_749 : decode cL_law 749 = .ok (.laload, 1) := by decide +kernel
theorem dL_law_750 : decode cL_law 750 = .ok (.iload 6, 2) := by decide +kernel
theorem dL_law_752 : decode cL_law 752 = .ok (.i2l, 1) := by decide +kernel
theorem dL_law_753 : decode cL_law 753 = .ok (.lcmp, 1) := by decide +kernel
theorem dL_law_754 : decode cL_law 754 = .ok (.ifCond .eq 5, 3) := by decide +kernel
theorem dL_law_757 : decode cL_law 757 = .ok (.iconst 0, 1) := by decide +kernel
theorem dL_law_758 : decode cL_law 758 = .ok (.ireturn, 1) := by decide +kernel
theorem dL_law_759 : decode cL_law 759 = .ok (.goto 874, 3) := by decide +kernel
theorem dL_law_762 : decode cL_law 762 = .ok (.aload_n 1, 1) := by decide +kernel
theorem dL_law_763 : decode cL_law 763 = .ok (.aload_n 0, 1) := by decide +kernel
theorem dL_law_764 : decode cL_law 764 = .ok (.iload 4, 2) := by decide +kernel
theorem dL_law_766 : decode cL_law 766 = .ok (.iconst 1, 1) := by decide +kernel
theorem dL_law_767 : decode cL_law 767 = .ok (.iadd, 1) := by decide +kernel
theorem dL_law_768 : decode cL_law 768 = .ok (.iaload, 1) := by decide +kernel
theorem dL_law_769 : decode cL_law 769 = .ok (.aload_n 0, 1) := by decide +kernel
theorem dL_law_770 : decode cL_law 770 = .ok (.iload 4, 2) := by decide +kernel
theorem dL_law_772 : decode cL_law 772 = .ok (.iconst 2, 1) := by decide +kernel
theorem dL_law_773 : decode cL_law 773 = .ok (.iadd, 1) := by decide +kernel
theorem dL_law_774 : decode cL_law 774 = .ok (.iaload, 1) := by decide +kernel
theorem dL_law_775 : decode cL_law 775 = .ok (.aload_n 3, 1) := by decide +kernel
theorem dL_law_776 : decode cL_law 776 = .ok (.invokestatic 133, 3) := by decide +kernel
theorem dL_law_779 : decode cL_law 779 = .ok (.istore 5, 2) := by decide +kernel
theorem dL_law_781 : decode cL_law 781 = .ok (.aload_n 2, 1) := by decide +kernel
theorem dL_law_782 : decode cL_law 782 = .ok (.aload_n 0, 1) := by decide +kernel
theorem dL_law_783 : decode cL_law 783 = .ok (.iload 4, 2) := by decide +kernel
theorem dL_law_785 : decode cL_law 785 = .ok (.iconst 1, 1) := by decide +kernel
theorem dL_law_786 : decode cL_law 786 = .ok (.iadd, 1) := by decide +kernel
theorem dL_law_787 : decode cL_law 787 = .ok (.iaload, 1) := by decide +kernel
theorem dL_law_788 : decode cL_law 788 = .ok (.aload_n 0, 1) := by decide +kernel
theorem dL_law_789 : decode cL_law 789 = .ok (.iload 4, 2) := by decide +kernel
theorem dL_law_791 : decode cL_law 791 = .ok (.iconst 2, 1) := by decide +kernel
theorem dL_law_792 : decode cL_law 792 = .ok (.iadd, 1) := by decide +kernel
theorem dL_law_793 : decode cL_law 793 = .ok (.iaload, 1) := by decide +kernel
theorem dL_law_794 : decode cL_law 794 = .ok (.invokevirtual 135, 3) := by decide +kernel
theorem dL_law_797 : decode cL_law 797 = .ok (.istore 6, 2) := by decide +kernel
theorem dL_law_799 : decode cL_law 799 = .ok (.aload_n 2, 1) := by decide +kernel
theorem dL_law_800 : decode cL_law 800 = .ok (.invokevirtual 92, 3) := by decide +kernel
theorem dL_law_803 : decode cL_law 803 = .ok (.iload 5, 2) := by decide +kernel
theorem dL_law_805 : decode cL_law 805 = .ok (.if_icmp .eq 5, 3) := by decide +kernel
theorem dL_law_808 : decode cL_law 808 = .ok (.iconst 0, 1) := by decide +kernel
theorem dL_law_809 : decode cL_law 809 = .ok (.ireturn, 1) := by decide +kernel
theorem dL_law_810 : decode cL_law 810 = .ok (.iload 5, 2) := by decide +kernel
theorem dL_law_812 : decode cL_law 812 = .ok (.ifCond .ne 22, 3) := by decide +kernel
theorem dL_law_815 : decode cL_law 815 = .ok (.aload_n 3, 1) := by decide +kernel
theorem dL_law_816 : decode cL_law 816 = .ok (.iconst 0, 1) := by decide +kernel
theorem dL_law_817 : decode cL_law 817 = .ok (.laload, 1) := by decide +kernel
theorem dL_law_818 : decode cL_law 818 = .ok (.iload 6, 2) := by decide +kernel
theorem dL_law_820 : decode cL_law 820 = .ok (.ifCond .eq 7, 3) := by decide +kernel
theorem dL_law_823 : decode cL_law 823 = .ok (.lconst 1, 1) := by decide +kernel
theorem dL_law_824 : decode cL_law 824 = .ok (.goto 4, 3) := by decide +kernel
theorem dL_law_827 : decode cL_law 827 = .ok (.lconst 0, 1) := by decide +kernel
theorem dL_law_828 : decode cL_law 828 = .ok (.lcmp, 1) := by decide +kernel
theorem dL_law_829 : decode cL_law 829 = .ok (.ifCond .eq 5, 3) := by decide +kernel
theorem dL_law_832 : decode cL_law 832 = .ok (.iconst 0, 1) := by decide +kernel
theorem dL_law_833 : decode cL_law 833 = .ok (.ireturn, 1) := by decide +kernel
theorem dL_law_834 : decode cL_law 834 = .ok (.goto 799, 3) := by decide +kernel
theorem dL_law_837 : decode cL_law 837 = .ok (.aload_n 1, 1) := by decide +kernel
theorem dL_law_838 : decode cL_law 838 = .ok (.invokevirtual 136, 3) := by decide +kernel
theorem dL_law_841 : decode cL_law 841 = .ok (.aload_n 2, 1) := by decide +kernel
theorem dL_law_842 : decode cL_law 842 = .ok (.invokevirtual 139, 3) := by decide +kernel
theorem dL_law_845 : decode cL_law 845 = .ok (.if_icmp .eq 788, 3) := by decide +kernel
theorem dL_law_848 : decode cL_law 848 = .ok (.iconst 0, 1) := by decide +kernel
theorem dL_law_849 : decode cL_law 849 = .ok (.ireturn, 1) := by decide +kernel
theorem dL_law_850 : decode cL_law 850 = .ok (.aload_n 1, 1) := by decide +kernel
theorem dL_law_851 : decode cL_law 851 = .ok (.aload_n 0, 1) := by decide +kernel
theorem dL_law_852 : decode cL_law 852 = .ok (.iload 4, 2) := by decide +kernel
theorem dL_law_854 : decode cL_law 854 = .ok (.iconst 1, 1) := by decide +kernel
theorem dL_law_855 : decode cL_law 855 = .ok (.iadd, 1) := by decide +kernel
theorem dL_law_856 : decode cL_law 856 = .ok (.iaload, 1) := by decide +kernel
theorem dL_law_857 : decode cL_law 857 = .ok (.aload_n 3, 1) := by decide +kernel
theorem dL_law_858 : decode cL_law 858 = .ok (.invokestatic 140, 3) := by decide +kernel
theorem dL_law_861 : decode cL_law 861 = .ok (.istore 5, 2) := by decide +kernel
theorem dL_law_863 : decode cL_law 863 = .ok (.aload_n 2, 1) := by decide +kernel
theorem dL_law_864 : decode cL_law 864 = .ok (.aload_n 0, 1) := by decide +kernel
theorem dL_law_865 : decode cL_law 865 = .ok (.iload 4, 2) := by decide +kernel
theorem dL_law_867 : decode cL_law 867 = .ok (.iconst 1, 1) := by decide +kernel
theorem dL_law_868 : decode cL_law 868 = .ok (.iadd, 1) := by decide +kernel
theorem dL_law_869 : decode cL_law 869 = .ok (.iaload, 1) := by decide +kernel
theorem dL_law_870 : decode cL_law 870 = .ok (.invokevirtual 142, 3) := by decide +kernel
theorem dL_law_873 : decode cL_law 873 = .ok (.istore 6, 2) := by decide +kernel
theorem dL_law_875 : decode cL_law 875 = .ok (.aload_n 2, 1) := by decide +kernel
theorem dL_law_876 : decode cL_law 876 = .ok (.invokevirtual 92, 3) := by decide +kernel
theorem dL_law_879 : decode cL_law 879 = .ok (.iload 5, 2) := by decide +kernel
theorem dL_law_881 : decode cL_law 881 = .ok (.if_icmp .eq 5, 3) := by decide +kernel
theorem dL_law_884 : decode cL_law 884 = .ok (.iconst 0, 1) := by decide +kernel
theorem dL_law_885 : decode cL_law 885 = .ok (.ireturn, 1) := by decide +kernel
theorem dL_law_886 : decode cL_law 886 = .ok (.iload 5, 2) := by decide +kernel
theorem dL_law_888 : decode cL_law 888 = .ok (.ifCond .ne 15, 3) := by decide +kernel
theorem dL_law_891 : decode cL_law 891 = .ok (.aload_n 3, 1) := by decide +kernel
theorem dL_law_892 : decode cL_law 892 = .ok (.iconst 0, 1) := by decide +kernel
theorem dL_law_893 : decode cL_law 893 = .ok (.laload, 1) := by decide +kernel
theorem dL_law_894 : decode cL_law 894 = .ok (.iload 6, 2) := by decide +kernel
theorem dL_law_896 : decode cL_law 896 = .ok (.i2l, 1) := by decide +kernel
theorem dL_law_897 : decode cL_law 897 = .ok (.lcmp, 1) := by decide +kernel
theorem dL_law_898 : decode cL_law 898 = .ok (.ifCond .eq 5, 3) := by decide +kernel
theorem dL_law_901 : decode cL_law 901 = .ok (.iconst 0, 1) := by decide +kernel
theorem dL_law_902 : decode cL_law 902 = .ok (.ireturn, 1) := by decide +kernel
theorem dL_law_903 : decode cL_law 903 = .ok (.goto 730, 3) := by decide +kernel
theorem dL_law_906 : decode cL_law 906 = .ok (.aload_n 1, 1) := by decide +kernel
theorem dL_law_907 : decode cL_law 907 = .ok (.aload_n 0, 1) := by decide +kernel
theorem dL_law_908 : decode cL_law 908 = .ok (.iload 4, 2) := by decide +kernel
theorem dL_law_910 : decode cL_law 910 = .ok (.iconst 1, 1) := by decide +kernel
theorem dL_law_911 : decode cL_law 911 = .ok (.iadd, 1) := by decide +kernel
theorem dL_law_912 : decode cL_law 912 = .ok (.iaload, 1) := by decide +kernel
theorem dL_law_913 : decode cL_law 913 = .ok (.aload_n 3, 1) := by decide +kernel
theorem dL_law_914 : decode cL_law 914 = .ok (.invokestatic 143, 3) := by decide +kernel
theorem dL_law_917 : decode cL_law 917 = .ok (.istore 5, 2) := by decide +kernel
theorem dL_law_919 : decode cL_law 919 = .ok (.aload_n 2, 1) := by decide +kernel
theorem dL_law_920 : decode cL_law 920 = .ok (.aload_n 0, 1) := by decide +kernel
theorem dL_law_921 : decode cL_law 921 = .ok (.iload 4, 2) := by decide +kernel
theorem dL_law_923 : decode cL_law 923 = .ok (.iconst 1, 1) := by decide +kernel
theorem dL_law_924 : decode cL_law 924 = .ok (.iadd, 1) := by decide +kernel
theorem dL_law_925 : decode cL_law 925 = .ok (.iaload, 1) := by decide +kernel
theorem dL_law_926 : decode cL_law 926 = .ok (.invokevirtual 145, 3) := by decide +kernel
theorem dL_law_929 : decode cL_law 929 = .ok (.istore 6, 2) := by decide +kernel
theorem dL_law_931 : decode cL_law 931 = .ok (.aload_n 2, 1) := by decide +kernel
theorem dL_law_932 : decode cL_law 932 = .ok (.invokevirtual 92, 3) := by decide +kernel
theorem dL_law_935 : decode cL_law 935 = .ok (.iload 5, 2) := by decide +kernel
theorem dL_law_937 : decode cL_law 937 = .ok (.if_icmp .eq 5, 3) := by decide +kernel
theorem dL_law_940 : decode cL_law 940 = .ok (.iconst 0, 1) := by decide +kernel
theorem dL_law_941 : decode cL_law 941 = .ok (.ireturn, 1) := by decide +kernel
theorem dL_law_942 : decode cL_law 942 = .ok (.iload 5, 2) := by decide +kernel
theorem dL_law_944 : decode cL_law 944 = .ok (.ifCond .ne 15, 3) := by decide +kernel
theorem dL_law_947 : decode cL_law 947 = .ok (.aload_n 3, 1) := by decide +kernel
theorem dL_law_948 : decode cL_law 948 = .ok (.iconst 0, 1) := by decide +kernel
theorem dL_law_949 : decode cL_law 949 = .ok (.laload, 1) := by decide +kernel
theorem dL_law_950 : decode cL_law 950 = .ok (.iload 6, 2) := by decide +kernel
theorem dL_law_952 : decode cL_law 952 = .ok (.i2l, 1) := by decide +kernel
theorem dL_law_953 : decode cL_law 953 = .ok (.lcmp, 1) := by decide +kernel
theorem dL_law_954 : decode cL_law 954 = .ok (.ifCond .eq 5, 3) := by decide +kernel
theorem dL_law_957 : decode cL_law 957 = .ok (.iconst 0, 1) := by decide +kernel
theorem dL_law_958 : decode cL_law 958 = .ok (.ireturn, 1) := by decide +kernel
theorem dL_law_959 : decode cL_law 959 = .ok (.goto 674, 3) := by decide +kernel
theorem dL_law_962 : decode cL_law 962 = .ok (.aload_n 1, 1) := by decide +kernel
theorem dL_law_963 : decode cL_law 963 = .ok (.aload_n 0, 1) := by decide +kernel
theorem dL_law_964 : decode cL_law 964 = .ok (.iload 4, 2) := by decide +kernel
theorem dL_law_966 : decode cL_law 966 = .ok (.iconst 1, 1) := by decide +kernel
theorem dL_law_967 : decode cL_law 967 = .ok (.iadd, 1) := by decide +kernel
theorem dL_law_968 : decode cL_law 968 = .ok (.iaload, 1) := by decide +kernel
theorem dL_law_969 : decode cL_law 969 = .ok (.aload_n 0, 1) := by decide +kernel
theorem dL_law_970 : decode cL_law 970 = .ok (.iload 4, 2) := by decide +kernel
theorem dL_law_972 : decode cL_law 972 = .ok (.iconst 2, 1) := by decide +kernel
theorem dL_law_973 : decode cL_law 973 = .ok (.iadd, 1) := by decide +kernel
theorem dL_law_974 : decode cL_law 974 = .ok (.iaload, 1) := by decide +kernel
theorem dL_law_975 : decode cL_law 975 = .ok (.aload_n 0, 1) := by decide +kernel
theorem dL_law_976 : decode cL_law 976 = .ok (.iload 4, 2) := by decide +kernel
theorem dL_law_978 : decode cL_law 978 = .ok (.iconst 3, 1) := by decide +kernel
theorem dL_law_979 : decode cL_law 979 = .ok (.iadd, 1) := by decide +kernel
theorem dL_law_980 : decode cL_law 980 = .ok (.iaload, 1) := by decide +kernel
theorem dL_law_981 : decode cL_law 981 = .ok (.aload_n 3, 1) := by decide +kernel
theorem dL_law_982 : decode cL_law 982 = .ok (.invokestatic 146, 3) := by decide +kernel
theorem dL_law_985 : decode cL_law 985 = .ok (.istore 5, 2) := by decide +kernel
theorem dL_law_987 : decode cL_law 987 = .ok (.aload_n 2, 1) := by decide +kernel
theorem dL_law_988 : decode cL_law 988 = .ok (.aload_n 0, 1) := by decide +kernel
theorem dL_law_989 : decode cL_law 989 = .ok (.iload 4, 2) := by decide +kernel
theorem dL_law_991 : decode cL_law 991 = .ok (.iconst 1, 1) := by decide +kernel
theorem dL_law_992 : decode cL_law 992 = .ok (.iadd, 1) := by decide +kernel
theorem dL_law_993 : decode cL_law 993 = .ok (.iaload, 1) := by decide +kernel
theorem dL_law_994 : decode cL_law 994 = .ok (.aload_n 0, 1) := by decide +kernel
theorem dL_law_995 : decode cL_law 995 = .ok (.iload 4, 2) := by decide +kernel
theorem dL_law_997 : decode cL_law 997 = .ok (.iconst 2, 1) := by decide +kernel
theorem dL_law_998 : decode cL_law 998 = .ok (.iadd, 1) := by decide +kernel
theorem dL_law_999 : decode cL_law 999 = .ok (.iaload, 1) := by decide +kernel
theorem dL_law_1000 : decode cL_law 1000 = .ok (.aload_n 0, 1) := by decide +kernel
theorem dL_law_1001 : decode cL_law 1001 = .ok (.iload 4, 2) := by decide +kernel
theorem dL_law_1003 : decode cL_law 1003 = .ok (.iconst 3, 1) := by decide +kernel
theorem dL_law_1004 : decode cL_law 1004 = .ok (.iadd, 1) := by decide +kernel
theorem dL_law_1005 : decode cL_law 1005 = .ok (.iaload, 1) := by decide +kernel
theorem dL_law_1006 : decode cL_law 1006 = .ok (.invokevirtual 149, 3) := by decide +kernel
theorem dL_law_1009 : decode cL_law 1009 = .ok (.istore 6, 2) := by decide +kernel
theorem dL_law_1011 : decode cL_law 1011 = .ok (.aload_n 2, 1) := by decide +kernel
theorem dL_law_1012 : decode cL_law 1012 = .ok (.invokevirtual 92, 3) := by decide +kernel
theorem dL_law_1015 : decode cL_law 1015 = .ok (.iload 5, 2) := by decide +kernel
theorem dL_law_1017 : decode cL_law 1017 = .ok (.if_icmp .eq 5, 3) := by decide +kernel
theorem dL_law_1020 : decode cL_law 1020 = .ok (.iconst 0, 1) := by decide +kernel
theorem dL_law_1021 : decode cL_law 1021 = .ok (.ireturn, 1) := by decide +kernel
theorem dL_law_1022 : decode cL_law 1022 = .ok (.iload 5, 2) := by decide +kernel
theorem dL_law_1024 : decode cL_law 1024 = .ok (.ifCond .ne 15, 3) := by decide +kernel
theorem dL_law_1027 : decode cL_law 1027 = .ok (.aload_n 3, 1) := by decide +kernel
theorem dL_law_1028 : decode cL_law 1028 = .ok (.iconst 0, 1) := by decide +kernel
theorem dL_law_1029 : decode cL_law 1029 = .ok (.laload, 1) := by decide +kernel
theorem dL_law_1030 : decode cL_law 1030 = .ok (.iload 6, 2) := by decide +kernel
theorem dL_law_1032 : decode cL_law 1032 = .ok (.i2l, 1) := by decide +kernel
theorem dL_law_1033 : decode cL_law 1033 = .ok (.lcmp, 1) := by decide +kernel
theorem dL_law_1034 : decode cL_law 1034 = .ok (.ifCond .eq 5, 3) := by decide +kernel
theorem dL_law_1037 : decode cL_law 1037 = .ok (.iconst 0, 1) := by decide +kernel
theorem dL_law_1038 : decode cL_law 1038 = .ok (.ireturn, 1) := by decide +kernel
theorem dL_law_1039 : decode cL_law 1039 = .ok (.goto 594, 3) := by decide +kernel
theorem dL_law_1042 : decode cL_law 1042 = .ok (.aload_n 1, 1) := by decide +kernel
theorem dL_law_1043 : decode cL_law 1043 = .ok (.aload_n 0, 1) := by decide +kernel
theorem dL_law_1044 : decode cL_law 1044 = .ok (.iload 4, 2) := by decide +kernel
theorem dL_law_1046 : decode cL_law 1046 = .ok (.iconst 1, 1) := by decide +kernel
theorem dL_law_1047 : decode cL_law 1047 = .ok (.iadd, 1) := by decide +kernel
theorem dL_law_1048 : decode cL_law 1048 = .ok (.iaload, 1) := by decide +kernel
theorem dL_law_1049 : decode cL_law 1049 = .ok (.aload_n 3, 1) := by decide +kernel
theorem dL_law_1050 : decode cL_law 1050 = .ok (.invokestatic 150, 3) := by decide +kernel
theorem dL_law_1053 : decode cL_law 1053 = .ok (.istore 5, 2) := by decide +kernel
theorem dL_law_1055 : decode cL_law 1055 = .ok (.aload_n 2, 1) := by decide +kernel
theorem dL_law_1056 : decode cL_law 1056 = .ok (.aload_n 0, 1) := by decide +kernel
theorem dL_law_1057 : decode cL_law 1057 = .ok (.iload 4, 2) := by decide +kernel
theorem dL_law_1059 : decode cL_law 1059 = .ok (.iconst 1, 1) := by decide +kernel
theorem dL_law_1060 : decode cL_law 1060 = .ok (.iadd, 1) := by decide +kernel
theorem dL_law_1061 : decode cL_law 1061 = .ok (.iaload, 1) := by decide +kernel
theorem dL_law_1062 : decode cL_law 1062 = .ok (.invokevirtual 152, 3) := by decide +kernel
theorem dL_law_1065 : decode cL_law 1065 = .ok (.istore 6, 2) := by decide +kernel
theorem dL_law_1067 : decode cL_law 1067 = .ok (.aload_n 2, 1) := by decide +kernel
theorem dL_law_1068 : decode cL_law 1068 = .ok (.invokevirtual 92, 3) := by decide +kernel
theorem dL_law_1071 : decode cL_law 1071 = .ok (.iload 5, 2) := by decide +kernel
theorem dL_law_1073 : decode cL_law 1073 = .ok (.if_icmp .eq 5, 3) := by decide +kernel
theorem dL_law_1076 : decode cL_law 1076 = .ok (.iconst 0, 1) := by decide +kernel
theorem dL_law_1077 : decode cL_law 1077 = .ok (.ireturn, 1) := by decide +kernel
theorem dL_law_1078 : decode cL_law 1078 = .ok (.iload 5, 2) := by decide +kernel
theorem dL_law_1080 : decode cL_law 1080 = .ok (.ifCond .ne 15, 3) := by decide +kernel
theorem dL_law_1083 : decode cL_law 1083 = .ok (.aload_n 3, 1) := by decide +kernel
theorem dL_law_1084 : decode cL_law 1084 = .ok (.iconst 0, 1) := by decide +kernel
theorem dL_law_1085 : decode cL_law 1085 = .ok (.laload, 1) := by decide +kernel
theorem dL_law_1086 : decode cL_law 1086 = .ok (.iload 6, 2) := by decide +kernel
theorem dL_law_1088 : decode cL_law 1088 = .ok (.i2l, 1) := by decide +kernel
theorem dL_law_1089 : decode cL_law 1089 = .ok (.lcmp, 1) := by decide +kernel
theorem dL_law_1090 : decode cL_law 1090 = .ok (.ifCond .eq 5, 3) := by decide +kernel
theorem dL_law_1093 : decode cL_law 1093 = .ok (.iconst 0, 1) := by decide +kernel
theorem dL_law_1094 : decode cL_law 1094 = .ok (.ireturn, 1) := by decide +kernel
theorem dL_law_1095 : decode cL_law 1095 = .ok (.goto 538, 3) := by decide +kernel
theorem dL_law_1098 : decode cL_law 1098 = .ok (.aload_n 1, 1) := by decide +kernel
theorem dL_law_1099 : decode cL_law 1099 = .ok (.aload_n 0, 1) := by decide +kernel
theorem dL_law_1100 : decode cL_law 1100 = .ok (.iload 4, 2) := by decide +kernel
theorem dL_law_1102 : decode cL_law 1102 = .ok (.iconst 1, 1) := by decide +kernel
theorem dL_law_1103 : decode cL_law 1103 = .ok (.iadd, 1) := by decide +kernel
theorem dL_law_1104 : decode cL_law 1104 = .ok (.iaload, 1) := by decide +kernel
theorem dL_law_1105 : decode cL_law 1105 = .ok (.aload_n 3, 1) := by decide +kernel
theorem dL_law_1106 : decode cL_law 1106 = .ok (.invokestatic 153, 3) := by decide +kernel
theorem dL_law_1109 : decode cL_law 1109 = .ok (.istore 5, 2) := by decide +kernel
theorem dL_law_1111 : decode cL_law 1111 = .ok (.aload_n 2, 1) := by decide +kernel
theorem dL_law_1112 : decode cL_law 1112 = .ok (.aload_n 0, 1) := by decide +kernel
theorem dL_law_1113 : decode cL_law 1113 = .ok (.iload 4, 2) := by decide +kernel
theorem dL_law_1115 : decode cL_law 1115 = .ok (.iconst 1, 1) := by decide +kernel
theorem dL_law_1116 : decode cL_law 1116 = .ok (.iadd, 1) := by decide +kernel
theorem dL_law_1117 : decode cL_law 1117 = .ok (.iaload, 1) := by decide +kernel
theorem dL_law_1118 : decode cL_law 1118 = .ok (.invokevirtual 155, 3) := by decide +kernel
theorem dL_law_1121 : decode cL_law 1121 = .ok (.istore 6, 2) := by decide +kernel
theorem dL_law_1123 : decode cL_law 1123 = .ok (.aload_n 2, 1) := by decide +kernel
theorem dL_law_1124 : decode cL_law 1124 = .ok (.invokevirtual 92, 3) := by decide +kernel
theorem dL_law_1127 : decode cL_law 1127 = .ok (.iload 5, 2) := by decide +kernel
theorem dL_law_1129 : decode cL_law 1129 = .ok (.if_icmp .eq 5, 3) := by decide +kernel
theorem dL_law_1132 : decode cL_law 1132 = .ok (.iconst 0, 1) := by decide +kernel
theorem dL_law_1133 : decode cL_law 1133 = .ok (.ireturn, 1) := by decide +kernel
theorem dL_law_1134 : decode cL_law 1134 = .ok (.iload 5, 2) := by decide +kernel
theorem dL_law_1136 : decode cL_law 1136 = .ok (.ifCond .ne 15, 3) := by decide +kernel
theorem dL_law_1139 : decode cL_law 1139 = .ok (.aload_n 3, 1) := by decide +kernel
theorem dL_law_1140 : decode cL_law 1140 = .ok (.iconst 0, 1) := by decide +kernel
theorem dL_law_1141 : decode cL_law 1141 = .ok (.laload, 1) := by decide +kernel
theorem dL_law_1142 : decode cL_law 1142 = .ok (.iload 6, 2) := by decide +kernel
theorem dL_law_1144 : decode cL_law 1144 = .ok (.i2l, 1) := by decide +kernel
theorem dL_law_1145 : decode cL_law 1145 = .ok (.lcmp, 1) := by decide +kernel
theorem dL_law_1146 : decode cL_law 1146 = .ok (.ifCond .eq 5, 3) := by decide +kernel
theorem dL_law_1149 : decode cL_law 1149 = .ok (.iconst 0, 1) := by decide +kernel
theorem dL_law_1150 : decode cL_law 1150 = .ok (.ireturn, 1) := by decide +kernel
theorem dL_law_1151 : decode cL_law 1151 = .ok (.goto 482, 3) := by decide +kernel
theorem dL_law_1154 : decode cL_law 1154 = .ok (.aload_n 1, 1) := by decide +kernel
theorem dL_law_1155 : decode cL_law 1155 = .ok (.aload_n 0, 1) := by decide +kernel
theorem dL_law_1156 : decode cL_law 1156 = .ok (.iload 4, 2) := by decide +kernel
theorem dL_law_1158 : decode cL_law 1158 = .ok (.iconst 1, 1) := by decide +kernel
theorem dL_law_1159 : decode cL_law 1159 = .ok (.iadd, 1) := by decide +kernel
theorem dL_law_1160 : decode cL_law 1160 = .ok (.iaload, 1) := by decide +kernel
theorem dL_law_1161 : decode cL_law 1161 = .ok (.aload_n 3, 1) := by decide +kernel
theorem dL_law_1162 : decode cL_law 1162 = .ok (.invokestatic 156, 3) := by decide +kernel
theorem dL_law_1165 : decode cL_law 1165 = .ok (.istore 5, 2) := by decide +kernel
theorem dL_law_1167 : decode cL_law 1167 = .ok (.aload_n 2, 1) := by decide +kernel
theorem dL_law_1168 : decode cL_law 1168 = .ok (.aload_n 0, 1) := by decide +kernel
theorem dL_law_1169 : decode cL_law 1169 = .ok (.iload 4, 2) := by decide +kernel
theorem dL_law_1171 : decode cL_law 1171 = .ok (.iconst 1, 1) := by decide +kernel
theorem dL_law_1172 : decode cL_law 1172 = .ok (.iadd, 1) := by decide +kernel
theorem dL_law_1173 : decode cL_law 1173 = .ok (.iaload, 1) := by decide +kernel
theorem dL_law_1174 : decode cL_law 1174 = .ok (.invokevirtual 158, 3) := by decide +kernel
theorem dL_law_1177 : decode cL_law 1177 = .ok (.istore 6, 2) := by decide +kernel
theorem dL_law_1179 : decode cL_law 1179 = .ok (.aload_n 2, 1) := by decide +kernel
theorem dL_law_1180 : decode cL_law 1180 = .ok (.invokevirtual 92, 3) := by decide +kernel
theorem dL_law_1183 : decode cL_law 1183 = .ok (.iload 5, 2) := by decide +kernel
theorem dL_law_1185 : decode cL_law 1185 = .ok (.if_icmp .eq 5, 3) := by decide +kernel
theorem dL_law_1188 : decode cL_law 1188 = .ok (.iconst 0, 1) := by decide +kernel
theorem dL_law_1189 : decode cL_law 1189 = .ok (.ireturn, 1) := by decide +kernel
theorem dL_law_1190 : decode cL_law 1190 = .ok (.iload 5, 2) := by decide +kernel
theorem dL_law_1192 : decode cL_law 1192 = .ok (.ifCond .ne 15, 3) := by decide +kernel
theorem dL_law_1195 : decode cL_law 1195 = .ok (.aload_n 3, 1) := by decide +kernel
theorem dL_law_1196 : decode cL_law 1196 = .ok (.iconst 0, 1) := by decide +kernel
theorem dL_law_1197 : decode cL_law 1197 = .ok (.laload, 1) := by decide +kernel
theorem dL_law_1198 : decode cL_law 1198 = .ok (.iload 6, 2) := by decide +kernel
theorem dL_law_1200 : decode cL_law 1200 = .ok (.i2l, 1) := by decide +kernel
theorem dL_law_1201 : decode cL_law 1201 = .ok (.lcmp, 1) := by decide +kernel
theorem dL_law_1202 : decode cL_law 1202 = .ok (.ifCond .eq 5, 3) := by decide +kernel
theorem dL_law_1205 : decode cL_law 1205 = .ok (.iconst 0, 1) := by decide +kernel
theorem dL_law_1206 : decode cL_law 1206 = .ok (.ireturn, 1) := by decide +kernel
theorem dL_law_1207 : decode cL_law 1207 = .ok (.goto 426, 3) := by decide +kernel
theorem dL_law_1210 : decode cL_law 1210 = .ok (.aload_n 1, 1) := by decide +kernel
theorem dL_law_1211 : decode cL_law 1211 = .ok (.aload_n 0, 1) := by decide +kernel
theorem dL_law_1212 : decode cL_law 1212 = .ok (.iload 4, 2) := by decide +kernel
theorem dL_law_1214 : decode cL_law 1214 = .ok (.iconst 1, 1) := by decide +kernel
theorem dL_law_1215 : decode cL_law 1215 = .ok (.iadd, 1) := by decide +kernel
theorem dL_law_1216 : decode cL_law 1216 = .ok (.iaload, 1) := by decide +kernel
theorem dL_law_1217 : decode cL_law 1217 = .ok (.aload_n 3, 1) := by decide +kernel
theorem dL_law_1218 : decode cL_law 1218 = .ok (.invokestatic 159, 3) := by decide +kernel
theorem dL_law_1221 : decode cL_law 1221 = .ok (.istore 5, 2) := by decide +kernel
theorem dL_law_1223 : decode cL_law 1223 = .ok (.aload_n 2, 1) := by decide +kernel
theorem dL_law_1224 : decode cL_law 1224 = .ok (.aload_n 0, 1) := by decide +kernel
theorem dL_law_1225 : decode cL_law 1225 = .ok (.iload 4, 2) := by decide +kernel
theorem dL_law_1227 : decode cL_law 1227 = .ok (.iconst 1, 1) := by decide +kernel
theorem dL_law_1228 : decode cL_law 1228 = .ok (.iadd, 1) := by decide +kernel
theorem dL_law_1229 : decode cL_law 1229 = .ok (.iaload, 1) := by decide +kernel
theorem dL_law_1230 : decode cL_law 1230 = .ok (.invokevirtual 161, 3) := by decide +kernel
theorem dL_law_1233 : decode cL_law 1233 = .ok (.istore 6, 2) := by decide +kernel
theorem dL_law_1235 : decode cL_law 1235 = .ok (.aload_n 2, 1) := by decide +kernel
theorem dL_law_1236 : decode cL_law 1236 = .ok (.invokevirtual 92, 3) := by decide +kernel
theorem dL_law_1239 : decode cL_law 1239 = .ok (.iload 5, 2) := by decide +kernel
theorem dL_law_1241 : decode cL_law 1241 = .ok (.if_icmp .eq 5, 3) := by decide +kernel
theorem dL_law_1244 : decode cL_law 1244 = .ok (.iconst 0, 1) := by decide +kernel
theorem dL_law_1245 : decode cL_law 1245 = .ok (.ireturn, 1) := by decide +kernel
theorem dL_law_1246 : decode cL_law 1246 = .ok (.iload 5, 2) := by decide +kernel
theorem dL_law_1248 : decode cL_law 1248 = .ok (.ifCond .ne 15, 3) := by decide +kernel
theorem dL_law_1251 : decode cL_law 1251 = .ok (.aload_n 3, 1) := by decide +kernel
theorem dL_law_1252 : decode cL_law 1252 = .ok (.iconst 0, 1) := by decide +kernel
theorem dL_law_1253 : decode cL_law 1253 = .ok (.laload, 1) := by decide +kernel
theorem dL_law_1254 : decode cL_law 1254 = .ok (.iload 6, 2) := by decide +kernel
theorem dL_law_1256 : decode cL_law 1256 = .ok (.i2l, 1) := by decide +kernel
theorem dL_law_1257 : decode cL_law 1257 = .ok (.lcmp, 1) := by decide +kernel
theorem dL_law_1258 : decode cL_law 1258 = .ok (.ifCond .eq 5, 3) := by decide +kernel
theorem dL_law_1261 : decode cL_law 1261 = .ok (.iconst 0, 1) := by decide +kernel
theorem dL_law_1262 : decode cL_law 1262 = .ok (.ireturn, 1) := by decide +kernel
theorem dL_law_1263 : decode cL_law 1263 = .ok (.goto 370, 3) := by decide +kernel
theorem dL_law_1266 : decode cL_law 1266 = .ok (.aload_n 1, 1) := by decide +kernel
theorem dL_law_1267 : decode cL_law 1267 = .ok (.invokevirtual 162, 3) := by decide +kernel
theorem dL_law_1270 : decode cL_law 1270 = .ok (.aload_n 2, 1) := by decide +kernel
theorem dL_law_1271 : decode cL_law 1271 = .ok (.invokevirtual 165, 3) := by decide +kernel
theorem dL_law_1274 : decode cL_law 1274 = .ok (.if_icmp .eq 359, 3) := by decide +kernel
theorem dL_law_1277 : decode cL_law 1277 = .ok (.iconst 0, 1) := by decide +kernel
theorem dL_law_1278 : decode cL_law 1278 = .ok (.ireturn, 1) := by decide +kernel
theorem dL_law_1279 : decode cL_law 1279 = .ok (.aload_n 1, 1) := by decide +kernel
theorem dL_law_1280 : decode cL_law 1280 = .ok (.invokevirtual 166, 3) := by decide +kernel
theorem dL_law_1283 : decode cL_law 1283 = .ok (.aload_n 2, 1) := by decide +kernel
theorem dL_law_1284 : decode cL_law 1284 = .ok (.invokevirtual 169, 3) := by decide +kernel
theorem dL_law_1287 : decode cL_law 1287 = .ok (.if_icmp .eq 346, 3) := by decide +kernel
theorem dL_law_1290 : decode cL_law 1290 = .ok (.iconst 0, 1) := by decide +kernel
theorem dL_law_1291 : decode cL_law 1291 = .ok (.ireturn, 1) := by decide +kernel
theorem dL_law_1292 : decode cL_law 1292 = .ok (.aload_n 1, 1) := by decide +kernel
theorem dL_law_1293 : decode cL_law 1293 = .ok (.aload_n 0, 1) := by decide +kernel
theorem dL_law_1294 : decode cL_law 1294 = .ok (.iload 4, 2) := by decide +kernel
theorem dL_law_1296 : decode cL_law 1296 = .ok (.iconst 1, 1) := by decide +kernel
theorem dL_law_1297 : decode cL_law 1297 = .ok (.iadd, 1) := by decide +kernel
theorem dL_law_1298 : decode cL_law 1298 = .ok (.iaload, 1) := by decide +kernel
theorem dL_law_1299 : decode cL_law 1299 = .ok (.aload_n 0, 1) := by decide +kernel
theorem dL_law_1300 : decode cL_law 1300 = .ok (.iload 4, 2) := by decide +kernel
theorem dL_law_1302 : decode cL_law 1302 = .ok (.iconst 2, 1) := by decide +kernel
theorem dL_law_1303 : decode cL_law 1303 = .ok (.iadd, 1) := by decide +kernel
theorem dL_law_1304 : decode cL_law 1304 = .ok (.iaload, 1) := by decide +kernel
theorem dL_law_1305 : decode cL_law 1305 = .ok (.aload_n 3, 1) := by decide +kernel
theorem dL_law_1306 : decode cL_law 1306 = .ok (.invokestatic 170, 3) := by decide +kernel
theorem dL_law_1309 : decode cL_law 1309 = .ok (.istore 5, 2) := by decide +kernel
theorem dL_law_1311 : decode cL_law 1311 = .ok (.aload_n 2, 1) := by decide +kernel
theorem dL_law_1312 : decode cL_law 1312 = .ok (.aload_n 0, 1) := by decide +kernel
theorem dL_law_1313 : decode cL_law 1313 = .ok (.iload 4, 2) := by decide +kernel
theorem dL_law_1315 : decode cL_law 1315 = .ok (.iconst 1, 1) := by decide +kernel
theorem dL_law_1316 : decode cL_law 1316 = .ok (.iadd, 1) := by decide +kernel
theorem dL_law_1317 : decode cL_law 1317 = .ok (.iaload, 1) := by decide +kernel
theorem dL_law_1318 : decode cL_law 1318 = .ok (.aload_n 0, 1) := by decide +kernel
theorem dL_law_1319 : decode cL_law 1319 = .ok (.iload 4, 2) := by decide +kernel
theorem dL_law_1321 : decode cL_law 1321 = .ok (.iconst 2, 1) := by decide +kernel
theorem dL_law_1322 : decode cL_law 1322 = .ok (.iadd, 1) := by decide +kernel
theorem dL_law_1323 : decode cL_law 1323 = .ok (.iaload, 1) := by decide +kernel
theorem dL_law_1324 : decode cL_law 1324 = .ok (.invokevirtual 172, 3) := by decide +kernel
theorem dL_law_1327 : decode cL_law 1327 = .ok (.istore 6, 2) := by decide +kernel
theorem dL_law_1329 : decode cL_law 1329 = .ok (.aload_n 2, 1) := by decide +kernel
theorem dL_law_1330 : decode cL_law 1330 = .ok (.invokevirtual 92, 3) := by decide +kernel
theorem dL_law_1333 : decode cL_law 1333 = .ok (.iload 5, 2) := by decide +kernel
theorem dL_law_1335 : decode cL_law 1335 = .ok (.if_icmp .eq 5, 3) := by decide +kernel
theorem dL_law_1338 : decode cL_law 1338 = .ok (.iconst 0, 1) := by decide +kernel
theorem dL_law_1339 : decode cL_law 1339 = .ok (.ireturn, 1) := by decide +kernel
theorem dL_law_1340 : decode cL_law 1340 = .ok (.iload 5, 2) := by decide +kernel
theorem dL_law_1342 : decode cL_law 1342 = .ok (.ifCond .ne 15, 3) := by decide +kernel
theorem dL_law_1345 : decode cL_law 1345 = .ok (.aload_n 3, 1) := by decide +kernel
theorem dL_law_1346 : decode cL_law 1346 = .ok (.iconst 0, 1) := by decide +kernel
theorem dL_law_1347 : decode cL_law 1347 = .ok (.laload, 1) := by decide +kernel
theorem dL_law_1348 : decode cL_law 1348 = .ok (.iload 6, 2) := by decide +kernel
theorem dL_law_1350 : decode cL_law 1350 = .ok (.i2l, 1) := by decide +kernel
theorem dL_law_1351 : decode cL_law 1351 = .ok (.lcmp, 1) := by decide +kernel
theorem dL_law_1352 : decode cL_law 1352 = .ok (.ifCond .eq 5, 3) := by decide +kernel
theorem dL_law_1355 : decode cL_law 1355 = .ok (.iconst 0, 1) := by decide +kernel
theorem dL_law_1356 : decode cL_law 1356 = .ok (.ireturn, 1) := by decide +kernel
theorem dL_law_1357 : decode cL_law 1357 = .ok (.goto 276, 3) := by decide +kernel
theorem dL_law_1360 : decode cL_law 1360 = .ok (.aload_n 1, 1) := by decide +kernel
theorem dL_law_1361 : decode cL_law 1361 = .ok (.invokevirtual 173, 3) := by decide +kernel
theorem dL_law_1364 : decode cL_law 1364 = .ok (.aload_n 2, 1) := by decide +kernel
theorem dL_law_1365 : decode cL_law 1365 = .ok (.invokevirtual 176, 3) := by decide +kernel
theorem dL_law_1368 : decode cL_law 1368 = .ok (.if_icmp .eq 265, 3) := by decide +kernel
theorem dL_law_1371 : decode cL_law 1371 = .ok (.iconst 0, 1) := by decide +kernel
theorem dL_law_1372 : decode cL_law 1372 = .ok (.ireturn, 1) := by decide +kernel
theorem dL_law_1373 : decode cL_law 1373 = .ok (.aload_n 1, 1) := by decide +kernel
theorem dL_law_1374 : decode cL_law 1374 = .ok (.aload_n 0, 1) := by decide +kernel
theorem dL_law_1375 : decode cL_law 1375 = .ok (.iload 4, 2) := by decide +kernel
theorem dL_law_1377 : decode cL_law 1377 = .ok (.iconst 1, 1) := by decide +kernel
theorem dL_law_1378 : decode cL_law 1378 = .ok (.iadd, 1) := by decide +kernel
theorem dL_law_1379 : decode cL_law 1379 = .ok (.iaload, 1) := by decide +kernel
theorem dL_law_1380 : decode cL_law 1380 = .ok (.aload_n 0, 1) := by decide +kernel
theorem dL_law_1381 : decode cL_law 1381 = .ok (.iload 4, 2) := by decide +kernel
theorem dL_law_1383 : decode cL_law 1383 = .ok (.iconst 2, 1) := by decide +kernel
theorem dL_law_1384 : decode cL_law 1384 = .ok (.iadd, 1) := by decide +kernel
theorem dL_law_1385 : decode cL_law 1385 = .ok (.iaload, 1) := by decide +kernel
theorem dL_law_1386 : decode cL_law 1386 = .ok (.aload_n 3, 1) := by decide +kernel
theorem dL_law_1387 : decode cL_law 1387 = .ok (.invokestatic 177, 3) := by decide +kernel
theorem dL_law_1390 : decode cL_law 1390 = .ok (.istore 5, 2) := by decide +kernel
theorem dL_law_1392 : decode cL_law 1392 = .ok (.aload_n 2, 1) := by decide +kernel
theorem dL_law_1393 : decode cL_law 1393 = .ok (.aload_n 0, 1) := by decide +kernel
theorem dL_law_1394 : decode cL_law 1394 = .ok (.iload 4, 2) := by decide +kernel
theorem dL_law_1396 : decode cL_law 1396 = .ok (.iconst 1, 1) := by decide +kernel
theorem dL_law_1397 : decode cL_law 1397 = .ok (.iadd, 1) := by decide +kernel
theorem dL_law_1398 : decode cL_law 1398 = .ok (.iaload, 1) := by decide +kernel
theorem dL_law_1399 : decode cL_law 1399 = .ok (.aload_n 0, 1) := by decide +kernel
theorem dL_law_1400 : decode cL_law 1400 = .ok (.iload 4, 2) := by decide +kernel
theorem dL_law_1402 : decode cL_law 1402 = .ok (.iconst 2, 1) := by decide +kernel
theorem dL_law_1403 : decode cL_law 1403 = .ok (.iadd, 1) := by decide +kernel
theorem dL_law_1404 : decode cL_law 1404 = .ok (.iaload, 1) := by decide +kernel
theorem dL_law_1405 : decode cL_law 1405 = .ok (.invokevirtual 179, 3) := by decide +kernel
theorem dL_law_1408 : decode cL_law 1408 = .ok (.istore 6, 2) := by decide +kernel
theorem dL_law_1410 : decode cL_law 1410 = .ok (.aload_n 2, 1) := by decide +kernel
theorem dL_law_1411 : decode cL_law 1411 = .ok (.invokevirtual 92, 3) := by decide +kernel
theorem dL_law_1414 : decode cL_law 1414 = .ok (.iload 5, 2) := by decide +kernel
theorem dL_law_1416 : decode cL_law 1416 = .ok (.if_icmp .eq 5, 3) := by decide +kernel
theorem dL_law_1419 : decode cL_law 1419 = .ok (.iconst 0, 1) := by decide +kernel
theorem dL_law_1420 : decode cL_law 1420 = .ok (.ireturn, 1) := by decide +kernel
theorem dL_law_1421 : decode cL_law 1421 = .ok (.iload 5, 2) := by decide +kernel
theorem dL_law_1423 : decode cL_law 1423 = .ok (.ifCond .ne 15, 3) := by decide +kernel
theorem dL_law_1426 : decode cL_law 1426 = .ok (.aload_n 3, 1) := by decide +kernel
theorem dL_law_1427 : decode cL_law 1427 = .ok (.iconst 0, 1) := by decide +kernel
theorem dL_law_1428 : decode cL_law 1428 = .ok (.laload, 1) := by decide +kernel
theorem dL_law_1429 : decode cL_law 1429 = .ok (.iload 6, 2) := by decide +kernel
theorem dL_law_1431 : decode cL_law 1431 = .ok (.i2l, 1) := by decide +kernel
theorem dL_law_1432 : decode cL_law 1432 = .ok (.lcmp, 1) := by decide +kernel
theorem dL_law_1433 : decode cL_law 1433 = .ok (.ifCond .eq 5, 3) := by decide +kernel
theorem dL_law_1436 : decode cL_law 1436 = .ok (.iconst 0, 1) := by decide +kernel
theorem dL_law_1437 : decode cL_law 1437 = .ok (.ireturn, 1) := by decide +kernel
theorem dL_law_1438 : decode cL_law 1438 = .ok (.goto 195, 3) := by decide +kernel
theorem dL_law_1441 : decode cL_law 1441 = .ok (.aload_n 1, 1) := by decide +kernel
theorem dL_law_1442 : decode cL_law 1442 = .ok (.aload_n 0, 1) := by decide +kernel
theorem dL_law_1443 : decode cL_law 1443 = .ok (.iload 4, 2) := by decide +kernel
theorem dL_law_1445 : decode cL_law 1445 = .ok (.iconst 1, 1) := by decide +kernel
theorem dL_law_1446 : decode cL_law 1446 = .ok (.iadd, 1) := by decide +kernel
theorem dL_law_1447 : decode cL_law 1447 = .ok (.iaload, 1) := by decide +kernel
theorem dL_law_1448 : decode cL_law 1448 = .ok (.aload_n 3, 1) := by decide +kernel
theorem dL_law_1449 : decode cL_law 1449 = .ok (.invokestatic 180, 3) := by decide +kernel
theorem dL_law_1452 : decode cL_law 1452 = .ok (.istore 5, 2) := by decide +kernel
theorem dL_law_1454 : decode cL_law 1454 = .ok (.aload_n 2, 1) := by decide +kernel
theorem dL_law_1455 : decode cL_law 1455 = .ok (.aload_n 0, 1) := by decide +kernel
theorem dL_law_1456 : decode cL_law 1456 = .ok (.iload 4, 2) := by decide +kernel
theorem dL_law_1458 : decode cL_law 1458 = .ok (.iconst 1, 1) := by decide +kernel
theorem dL_law_1459 : decode cL_law 1459 = .ok (.iadd, 1) := by decide +kernel
theorem dL_law_1460 : decode cL_law 1460 = .ok (.iaload, 1) := by decide +kernel
theorem dL_law_1461 : decode cL_law 1461 = .ok (.invokevirtual 182, 3) := by decide +kernel
theorem dL_law_1464 : decode cL_law 1464 = .ok (.istore 6, 2) := by decide +kernel
theorem dL_law_1466 : decode cL_law 1466 = .ok (.aload_n 2, 1) := by decide +kernel
theorem dL_law_1467 : decode cL_law 1467 = .ok (.invokevirtual 92, 3) := by decide +kernel
theorem dL_law_1470 : decode cL_law 1470 = .ok (.iload 5, 2) := by decide +kernel
theorem dL_law_1472 : decode cL_law 1472 = .ok (.if_icmp .eq 5, 3) := by decide +kernel
theorem dL_law_1475 : decode cL_law 1475 = .ok (.iconst 0, 1) := by decide +kernel
theorem dL_law_1476 : decode cL_law 1476 = .ok (.ireturn, 1) := by decide +kernel
theorem dL_law_1477 : decode cL_law 1477 = .ok (.iload 5, 2) := by decide +kernel
theorem dL_law_1479 : decode cL_law 1479 = .ok (.ifCond .ne 15, 3) := by decide +kernel
theorem dL_law_1482 : decode cL_law 1482 = .ok (.aload_n 3, 1) := by decide +kernel
theorem dL_law_1483 : decode cL_law 1483 = .ok (.iconst 0, 1) := by decide +kernel
theorem dL_law_1484 : decode cL_law 1484 = .ok (.laload, 1) := by decide +kernel
theorem dL_law_1485 : decode cL_law 1485 = .ok (.iload 6, 2) := by decide +kernel
theorem dL_law_1487 : decode cL_law 1487 = .ok (.i2l, 1) := by decide +kernel
theorem dL_law_1488 : decode cL_law 1488 = .ok (.lcmp, 1) := by decide +kernel
theorem dL_law_1489 : decode cL_law 1489 = .ok (.ifCond .eq 5, 3) := by decide +kernel
theorem dL_law_1492 : decode cL_law 1492 = .ok (.iconst 0, 1) := by decide +kernel
theorem dL_law_1493 : decode cL_law 1493 = .ok (.ireturn, 1) := by decide +kernel
theorem dL_law_1494 : decode cL_law 1494 = .ok (.goto 139, 3) := by decide +kernel
theorem dL_law_1497 : decode cL_law 1497 = .ok (.aload_n 1, 1) := by decide +kernel
theorem dL_law_1498 : decode cL_law 1498 = .ok (.invokevirtual 183, 3) := by decide +kernel
theorem dL_law_1501 : decode cL_law 1501 = .ok (.aload_n 2, 1) := by decide +kernel
theorem dL_law_1502 : decode cL_law 1502 = .ok (.invokevirtual 186, 3) := by decide +kernel
theorem dL_law_1505 : decode cL_law 1505 = .ok (.if_icmp .eq 128, 3) := by decide +kernel
theorem dL_law_1508 : decode cL_law 1508 = .ok (.iconst 0, 1) := by decide +kernel
theorem dL_law_1509 : decode cL_law 1509 = .ok (.ireturn, 1) := by decide +kernel
theorem dL_law_1510 : decode cL_law 1510 = .ok (.aload_n 1, 1) := by decide +kernel
theorem dL_law_1511 : decode cL_law 1511 = .ok (.aload_n 0, 1) := by decide +kernel
theorem dL_law_1512 : decode cL_law 1512 = .ok (.iload 4, 2) := by decide +kernel
theorem dL_law_1514 : decode cL_law 1514 = .ok (.iconst 1, 1) := by decide +kernel
theorem dL_law_1515 : decode cL_law 1515 = .ok (.iadd, 1) := by decide +kernel
theorem dL_law_1516 : decode cL_law 1516 = .ok (.iaload, 1) := by decide +kernel
theorem dL_law_1517 : decode cL_law 1517 = .ok (.aload_n 0, 1) := by decide +kernel
theorem dL_law_1518 : decode cL_law 1518 = .ok (.iload 4, 2) := by decide +kernel
theorem dL_law_1520 : decode cL_law 1520 = .ok (.iconst 2, 1) := by decide +kernel
theorem dL_law_1521 : decode cL_law 1521 = .ok (.iadd, 1) := by decide +kernel
theorem dL_law_1522 : decode cL_law 1522 = .ok (.iaload, 1) := by decide +kernel
theorem dL_law_1523 : decode cL_law 1523 = .ok (.aload_n 3, 1) := by decide +kernel
theorem dL_law_1524 : decode cL_law 1524 = .ok (.invokestatic 187, 3) := by decide +kernel
theorem dL_law_1527 : decode cL_law 1527 = .ok (.istore 5, 2) := by decide +kernel
theorem dL_law_1529 : decode cL_law 1529 = .ok (.aload_n 2, 1) := by decide +kernel
theorem dL_law_1530 : decode cL_law 1530 = .ok (.aload_n 0, 1) := by decide +kernel
theorem dL_law_1531 : decode cL_law 1531 = .ok (.iload 4, 2) := by decide +kernel
theorem dL_law_1533 : decode cL_law 1533 = .ok (.iconst 1, 1) := by decide +kernel
theorem dL_law_1534 : decode cL_law 1534 = .ok (.iadd, 1) := by decide +kernel
theorem dL_law_1535 : decode cL_law 1535 = .ok (.iaload, 1) := by decide +kernel
theorem dL_law_1536 : decode cL_law 1536 = .ok (.aload_n 0, 1) := by decide +kernel
theorem dL_law_1537 : decode cL_law 1537 = .ok (.iload 4, 2) := by decide +kernel
theorem dL_law_1539 : decode cL_law 1539 = .ok (.iconst 2, 1) := by decide +kernel
theorem dL_law_1540 : decode cL_law 1540 = .ok (.iadd, 1) := by decide +kernel
theorem dL_law_1541 : decode cL_law 1541 = .ok (.iaload, 1) := by decide +kernel
theorem dL_law_1542 : decode cL_law 1542 = .ok (.invokevirtual 189, 3) := by decide +kernel
theorem dL_law_1545 : decode cL_law 1545 = .ok (.istore 6, 2) := by decide +kernel
theorem dL_law_1547 : decode cL_law 1547 = .ok (.aload_n 2, 1) := by decide +kernel
theorem dL_law_1548 : decode cL_law 1548 = .ok (.invokevirtual 92, 3) := by decide +kernel
theorem dL_law_1551 : decode cL_law 1551 = .ok (.iload 5, 2) := by decide +kernel
theorem dL_law_1553 : decode cL_law 1553 = .ok (.if_icmp .eq 5, 3) := by decide +kernel
theorem dL_law_1556 : decode cL_law 1556 = .ok (.iconst 0, 1) := by decide +kernel
theorem dL_law_1557 : decode cL_law 1557 = .ok (.ireturn, 1) := by decide +kernel
theorem dL_law_1558 : decode cL_law 1558 = .ok (.iload 5, 2) := by decide +kernel
theorem dL_law_1560 : decode cL_law 1560 = .ok (.ifCond .ne 15, 3) := by decide +kernel
theorem dL_law_1563 : decode cL_law 1563 = .ok (.aload_n 3, 1) := by decide +kernel
theorem dL_law_1564 : decode cL_law 1564 = .ok (.iconst 0, 1) := by decide +kernel
theorem dL_law_1565 : decode cL_law 1565 = .ok (.laload, 1) := by decide +kernel
theorem dL_law_1566 : decode cL_law 1566 = .ok (.iload 6, 2) := by decide +kernel
theorem dL_law_1568 : decode cL_law 1568 = .ok (.i2l, 1) := by decide +kernel
theorem dL_law_1569 : decode cL_law 1569 = .ok (.lcmp, 1) := by decide +kernel
theorem dL_law_1570 : decode cL_law 1570 = .ok (.ifCond .eq 5, 3) := by decide +kernel
theorem dL_law_1573 : decode cL_law 1573 = .ok (.iconst 0, 1) := by decide +kernel
theorem dL_law_1574 : decode cL_law 1574 = .ok (.ireturn, 1) := by decide +kernel
theorem dL_law_1575 : decode cL_law 1575 = .ok (.goto 58, 3) := by decide +kernel
theorem dL_law_1578 : decode cL_law 1578 = .ok (.aload_n 1, 1) := by decide +kernel
theorem dL_law_1579 : decode cL_law 1579 = .ok (.invokevirtual 190, 3) := by decide +kernel
theorem dL_law_1582 : decode cL_law 1582 = .ok (.dstore 5, 2) := by decide +kernel
theorem dL_law_1584 : decode cL_law 1584 = .ok (.aload_n 2, 1) := by decide +kernel
theorem dL_law_1585 : decode cL_law 1585 = .ok (.invokevirtual 194, 3) := by decide +kernel
theorem dL_law_1588 : decode cL_law 1588 = .ok (.dstore 7, 2) := by decide +kernel
theorem dL_law_1590 : decode cL_law 1590 = .ok (.dload 5, 2) := by decide +kernel
theorem dL_law_1592 : decode cL_law 1592 = .ok (.dload 7, 2) := by decide +kernel
theorem dL_law_1594 : decode cL_law 1594 = .ok (.dcmp .l, 1) := by decide +kernel
theorem dL_law_1595 : decode cL_law 1595 = .ok (.ifCond .eq 21, 3) := by decide +kernel
theorem dL_law_1598 : decode cL_law 1598 = .ok (.dload 5, 2) := by decide +kernel
theorem dL_law_1600 : decode cL_law 1600 = .ok (.dload 5, 2) := by decide +kernel
theorem dL_law_1602 : decode cL_law 1602 = .ok (.dcmp .l, 1) := by decide +kernel
theorem dL_law_1603 : decode cL_law 1603 = .ok (.ifCond .eq 11, 3) := by decide +kernel
theorem dL_law_1606 : decode cL_law 1606 = .ok (.dload 7, 2) := by decide +kernel
theorem dL_law_1608 : decode cL_law 1608 = .ok (.dload 7, 2) := by decide +kernel
theorem dL_law_1610 : decode cL_law 1610 = .ok (.dcmp .l, 1) := by decide +kernel
theorem dL_law_1611 : decode cL_law 1611 = .ok (.ifCond .ne 5, 3) := by decide +kernel
theorem dL_law_1614 : decode cL_law 1614 = .ok (.iconst 0, 1) := by decide +kernel
theorem dL_law_1615 : decode cL_law 1615 = .ok (.ireturn, 1) := by decide +kernel
theorem dL_law_1616 : decode cL_law 1616 = .ok (.goto 17, 3) := by decide +kernel
theorem dL_law_1619 : decode cL_law 1619 = .ok (.aload_n 1, 1) := by decide +kernel
theorem dL_law_1620 : decode cL_law 1620 = .ok (.invokevirtual 195, 3) := by decide +kernel
theorem dL_law_1623 : decode cL_law 1623 = .ok (.aload_n 2, 1) := by decide +kernel
theorem dL_law_1624 : decode cL_law 1624 = .ok (.invokevirtual 199, 3) := by decide +kernel
theorem dL_law_1627 : decode cL_law 1627 = .ok (.lcmp, 1) := by decide +kernel
theorem dL_law_1628 : decode cL_law 1628 = .ok (.ifCond .eq 5, 3) := by decide +kernel
theorem dL_law_1631 : decode cL_law 1631 = .ok (.iconst 0, 1) := by decide +kernel
theorem dL_law_1632 : decode cL_law 1632 = .ok (.ireturn, 1) := by decide +kernel
theorem dL_law_1633 : decode cL_law 1633 = .ok (.iinc 4 4, 3) := by decide +kernel
theorem dL_law_1636 : decode cL_law 1636 = .ok (.goto (-1613), 3) := by decide +kernel
theorem dL_law_1639 : decode cL_law 1639 = .ok (.iconst 1, 1) := by decide +kernel
theorem dL_law_1640 : decode cL_law 1640 = .ok (.ireturn, 1) := by decide +kernel
abbrev vwCl : List vw_C := [(RX0, TX0, 8), (RX1, TX1, 8), (RX2, TX2, 5), (RX3, TX3, 15)]
end
section
/-! rows of this claim's own: reads (the heap stays), the nest link, loops, array rows by a number -/
/-- the one link to a private member of a nest mate that is called again and again -/
abbrev kcNest : Cond := .methodLinkNest RX1 57 yX2_contains "KeyCabinet"
def kcK (D : va_G) (tys : List (ClassId × FieldType)) (U : State) : Prop := va_K D vwCl tys U ∧ va_Nw kcNest U
theorem kcK.warm {D : va_G} {tys : List (ClassId × FieldType)} {s U : State} (h : kcK D tys s) (hW : s.WarmedH U.vm) : kcK D tys U := ⟨va_K.moved hW.alike h.1, va_Nw.warmM hW h.2⟩
theorem kcK.call {D : va_G} {tys : List (ClassId × FieldType)} {U : State} (h : kcK D tys U) (g : JFrame) (mk : MethodId) (a : Array Value) : kcK D tys (U.calling g mk a) := ⟨va_K.moved (u := U) (U := U.calling g mk a) (Vm.Alike.refl U.vm) h.1, va_Nw.same rfl (u := U) (U := U.calling g mk a) rfl h.2⟩
theorem kcK.sub {D : va_G} {tys tys' : List (ClassId × FieldType)} {U : State} (h : kcK D tys U) (is : List Nat) (hs : is.filterMap (fun i => tys[i]?) = tys') : kcK D tys' U := ⟨h.1.sub is hs, h.2⟩
/-- a boolean answer -/
def bI (b : Bool) : Int32 := if b = true then 1 else 0
theorem bI_nar (b : Bool) : narrow .boolean (.int (bI b)) = .int (bI b) := by cases b <;> rfl
theorem bI_0 {b : Bool} : bI b = 0 ↔ ¬ b = true := by cases b <;> simp [bI]
theorem bI_t {b : Bool} (h : b = true) : bI b = 1 := by rw [h]; rfl
theorem bI_f {b : Bool} (h : ¬ b = true) : bI b = 0 := by cases b; rfl; exact absurd rfl h
theorem kc_inc (j : Nat) : nI j + Int32.ofInt 1 = nI (j + 1) := nI_1 j
/-- a counted fold -/
def fo {α : Type} (f : Nat → α → α) (a : α) : Nat → α
  | 0 => a
  | n + 1 => f n (fo f a n)
theorem fo_s {α : Type} (f : Nat → α → α) (a : α) (n : Nat) : fo f a (n + 1) = f n (fo f a n) := rfl
theorem fo_0 {α : Type} (f : Nat → α → α) (a : α) : fo f a 0 = a := rfl
/-- a loop that counts up, its state in the locals alone -/
theorem kc_for {N : Nat} {P : Nat → Array Slot → Prop} {g : Array Slot → Prop} (hs : ∀ (j : Nat) (ls : Array Slot), j ≤ N → P j ls → (∀ ls', j < N → P (j + 1) ls' → g ls') → g ls) (ls : Array Slot) (h : P 0 ls) : g ls := by
  have key : ∀ (n j : Nat) (ls : Array Slot), j + n = N → P j ls → g ls := by
    intro n
    induction n with
    | zero => intro j ls hj h; exact hs j ls (by omega) h (fun _ h1 _ => absurd h1 (by omega))
    | succ n ih => intro j ls hj h; exact hs j ls (by omega) h (fun ls' _ h' => ih (j + 1) ls' (by omega) h')
  exact key N 0 ls (by omega) h
/-- a loop that counts up, its state in the heap too -/
theorem kc_forH {N : Nat} {P : Nat → Heap → List Loc → Array Slot → Prop} {g : Heap → List Loc → Array Slot → Prop} (hs : ∀ (j : Nat) (H : Heap) (locs : List Loc) (ls : Array Slot), j ≤ N → P j H locs ls → (∀ H' locs' ls', j < N → P (j + 1) H' locs' ls' → g H' locs' ls') → g H locs ls) (H : Heap) (locs : List Loc) (ls : Array Slot) (h : P 0 H locs ls) : g H locs ls := by
  have key : ∀ (n j : Nat) (H : Heap) (locs : List Loc) (ls : Array Slot), j + n = N → P j H locs ls → g H locs ls := by
    intro n
    induction n with
    | zero => intro j H locs ls hj h; exact hs j H locs ls (by omega) h (fun _ _ _ h1 _ => absurd h1 (by omega))
    | succ n ih => intro j H locs ls hj h; exact hs j H locs ls (by omega) h (fun H' locs' ls' _ h' => ih (j + 1) H' locs' ls' (by omega) h')
  exact key N 0 H locs ls (by omega) h
section KC
variable {p : Program} {l : Launch} {e : Env} {R : Room} {s : State} {m : MethodId} {args : Array Value} {below : List Frame} {meth : Method} {c : Code} {H : Heap} {locs : List Loc} {cells slots : Nat} {Q : State → Prop}
variable {cc : ByteArray} {pc : Nat} {ls : Array Slot} {rest st0 : List Value} {D : va_G} {tys tyc : List (ClassId × FieldType)} {ws wc : va_W} {A0 : Nat → Prop} {H0 : Heap}
theorem kc_top {x y : Int32} (h : x = y) (k : W p l e R s m args below meth c H locs cells slots Q (F0 m pc ls (.int y :: rest))) : W p l e R s m args below meth c H locs cells slots Q (F0 m pc ls (.int x :: rest)) := by
  rw [h]; exact k
theorem kc_topl {x y : Int64} (h : x = y) (k : W p l e R s m args below meth c H locs cells slots Q (F0 m pc ls (.long y :: rest))) : W p l e R s m args below meth c H locs cells slots Q (F0 m pc ls (.long x :: rest)) := by
  rw [h]; exact k
theorem kc_ald (hexec : p.tables.exec = Jvm.exec) (hb : c.code = cc) (hK : kcK D tys s) (hP : va_P D vwCl ws H) (q0 t0 : Nat) {a : Nat} {cA : ClassId} {n : Nat} {f : Nat → Int32} (ha : ws[q0]? = some (a, .inl (cA, n, .inl f))) (ht : tys[t0]? = some (cA, .int)) {i : Nat} (hi : i < n) (hn : n < 2 ^ 31) (hdg : decode cc pc = .ok (.iaload, 1))
    (kk : W p l e R s m args below meth c H locs cells slots Q (F0 m (pc + 1) ls (.int (f i) :: rest))) : W p l e R s m args below meth c H locs cells slots Q (F0 m pc ls (.int (nI i) :: .ref a :: rest)) := by
  refine va_iald hexec hb hK.1 hP q0 t0 ha ht (vp_in_nI hi hn) hdg ?_
  rw [nI_clamp (by omega)]
  exact kk
theorem kc_ast {A : Nat → Prop} (hexec : p.tables.exec = Jvm.exec) (hb : c.code = cc) (hK : kcK D tys s) (hP : va_P D vwCl ws H) (hD : va_D A ws) (hS : va_S A H0 H locs) (q0 t0 : Nat) {a : Nat} {cA : ClassId} {n : Nat} {f : Nat → Int32} (ha : ws[q0]? = some (a, .inl (cA, n, .inl f))) (ht : tys[t0]? = some (cA, .int)) {i : Nat} {x : Int32} (hi : i < n) (hn : n < 2 ^ 31) (hdg : decode cc pc = .ok (.iastore, 1))
    (kk : ∀ (H : Heap) (locs : List Loc), va_P D vwCl (ws.set q0 (a, .inl (cA, n, .inl (upd f i x)))) H → va_D A (ws.set q0 (a, .inl (cA, n, .inl (upd f i x)))) → va_S A H0 H locs → W p l e R s m args below meth c H locs cells slots Q (F0 m (pc + 1) ls rest)) : W p l e R s m args below meth c H locs cells slots Q (F0 m pc ls (.int x :: .int (nI i) :: .ref a :: rest)) := by
  refine va_iast hexec hb hK.1 hP hD hS q0 t0 ha ht (vp_in_nI hi hn) hdg ?_
  rw [nI_clamp (by omega)]
  exact kk
theorem kc_ifeqB (hexec : p.tables.exec = Jvm.exec) (hb : c.code = cc) {b : Bool} {off : Int} {tgt : Nat} (hdg : decode cc pc = .ok (.ifCond .eq off, 3)) (ht : (pc : Int) + off = (tgt : Int))
    (kt : ¬ b = true → W p l e R s m args below meth c H locs cells slots Q (F0 m tgt ls rest)) (kf : b = true → W p l e R s m args below meth c H locs cells slots Q (F0 m (pc + 3) ls rest)) : W p l e R s m args below meth c H locs cells slots Q (F0 m pc ls (.int (bI b) :: rest)) :=
  lv_if_eq hexec hb hdg ht (fun h => kt (bI_0.mp h)) (fun h => kf (by cases b; exact absurd rfl h; rfl))
theorem kc_ifneB (hexec : p.tables.exec = Jvm.exec) (hb : c.code = cc) {b : Bool} {off : Int} {tgt : Nat} (hdg : decode cc pc = .ok (.ifCond .ne off, 3)) (ht : (pc : Int) + off = (tgt : Int))
    (kt : b = true → W p l e R s m args below meth c H locs cells slots Q (F0 m tgt ls rest)) (kf : ¬ b = true → W p l e R s m args below meth c H locs cells slots Q (F0 m (pc + 3) ls rest)) : W p l e R s m args below meth c H locs cells slots Q (F0 m pc ls (.int (bI b) :: rest)) :=
  lv_if_ne hexec hb hdg ht (fun h => kt (by cases b; exact absurd rfl h; rfl)) (fun h => kf (bI_0.mp h))
/-- the test of a counted loop: on while j < N -/
theorem kc_tst (hexec : p.tables.exec = Jvm.exec) (hb : c.code = cc) {j N : Nat} {off : Int} {tgt : Nat} (hdg : decode cc pc = .ok (.if_icmp .ge off, 3)) (ht : (pc : Int) + off = (tgt : Int)) (hj : j ≤ N) (hN : N < 2 ^ 31)
    (kt : j = N → W p l e R s m args below meth c H locs cells slots Q (F0 m tgt ls rest)) (kf : j < N → W p l e R s m args below meth c H locs cells slots Q (F0 m (pc + 3) ls rest)) : W p l e R s m args below meth c H locs cells slots Q (F0 m pc ls (.int (nI N) :: .int (nI j) :: rest)) :=
  lv_icmp_ge hexec hb hdg ht (fun h => kt (by have := (nI_leI (by omega) (by omega)).mp h; omega)) (fun h => kf (by
    rcases Nat.lt_or_ge j N with q | q
    · exact q
    · exact absurd (nI_le q (by omega)) h))
/-- a call of a reading method: the heap stays, the answer is a known int -/
theorem kc_run_i {mc ms : Nat} {post : Int32 → Prop} {a : Array Value} (hr : va_Run p l e R s m args below meth c H locs cells slots 0 0 (F0 m pc ls st0) rest (vp_Si post a) (fun _ => False)) (k : ∀ r, post r → W p l e R s m args below meth c H locs cells slots Q (F0 m (pc + 3) ls (.int r :: rest))) : W p l e R s m args below meth c H locs cells slots Q (F0 m pc ls st0) := by
  intro T hT X
  obtain ⟨v, st₀, t, T', L, h0, X', hL, e1, e2, ⟨r, hv, hp, hh⟩, st⟩ := hr T hT X
  cases hv
  have hL0 : L = [] := by
    cases L with
    | nil => rfl
    | cons q L => exact absurd (hL q List.mem_cons_self) (fun h => h)
  subst hL0
  rw [List.append_nil] at X'
  obtain ⟨t2, a1, b1⟩ := k r hp T' (by rw [e1, hh, h0]) X'
  exact ⟨t2, st t2 a1, b1⟩
theorem kc_run_l {post : Int64 → Prop} {a : Array Value} (hr : va_Run p l e R s m args below meth c H locs cells slots 0 0 (F0 m pc ls st0) rest (vp_Sl post a) (fun _ => False)) (k : ∀ r, post r → W p l e R s m args below meth c H locs cells slots Q (F0 m (pc + 3) ls (.long r :: rest))) : W p l e R s m args below meth c H locs cells slots Q (F0 m pc ls st0) := by
  intro T hT X
  obtain ⟨v, st₀, t, T', L, h0, X', hL, e1, e2, ⟨r, hv, hp, hh⟩, st⟩ := hr T hT X
  cases hv
  have hL0 : L = [] := by
    cases L with
    | nil => rfl
    | cons q L => exact absurd (hL q List.mem_cons_self) (fun h => h)
  subst hL0
  rw [List.append_nil] at X'
  obtain ⟨t2, a1, b1⟩ := k r hp T' (by rw [e1, hh, h0]) X'
  exact ⟨t2, st t2 a1, b1⟩
theorem kc_run_d {post : UInt64 → Prop} {a : Array Value} (hr : va_Run p l e R s m args below meth c H locs cells slots 0 0 (F0 m pc ls st0) rest (vp_Sd post a) (fun _ => False)) (k : ∀ r, post r → W p l e R s m args below meth c H locs cells slots Q (F0 m (pc + 3) ls (.double r :: rest))) : W p l e R s m args below meth c H locs cells slots Q (F0 m pc ls st0) := by
  intro T hT X
  obtain ⟨v, st₀, t, T', L, h0, X', hL, e1, e2, ⟨r, hv, hp, hh⟩, st⟩ := hr T hT X
  cases hv
  have hL0 : L = [] := by
    cases L with
    | nil => rfl
    | cons q L => exact absurd (hL q List.mem_cons_self) (fun h => h)
  subst hL0
  rw [List.append_nil] at X'
  obtain ⟨t2, a1, b1⟩ := k r hp T' (by rw [e1, hh, h0]) X'
  exact ⟨t2, st t2 a1, b1⟩
/-- what a reading method starts with -/
abbrev rdP (av : List Value) (D : va_G) (wc : va_W) (tyc : List (ClassId × FieldType)) : Array Value → State → Prop := va_Pc av (fun U => va_P D vwCl wc U.heap ∧ kcK D tyc U)
theorem rdP_blind (av : List Value) (D : va_G) (wc : va_W) (tyc : List (ClassId × FieldType)) : FrameBlind (rdP av D wc tyc) := fun a U g mk q => ⟨q.1, q.2.1, q.2.2.call g mk a⟩
theorem rdP_use {av : List Value} {is it : List Nat} (hK : kcK D tys s) (hP : va_P D vwCl ws H) (hs : is.filterMap (fun i => ws[i]?) = wc) (ht : it.filterMap (fun i => tys[i]?) = tyc) : ∀ U : State, U.heap = H → s.WarmedH U.vm → rdP av D wc tyc av.toArray U :=
  fun U hU hW => ⟨rfl, by rw [hU]; exact hP.sub is hs, (hK.sub it ht).warm hW⟩
variable {y : MethodName} {bytes : ByteArray} {maxL nL n index : Nat} {ret : Option FieldType} {wsy Ts : List Cond} {rm : Room} {own C host : String} {b : Addr} {As : List Value}
/-- an instance method that reads and answers an int -/
theorem kc_rVi {v : Int32} (S : CallFix p m c cc nL s args Ts own) (hM : Met l y wsy rm (rdP (.ref b :: As) D wc tyc) (vp_Si (fun r => r = v)) 0 0 (fun _ => False)) (cw : CallW R s args own C index y bytes maxL ret wsy rm 0 0 n) (hK : kcK D tys s) (hP : va_P D vwCl ws H) (is it : List Nat) (hs : is.filterMap (fun i => ws[i]?) = wc) (ht : it.filterMap (fun i => tys[i]?) = tyc)
    (q0 : Nat) {ci : Nat} {fs : List Value} {q : vw_C} (hq : vwCl[ci]? = some q) (he : ws[q0]? = some (b, .inr (ci, fs))) (hC : q.1 = C) (hn : As.length = n) (hsize : ls.size = nL) (hst : st0 = As.reverse ++ .ref b :: rest) (hW : (rest.map fun v => v.category).sum ≤ 8) (hdg : decode cc pc = .ok (.invokevirtual index, 3)) (hf : cells ≤ R.cells ∧ slots ≤ R.slots)
    (k : W p l e R s m args below meth c H locs cells slots Q (F0 m (pc + 3) ls (.int v :: rest))) : W p l e R s m args below meth c H locs cells slots Q (F0 m pc ls st0) :=
  kc_run_i (mc := 0) (ms := 0) (va_runV S hM cw ⟨rdP_blind _ _ _ _, hC ▸ va_recv hK.1 hP hq he, rdP_use hK hP hs ht⟩ rfl hn hsize hst (lv_room (rest := st0) (pc := pc) (ls := ls) (m := m) hW) hdg hf) (fun r hr => by rw [hr]; exact k)
theorem kc_rVl {v : Int64} (S : CallFix p m c cc nL s args Ts own) (hM : Met l y wsy rm (rdP (.ref b :: As) D wc tyc) (vp_Sl (fun r => r = v)) 0 0 (fun _ => False)) (cw : CallW R s args own C index y bytes maxL ret wsy rm 0 0 n) (hK : kcK D tys s) (hP : va_P D vwCl ws H) (is it : List Nat) (hs : is.filterMap (fun i => ws[i]?) = wc) (ht : it.filterMap (fun i => tys[i]?) = tyc)
    (q0 : Nat) {ci : Nat} {fs : List Value} {q : vw_C} (hq : vwCl[ci]? = some q) (he : ws[q0]? = some (b, .inr (ci, fs))) (hC : q.1 = C) (hn : As.length = n) (hsize : ls.size = nL) (hst : st0 = As.reverse ++ .ref b :: rest) (hW : (rest.map fun v => v.category).sum ≤ 8) (hdg : decode cc pc = .ok (.invokevirtual index, 3)) (hf : cells ≤ R.cells ∧ slots ≤ R.slots)
    (k : W p l e R s m args below meth c H locs cells slots Q (F0 m (pc + 3) ls (.long v :: rest))) : W p l e R s m args below meth c H locs cells slots Q (F0 m pc ls st0) :=
  kc_run_l (va_runV S hM cw ⟨rdP_blind _ _ _ _, hC ▸ va_recv hK.1 hP hq he, rdP_use hK hP hs ht⟩ rfl hn hsize hst (lv_room (rest := st0) (pc := pc) (ls := ls) (m := m) hW) hdg hf) (fun r hr => by rw [hr]; exact k)
theorem kc_rVd {v : UInt64} (S : CallFix p m c cc nL s args Ts own) (hM : Met l y wsy rm (rdP (.ref b :: As) D wc tyc) (vp_Sd (fun r => r = v)) 0 0 (fun _ => False)) (cw : CallW R s args own C index y bytes maxL ret wsy rm 0 0 n) (hK : kcK D tys s) (hP : va_P D vwCl ws H) (is it : List Nat) (hs : is.filterMap (fun i => ws[i]?) = wc) (ht : it.filterMap (fun i => tys[i]?) = tyc)
    (q0 : Nat) {ci : Nat} {fs : List Value} {q : vw_C} (hq : vwCl[ci]? = some q) (he : ws[q0]? = some (b, .inr (ci, fs))) (hC : q.1 = C) (hn : As.length = n) (hsize : ls.size = nL) (hst : st0 = As.reverse ++ .ref b :: rest) (hW : (rest.map fun v => v.category).sum ≤ 8) (hdg : decode cc pc = .ok (.invokevirtual index, 3)) (hf : cells ≤ R.cells ∧ slots ≤ R.slots)
    (k : W p l e R s m args below meth c H locs cells slots Q (F0 m (pc + 3) ls (.double v :: rest))) : W p l e R s m args below meth c H locs cells slots Q (F0 m pc ls st0) :=
  kc_run_d (va_runV S hM cw ⟨rdP_blind _ _ _ _, hC ▸ va_recv hK.1 hP hq he, rdP_use hK hP hs ht⟩ rfl hn hsize hst (lv_room (rest := st0) (pc := pc) (ls := ls) (m := m) hW) hdg hf) (fun r hr => by rw [hr]; exact k)
/-- a static method that reads nothing -/
abbrev stP (av : List Value) : Array Value → State → Prop := va_Pc av (fun _ => True)
theorem stP_blind (av : List Value) : FrameBlind (stP av) := fun _ _ _ _ q => ⟨q.1, trivial⟩
theorem kc_rSi {v : Int32} (S : CallFix p m c cc nL s args Ts own) (hM : Met l y wsy rm (stP As) (vp_Si (fun r => r = v)) 0 0 (fun _ => False)) (cw : CallB R s args own index y bytes maxL ret wsy rm 0 0 n ∧ (Cond.static y).before args s = true)
    (hn : As.length = n) (hsize : ls.size = nL) (hst : st0 = As.reverse ++ rest) (hW : (rest.map fun v => v.category).sum ≤ 8) (hdg : decode cc pc = .ok (.invokestatic index, 3)) (hf : cells ≤ R.cells ∧ slots ≤ R.slots)
    (k : W p l e R s m args below meth c H locs cells slots Q (F0 m (pc + 3) ls (.int v :: rest))) : W p l e R s m args below meth c H locs cells slots Q (F0 m pc ls st0) :=
  kc_run_i (mc := 0) (ms := 0) (va_runS S hM cw ⟨stP_blind _, fun _ _ _ => ⟨rfl, trivial⟩⟩ rfl hn hsize hst (lv_room (rest := st0) (pc := pc) (ls := ls) (m := m) hW) hdg hf) (fun r hr => by rw [hr]; exact k)
theorem kc_rSl {v : Int64} (S : CallFix p m c cc nL s args Ts own) (hM : Met l y wsy rm (stP As) (vp_Sl (fun r => r = v)) 0 0 (fun _ => False)) (cw : CallB R s args own index y bytes maxL ret wsy rm 0 0 n ∧ (Cond.static y).before args s = true)
    (hn : As.length = n) (hsize : ls.size = nL) (hst : st0 = As.reverse ++ rest) (hW : (rest.map fun v => v.category).sum ≤ 8) (hdg : decode cc pc = .ok (.invokestatic index, 3)) (hf : cells ≤ R.cells ∧ slots ≤ R.slots)
    (k : W p l e R s m args below meth c H locs cells slots Q (F0 m (pc + 3) ls (.long v :: rest))) : W p l e R s m args below meth c H locs cells slots Q (F0 m pc ls st0) :=
  kc_run_l (va_runS S hM cw ⟨stP_blind _, fun _ _ _ => ⟨rfl, trivial⟩⟩ rfl hn hsize hst (lv_room (rest := st0) (pc := pc) (ls := ls) (m := m) hW) hdg hf) (fun r hr => by rw [hr]; exact k)
/-- .. of a nest mate -/
theorem kc_rNi {v : Int32} (S : CallFix p m c cc nL s args Ts own) (hM : Met l y wsy rm (stP As) (vp_Si (fun r => r = v)) 0 0 (fun _ => False)) (cw : va_CN R s args own index y host bytes maxL ret wsy rm 0 0 n) (hst' : (Cond.static y).before args s = true)
    (hn : As.length = n) (hsize : ls.size = nL) (hst : st0 = As.reverse ++ rest) (hW : (rest.map fun v => v.category).sum ≤ 8) (hdg : decode cc pc = .ok (.invokestatic index, 3)) (hf : cells ≤ R.cells ∧ slots ≤ R.slots)
    (k : W p l e R s m args below meth c H locs cells slots Q (F0 m (pc + 3) ls (.int v :: rest))) : W p l e R s m args below meth c H locs cells slots Q (F0 m pc ls st0) :=
  kc_run_i (mc := 0) (ms := 0) (va_runSN S hM ⟨cw, hst', trivial⟩ ⟨stP_blind _, fun _ _ _ => ⟨rfl, trivial⟩⟩ rfl hn hsize hst (lv_room (rest := st0) (pc := pc) (ls := ls) (m := m) hW) hdg hf) (fun r hr => by rw [hr]; exact k)
end KC
end
