section
-- ===== PART A: goes FIRST, ahead of the names: the tables' words, and 'selects' of the private methods out of them =====
/-- a private method of a class that the tables say can be made, by its rows of tables_1 -/
def lw_okq (q : MethodName × Nat) : Prop := (q.1.cls ≠ "java/lang/invoke/MethodHandle" ∧ q.1.cls ≠ "java/lang/invoke/VarHandle") ∧ Cond.instantiable q.1.cls q.2 ∈ tables_1 ∧ Cond.privateMethod q.1 ∈ tables_1 ∧ Cond.instanceMethod q.1 ∈ tables_1
theorem lw_p0 : lw_okq (⟨"StockDesk$House", "clearThings", "()V"⟩, 16) := ⟨⟨by decide +kernel, by decide +kernel⟩, List.mem_of_getElem? (i := 44) (by decide +kernel), List.mem_of_getElem? (i := 54) (by decide +kernel), List.mem_of_getElem? (i := 55) (by decide +kernel)⟩
theorem lw_p1 : lw_okq (⟨"StockDesk$House", "clearParts", "()V"⟩, 16) := ⟨⟨by decide +kernel, by decide +kernel⟩, List.mem_of_getElem? (i := 44) (by decide +kernel), List.mem_of_getElem? (i := 58) (by decide +kernel), List.mem_of_getElem? (i := 59) (by decide +kernel)⟩
theorem lw_p2 : lw_okq (⟨"java/lang/Throwable", "fillInStackTrace", "(I)Ljava/lang/Throwable;"⟩, 6) := ⟨⟨by decide +kernel, by decide +kernel⟩, List.mem_of_getElem? (i := 211) (by decide +kernel), List.mem_of_getElem? (i := 209) (by decide +kernel), List.mem_of_getElem? (i := 210) (by decide +kernel)⟩
theorem lw_p3 : lw_okq (⟨"StockDesk", "requireRoomForAct", "()V"⟩, 3) := ⟨⟨by decide +kernel, by decide +kernel⟩, List.mem_of_getElem? (i := 13) (by decide +kernel), List.mem_of_getElem? (i := 261) (by decide +kernel), List.mem_of_getElem? (i := 262) (by decide +kernel)⟩
theorem lw_p4 : lw_okq (⟨"StockDesk", "doAndKeep", "(IIII)J"⟩, 3) := ⟨⟨by decide +kernel, by decide +kernel⟩, List.mem_of_getElem? (i := 13) (by decide +kernel), List.mem_of_getElem? (i := 266) (by decide +kernel), List.mem_of_getElem? (i := 267) (by decide +kernel)⟩
theorem lw_p5 : lw_okq (⟨"StockDesk$House", "addThing", "(I)I"⟩, 16) := ⟨⟨by decide +kernel, by decide +kernel⟩, List.mem_of_getElem? (i := 44) (by decide +kernel), List.mem_of_getElem? (i := 278) (by decide +kernel), List.mem_of_getElem? (i := 279) (by decide +kernel)⟩
theorem lw_p6 : lw_okq (⟨"StockDesk$House", "removeThing", "(II)I"⟩, 16) := ⟨⟨by decide +kernel, by decide +kernel⟩, List.mem_of_getElem? (i := 44) (by decide +kernel), List.mem_of_getElem? (i := 282) (by decide +kernel), List.mem_of_getElem? (i := 283) (by decide +kernel)⟩
theorem lw_p7 : lw_okq (⟨"StockDesk$House", "setKind", "(II)I"⟩, 16) := ⟨⟨by decide +kernel, by decide +kernel⟩, List.mem_of_getElem? (i := 44) (by decide +kernel), List.mem_of_getElem? (i := 286) (by decide +kernel), List.mem_of_getElem? (i := 287) (by decide +kernel)⟩
theorem lw_p8 : lw_okq (⟨"StockDesk$House", "setAnswer", "(III)I"⟩, 16) := ⟨⟨by decide +kernel, by decide +kernel⟩, List.mem_of_getElem? (i := 44) (by decide +kernel), List.mem_of_getElem? (i := 290) (by decide +kernel), List.mem_of_getElem? (i := 291) (by decide +kernel)⟩
theorem lw_p9 : lw_okq (⟨"StockDesk$House", "setWay", "(II)I"⟩, 16) := ⟨⟨by decide +kernel, by decide +kernel⟩, List.mem_of_getElem? (i := 44) (by decide +kernel), List.mem_of_getElem? (i := 294) (by decide +kernel), List.mem_of_getElem? (i := 295) (by decide +kernel)⟩
theorem lw_p10 : lw_okq (⟨"StockDesk$House", "answerCall", "(III)J"⟩, 16) := ⟨⟨by decide +kernel, by decide +kernel⟩, List.mem_of_getElem? (i := 44) (by decide +kernel), List.mem_of_getElem? (i := 298) (by decide +kernel), List.mem_of_getElem? (i := 299) (by decide +kernel)⟩
theorem lw_p11 : lw_okq (⟨"StockDesk$House", "tellFailure", "(II)V"⟩, 16) := ⟨⟨by decide +kernel, by decide +kernel⟩, List.mem_of_getElem? (i := 44) (by decide +kernel), List.mem_of_getElem? (i := 306) (by decide +kernel), List.mem_of_getElem? (i := 307) (by decide +kernel)⟩
theorem lw_p12 : lw_okq (⟨"StockDesk$House", "addByte", "(I)I"⟩, 16) := ⟨⟨by decide +kernel, by decide +kernel⟩, List.mem_of_getElem? (i := 44) (by decide +kernel), List.mem_of_getElem? (i := 314) (by decide +kernel), List.mem_of_getElem? (i := 315) (by decide +kernel)⟩
theorem lw_p13 : lw_okq (⟨"StockDeskModel", "fresh", "()V"⟩, 19) := ⟨⟨by decide +kernel, by decide +kernel⟩, List.mem_of_getElem? (i := 481) (by decide +kernel), List.mem_of_getElem? (i := 487) (by decide +kernel), List.mem_of_getElem? (i := 488) (by decide +kernel)⟩
theorem lw_p14 : lw_okq (⟨"StockDeskModel", "keep", "(IIII)V"⟩, 19) := ⟨⟨by decide +kernel, by decide +kernel⟩, List.mem_of_getElem? (i := 481) (by decide +kernel), List.mem_of_getElem? (i := 560) (by decide +kernel), List.mem_of_getElem? (i := 561) (by decide +kernel)⟩
theorem lw_p15 : lw_okq (⟨"StockDeskModel", "does", "(IIII)V"⟩, 19) := ⟨⟨by decide +kernel, by decide +kernel⟩, List.mem_of_getElem? (i := 481) (by decide +kernel), List.mem_of_getElem? (i := 564) (by decide +kernel), List.mem_of_getElem? (i := 565) (by decide +kernel)⟩
def lw_privs_1 : List (MethodName × Nat) := [(⟨"StockDesk$House", "clearThings", "()V"⟩, 16), (⟨"StockDesk$House", "clearParts", "()V"⟩, 16), (⟨"java/lang/Throwable", "fillInStackTrace", "(I)Ljava/lang/Throwable;"⟩, 6), (⟨"StockDesk", "requireRoomForAct", "()V"⟩, 3), (⟨"StockDesk", "doAndKeep", "(IIII)J"⟩, 3), (⟨"StockDesk$House", "addThing", "(I)I"⟩, 16), (⟨"StockDesk$House", "removeThing", "(II)I"⟩, 16), (⟨"StockDesk$House", "setKind", "(II)I"⟩, 16), (⟨"StockDesk$House", "setAnswer", "(III)I"⟩, 16), (⟨"StockDesk$House", "setWay", "(II)I"⟩, 16), (⟨"StockDesk$House", "answerCall", "(III)J"⟩, 16), (⟨"StockDesk$House", "tellFailure", "(II)V"⟩, 16), (⟨"StockDesk$House", "addByte", "(I)I"⟩, 16), (⟨"StockDeskModel", "fresh", "()V"⟩, 19), (⟨"StockDeskModel", "keep", "(IIII)V"⟩, 19), (⟨"StockDeskModel", "does", "(IIII)V"⟩, 19)]
theorem lw_r1 : ∀ q ∈ lw_privs_1, lw_okq q := List.forall_mem_cons.mpr ⟨lw_p0, List.forall_mem_cons.mpr ⟨lw_p1, List.forall_mem_cons.mpr ⟨lw_p2, List.forall_mem_cons.mpr ⟨lw_p3, List.forall_mem_cons.mpr ⟨lw_p4, List.forall_mem_cons.mpr ⟨lw_p5, List.forall_mem_cons.mpr ⟨lw_p6, List.forall_mem_cons.mpr ⟨lw_p7, List.forall_mem_cons.mpr ⟨lw_p8, List.forall_mem_cons.mpr ⟨lw_p9, List.forall_mem_cons.mpr ⟨lw_p10, List.forall_mem_cons.mpr ⟨lw_p11, List.forall_mem_cons.mpr ⟨lw_p12, List.forall_mem_cons.mpr ⟨lw_p13, List.forall_mem_cons.mpr ⟨lw_p14, List.forall_mem_cons.mpr ⟨lw_p15, fun _ h => absurd h List.not_mem_nil⟩⟩⟩⟩⟩⟩⟩⟩⟩⟩⟩⟩⟩⟩⟩⟩
theorem lw_p16 : lw_okq (⟨"StockDeskModel", "calls", "(III)V"⟩, 19) := ⟨⟨by decide +kernel, by decide +kernel⟩, List.mem_of_getElem? (i := 481) (by decide +kernel), List.mem_of_getElem? (i := 568) (by decide +kernel), List.mem_of_getElem? (i := 569) (by decide +kernel)⟩
theorem lw_p17 : lw_okq (⟨"StockDeskModel", "isThere", "(II)Z"⟩, 19) := ⟨⟨by decide +kernel, by decide +kernel⟩, List.mem_of_getElem? (i := 481) (by decide +kernel), List.mem_of_getElem? (i := 577) (by decide +kernel), List.mem_of_getElem? (i := 578) (by decide +kernel)⟩
theorem lw_p18 : lw_okq (⟨"StockDeskModel", "answer", "(III)J"⟩, 19) := ⟨⟨by decide +kernel, by decide +kernel⟩, List.mem_of_getElem? (i := 481) (by decide +kernel), List.mem_of_getElem? (i := 599) (by decide +kernel), List.mem_of_getElem? (i := 600) (by decide +kernel)⟩
theorem lw_p19 : lw_okq (⟨"StockDeskModel", "thingsOf", "(I)I"⟩, 19) := ⟨⟨by decide +kernel, by decide +kernel⟩, List.mem_of_getElem? (i := 481) (by decide +kernel), List.mem_of_getElem? (i := 636) (by decide +kernel), List.mem_of_getElem? (i := 637) (by decide +kernel)⟩
def lw_privs_2 : List (MethodName × Nat) := [(⟨"StockDeskModel", "calls", "(III)V"⟩, 19), (⟨"StockDeskModel", "isThere", "(II)Z"⟩, 19), (⟨"StockDeskModel", "answer", "(III)J"⟩, 19), (⟨"StockDeskModel", "thingsOf", "(I)I"⟩, 19)]
theorem lw_r2 : ∀ q ∈ lw_privs_2, lw_okq q := List.forall_mem_cons.mpr ⟨lw_p16, List.forall_mem_cons.mpr ⟨lw_p17, List.forall_mem_cons.mpr ⟨lw_p18, List.forall_mem_cons.mpr ⟨lw_p19, fun _ h => absurd h List.not_mem_nil⟩⟩⟩⟩
def lw_privs : List (MethodName × Nat) := lw_privs_1 ++ (lw_privs_2)
def lw_tbl : List Cond := k2_sels lw_privs ++ tables_1
theorem lw_privs_ok : ∀ q ∈ lw_privs, lw_okq q := by
  show ∀ q ∈ lw_privs_1 ++ (lw_privs_2), lw_okq q
  exact List.forall_mem_append.mpr ⟨lw_r1, lw_r2⟩
end
section
/-! ===== BEGIN words of one list among another's, by their places ===== -/
theorem goodIn_r {big : List Cond} (ws : List Cond) (ps : List Nat) (hp : ws = ps.filterMap (fun i => big[i]?)) (h : ws.all goodWord = true) : GoodIn big ws := by
  intro w hw
  have h1 := List.all_eq_true.mp h w hw
  rw [hp] at hw
  obtain ⟨i, -, hi⟩ := List.mem_filterMap.mp hw
  have hm : w ∈ big := by first | exact List.mem_of_getElem? hi | exact List.getElem?_mem hi
  exact ⟨hm, good_of_word h1⟩
theorem goodIn_app {big a b : List Cond} (ha : GoodIn big a) (hb : GoodIn big b) : GoodIn big (a ++ b) := fun w h => (List.mem_append.mp h).elim (ha w) (hb w)
theorem goodIn_ca {big a b : List Cond} {c : Cond} (ha : GoodIn big (c :: a)) (hb : GoodIn big b) : GoodIn big (c :: (a ++ b)) := fun w h => (List.mem_cons.mp h).elim (fun e => ha w (List.mem_cons.mpr (Or.inl e))) (fun h => (List.mem_append.mp h).elim (fun h => ha w (List.mem_cons.mpr (Or.inr h))) (hb w))
theorem goodIn_sub {big ws : List Cond} (hm : ∀ w ∈ ws, w ∈ big) (h : ws.all goodWord = true) : GoodIn big ws := fun w hw => ⟨hm w hw, good_of_word (List.all_eq_true.mp h w hw)⟩
/-! ===== END ===== -/

/-! ===== BEGIN exceptions that leave a method, and their catching by the caller (launches without stack traces) ===== -/
section VXA
/-! The laws vx_back, vx_callV, vx_callS, vx_callSW, vx_throw0, vx_throwS follow proofs of the library, with one case more: JvmDerived/Free/Laws.lean (Back.of_free), Shelf42/LK1.lean (callV, callS), Shelf/KitTraced.lean (throwNew0V, throwNewS). -/
/-- where a method has thrown q: the class by its name, the cell, what was written, the world -/
def vx_T (XC : String → State → State → Prop) (st : State) (q : Addr) (t : State) (mc ms : Nat) (free : Addr → Prop) : Prop :=
  ∃ (E : String) (ce : Cell) (L : List Loc), XC E st t ∧ t.heap[q]? = some ce ∧ ce.vm = .none ∧ st.vm.findClass E = some ce.cls ∧ st.WarmedH t.vm ∧ st.sameButNew ({ t with vm := st.vm } : State) L mc ms ∧ ∀ z ∈ L, free z.base
def vx_Q (Qc : Array Value → State → Outcome → State → Prop) (XC : String → State → State → Prop) (mc ms : Nat) (free : Addr → Prop) : Array Value → State → Outcome → State → Prop := fun a st o t =>
  (Qc a st o t ∧ ∃ L, FrameEnd st o t L mc ms ∧ ∀ q ∈ L, free q.base) ∨ ∃ q, o = .threw q ∧ vx_T XC st q t mc ms free
/-- a callee that returns or throws -/
def vx_Met (l : Launch) (y : MethodName) (ws : List Cond) (rm : Room) (Pc : Array Value → State → Prop) (Qc : Array Value → State → Outcome → State → Prop) (XC : String → State → State → Prop) (mc ms : Nat) (free : Addr → Prop) : Prop :=
  MetFree l y (headSpec ws rm) Pc (fun _ _ _ _ _ => True) (vx_Q Qc XC mc ms free)
def vx_Post (XC : String → State → State → Prop) (mc ms : Nat) (free : Addr → Prop) : Pt → Array Value → Addr → Pt → Prop := fun A a q B =>
  ∃ (g : JFrame) (mk : MethodId) (t : State) (L : List Loc) (E : String) (ce : Cell), B.U.heap = t.heap ∧ B.U.vm = t.vm ∧ XC E (A.U.calling g mk a) t ∧ t.heap[q]? = some ce ∧ ce.vm = .none ∧ A.U.vm.findClass E = some ce.cls ∧ B.locs = A.locs ++ L ∧ (∀ z ∈ L, free z.base) ∧ B.cells = A.cells + mc ∧ B.slots = A.slots + ms
def vx_Back (l : Launch) (R : Room) (p : Program) (e : Env) (below : List Frame) (s : State) (sargs : Array Value) (y : MethodName) (len W9 : Nat)
    (Pre : Pt → Array Value → Prop) (Post : Pt → Array Value → Option Value → Pt → Prop) (PostX : Pt → Array Value → Addr → Pt → Prop) : Prop :=
  ∀ (m : MethodId) (meth : Method) (c : Code) (A : Pt) (g : JFrame) (ig : Instr) (mk : MethodId) (a : Array Value),
    Stand p l e R s m sargs below meth c A.U A.locs A.cells A.slots → g.method = m → g.locals.size = c.maxLocals → decode c.code g.pc = .ok (ig, len) →
    2 * g.monitorRoom + (g.stack.map fun v => v.category).sum ≤ W9 → A.U.methodNamed? y = some mk → Pre A a →
    (∃ (v : Option Value) (B : Pt), Stand p l e R s m sargs below meth c B.U B.locs B.cells B.slots ∧ Post A a v B ∧
      Steps p.tables e below (doInvoke e (A.U.setTop g) [] mk a).1 (B.U.setTop { g with pc := g.pc + len, stack := v.toList ++ g.stack })) ∨
    (∃ (q : Addr) (B : Pt), Stand p l e R s m sargs below meth c B.U B.locs B.cells B.slots ∧ PostX A a q B ∧
      Steps p.tables e below (doInvoke e (A.U.setTop g) [] mk a).1 ((B.U.setTop g).pushFrame (.throwing q)))
section Payer
variable {l : Launch} {R : Room} {p : Program} {e : Env} {below : List Frame} {s : State} {sargs : Array Value} {y : MethodName} {len W9 : Nat}
theorem vx_back {ws : List Cond} {rm : Room} {Pc : Array Value → State → Prop} {Qc : Array Value → State → Outcome → State → Prop} {XC : String → State → State → Prop} {mc ms : Nat} {free : Addr → Prop} {bytes : ByteArray} {maxL : Nat} {ret : Option FieldType}
    (hM : vx_Met l y ws rm Pc Qc XC mc ms free) (hblind : FrameBlind Pc) (hrc : rm.cells = mc) (hrs : rm.slots = ms)
    (hframes : rm.frames + 1 ≤ R.frames) (hlocals : W9 + (maxL + 11) + rm.locals ≤ R.locals)
    (hws : ∀ w ∈ ws, ∀ a' U, s.WarmedH U.vm → w.before a' U = true) (hcode : Cond.code y bytes maxL ret ∈ ws) (hinit : ∀ a' U, s.WarmedH U.vm → (Cond.initialized y.cls).before a' U = true) :
    vx_Back l R p e below s sargs y len W9 (PreOf R mc ms Pc) (PostOf Qc mc ms free) (vx_Post XC mc ms free) := by
  intro m meth c A g ig mk a X hg hsize hdg hW hn hp
  have h1 : (headSpec ws rm).pre.before a A.U = true := atoms_intro fun w hw => hws w hw _ _ X.warmed
  have h2 : (Cond.code y bytes maxL ret).before a A.U = true := hws _ hcode _ _ X.warmed
  have h3 : (Cond.initialized y.cls).before a A.U = true := hinit _ _ X.warmed
  have h4 : A.cells + (headSpec ws rm).room.cells ≤ R.cells := by rw [show (headSpec ws rm).room.cells = mc from hrc]; exact hp.1
  have h5 : A.slots + (headSpec ws rm).room.slots ≤ R.slots := by rw [show (headSpec ws rm).room.slots = ms from hrs]; exact hp.2.1
  have hPc : Pc a (A.U.calling g mk a) := hblind _ _ _ _ hp.2.2
  obtain ⟨U, Ls, c0, s0⟩ := A
  dsimp only [Pt.U, Pt.locs, Pt.cells, Pt.slots] at h1 h2 h3 h4 h5 X hn hPc ⊢
  obtain ⟨methY, cY, hmY, hcY, -, hlY, -, -, -, -⟩ := Cond.code_spec hn h2
  obtain ⟨kY, hkY, -⟩ := className_of_methodNamed hn
  have hinitY : kY.init = .initialized := Cond.initialized_spec (findClass_of_methodNamed hn) hkY h3
  have h : At U g.method c below := by rw [hg]; exact X.here
  have hlocals9 : W9 + (maxL + 11) + (headSpec ws rm).room.locals ≤ R.locals := hlocals
  have happ : (headSpec ws rm).appliesLoose y e.platform (U.calling g mk a) = true :=
    Spec.appliesLoose_calling (g := g) h hdg hn hkY hinitY
      (X.room_calling (g := g) (R' := (headSpec ws rm).room) hsize hmY hcY hframes (by rw [hlY]; omega) h4 h5) h1
  obtain ⟨mid, hmid⟩ := h.above
  have hfr : (U.setTop g).frames = (.java g :: mid) ++ below := by rw [State.frames_setTop' g h.top, hmid]; rfl
  obtain ⟨o, s₂, hsteps, -, hend, hq⟩ := Steps.callFree hM p X.admits X.cas X.clock (acts := []) hfr happ hPc trivial
  have hq' : vx_Q Qc XC mc ms free a (U.calling g mk a) o s₂ := hq
  rw [State.frames_setTop' g h.top] at hend
  obtain ⟨g₀, hg0⟩ := Option.isSome_iff_exists.mp h.top
  obtain ⟨r, hr⟩ := State.topJava?_eq_some.mp hg0
  have hr' : (({ U with heap := s₂.heap, slotsUsed := s₂.slotsUsed } : State).setVm s₂.vm).frames = .java g₀ :: r := hr
  rcases hq' with ⟨hqc, L, hfe, hL⟩ | ⟨q, rfl, E, ce, L, hx, hce, hcv, hcl, hW₂, hsm, hL⟩
  · obtain ⟨⟨v, rfl⟩, hW₂, e2, q2, q3, q4, q5, q6⟩ := id hfe
    have e3 : s₂ = ({ (U.calling g mk a).setFrames s₂.frames with heap := s₂.heap, slotsUsed := s₂.slotsUsed } : State).setVm s₂.vm := by
      have : s₂ = ({ s₂ with vm := (U.calling g mk a).vm } : State).setVm s₂.vm := rfl
      rw [e2] at this
      exact this
    obtain ⟨c₂, i₂, len₂, hc₂, hd₂, hf₂⟩ := hend
    have hW' : U.WarmedH s₂.vm := hW₂
    have hcc : c₂ = c := by
      have h1 : s₂.code? g.method = U.code? g.method := by
        rw [State.code?_eq, State.code?_eq, hW'.alike.method?]
      exact Option.some.inj (hc₂.symm.trans (h1.trans h.code))
    subst hcc
    have hlen : len₂ = len := by rw [hdg] at hd₂; cases hd₂; rfl
    subst hlen
    have hs₂ : s₂ = (({ U with heap := s₂.heap, slotsUsed := s₂.slotsUsed } : State).setVm s₂.vm).setTop { g with pc := g.pc + len₂, stack := v.toList ++ g.stack } := by
      refine e3.trans ?_
      rw [hf₂, State.calling_eq h.top, State.setFrames_setFrames, State.setTop_of_frames _ hr', hr]
      rfl
    have hsame : U.sameButNew ({ U with heap := s₂.heap, slotsUsed := s₂.slotsUsed } : State) L mc ms := by
      refine ⟨?_, q2, q3, q4, q5, q6⟩
      obtain ⟨t, ht, -⟩ := State.frames_cons hr
      show ({ U with heap := s₂.heap, slotsUsed := s₂.slotsUsed } : State) = { U.setFrames U.frames with heap := s₂.heap, slotsUsed := s₂.slotsUsed }
      rw [State.setFrames_self ht]
    subst hg
    refine Or.inl ⟨v, ⟨(({ U with heap := s₂.heap, slotsUsed := s₂.slotsUsed } : State).setVm s₂.vm), Ls ++ L, c0 + mc, s0 + ms⟩,
      ⟨X.admits, X.cas, X.clock, X.frames, X.room, X.hears, X.method, X.code, (X.here.setHeapUsed s₂.heap s₂.slotsUsed).setVm hW'.alike, X.tail, State.WarmedH.trans X.warmed hW', X.limits, X.bytes, X.same.trans (hsame.setVm s.vm)⟩,
      ⟨g, mk, s₂, L, rfl, rfl, hqc, rfl, hL, rfl, rfl⟩, ?_⟩
    show Steps p.tables e below _ ((({ U with heap := s₂.heap, slotsUsed := s₂.slotsUsed } : State).setVm s₂.vm).setTop { g with pc := g.pc + len₂, stack := v.toList ++ g.stack })
    rw [← hs₂]
    exact hsteps
  · obtain ⟨e2, q2, q3, q4, q5, q6⟩ := id hsm
    have e3 : s₂ = ({ (U.calling g mk a).setFrames s₂.frames with heap := s₂.heap, slotsUsed := s₂.slotsUsed } : State).setVm s₂.vm := by
      have : s₂ = ({ s₂ with vm := (U.calling g mk a).vm } : State).setVm s₂.vm := rfl
      rw [e2] at this
      exact this
    have hf₂ : s₂.frames = .throwing q :: .java g :: U.frames.tail := hend
    have hW' : U.WarmedH s₂.vm := hW₂
    have hs₂ : s₂ = ((({ U with heap := s₂.heap, slotsUsed := s₂.slotsUsed } : State).setVm s₂.vm).setTop g).pushFrame (.throwing q) := by
      refine e3.trans ?_
      rw [hf₂, State.calling_eq h.top, State.setFrames_setFrames, State.pushFrame, State.frames_setTop _ hr', State.setTop_of_frames _ hr', State.setFrames_setFrames, hr]
      rfl
    have hsame : U.sameButNew ({ U with heap := s₂.heap, slotsUsed := s₂.slotsUsed } : State) L mc ms := by
      refine ⟨?_, q2, q3, q4, q5, q6⟩
      obtain ⟨t, ht, -⟩ := State.frames_cons hr
      show ({ U with heap := s₂.heap, slotsUsed := s₂.slotsUsed } : State) = { U.setFrames U.frames with heap := s₂.heap, slotsUsed := s₂.slotsUsed }
      rw [State.setFrames_self ht]
    subst hg
    refine Or.inr ⟨q, ⟨(({ U with heap := s₂.heap, slotsUsed := s₂.slotsUsed } : State).setVm s₂.vm), Ls ++ L, c0 + mc, s0 + ms⟩,
      ⟨X.admits, X.cas, X.clock, X.frames, X.room, X.hears, X.method, X.code, (X.here.setHeapUsed s₂.heap s₂.slotsUsed).setVm hW'.alike, X.tail, State.WarmedH.trans X.warmed hW', X.limits, X.bytes, X.same.trans (hsame.setVm s.vm)⟩,
      ⟨g, mk, s₂, L, E, ce, rfl, rfl, hx, hce, hcv, hcl, rfl, hL, rfl, rfl⟩, ?_⟩
    show Steps p.tables e below _ (((({ U with heap := s₂.heap, slotsUsed := s₂.slotsUsed } : State).setVm s₂.vm).setTop g).pushFrame (.throwing q))
    rw [← hs₂]
    exact hsteps
end Payer
section Calls
variable {p : Program} {l : Launch} {e : Env} {R : Room} {s : State} {m : MethodId} {args : Array Value} {below : List Frame} {meth : Method} {c : Code} {T : State} {locs : List Loc} {cells slots : Nat}
theorem vx_callV (X : Stand p l e R s m args below meth c T locs cells slots) (hexec : p.tables.exec = Jvm.exec) {own C : String} {index : Nat} {y : MethodName} {bytes : ByteArray} {maxL : Nat} {ret : Option FieldType}
    (hown : s.vm.findClass own = some m.cls) (hlink : (Cond.methodLink own index y).before args s = true) (hinst : (Cond.instanceMethod y).before args s = true) (hsel : (Cond.selects C y y).before args s = true)
    (hcode : (Cond.code y bytes maxL ret).before args s = true) (hy : y.cls ≠ "java/lang/invoke/MethodHandle" ∧ y.cls ≠ "java/lang/invoke/VarHandle")
    {W9 : Nat} {Pre : Pt → Array Value → Prop} {Post : Pt → Array Value → Option Value → Pt → Prop} {PostX : Pt → Array Value → Addr → Pt → Prop} (hK : vx_Back l R p e below s args y 3 W9 Pre Post PostX)
    {b : Addr} {cellB : Cell} (hcell : T.heap[b]? = some cellB) (hobj : cellB.vm.isStatics = false) (hcls : s.vm.findClass C = some cellB.cls)
    {g : JFrame} (hg : g.method = m) (hsize : g.locals.size = c.maxLocals) {argsL rest : List Value} (hlen : ∀ sig, parseMethodDescriptor y.desc = some sig → argsL.length = sig.parameters.length)
    (hstack : g.stack = argsL.reverse ++ .ref b :: rest) (hW : 2 * g.monitorRoom + (rest.map fun v => v.category).sum ≤ W9) (hdg : decode c.code g.pc = .ok (.invokevirtual index, 3))
    (hpre : ∀ vm₁, s.WarmedH vm₁ → Pre ⟨T.setVm vm₁, locs, cells, slots⟩ (Value.ref b :: argsL).toArray) :
    (∃ (v : Option Value) (vm₁ : Vm) (B : Pt), s.WarmedH vm₁ ∧ Stand p l e R s m args below meth c B.U B.locs B.cells B.slots ∧ Post ⟨T.setVm vm₁, locs, cells, slots⟩ (Value.ref b :: argsL).toArray v B ∧
      ∀ target, Steps p.tables e below (B.U.setTop { g with pc := g.pc + 3, stack := v.toList ++ rest }) target → Steps p.tables e below (T.setTop g) target) ∨
    (∃ (q : Addr) (vm₁ : Vm) (B : Pt), s.WarmedH vm₁ ∧ Stand p l e R s m args below meth c B.U B.locs B.cells B.slots ∧ PostX ⟨T.setVm vm₁, locs, cells, slots⟩ (Value.ref b :: argsL).toArray q B ∧
      Steps p.tables e below (T.setTop g) ((B.U.setTop { g with stack := rest }).pushFrame (.throwing q))) := by
  obtain ⟨mk, methM, hnamed, hmethM, hstM, habM⟩ := Cond.instanceMethod_spec hinst
  obtain ⟨methM', cM, hmethM', -, -, -, -, -, -, hsigM⟩ := Cond.code_spec hnamed hcode
  cases hmethM.symm.trans hmethM'
  obtain ⟨c2, r2, m2, q1, q2, q3, q4, kP, hkP, hkPi⟩ := Cond.selects_spec hsel
  cases hcls.symm.trans q1
  cases (State.methodFound?_of_named hnamed hy).symm.trans q2
  cases hnamed.symm.trans q3
  have hselP : selectMethod e.platform s.vm cellB.cls mk = .method mk := by rw [Launch.admits_selectMethod X.admits]; exact q4
  obtain ⟨vm₁, X₁, hstep₁⟩ := X.invokevirtual hexec hown hlink hnamed hmethM hstM hkP hkPi hy (a := b) (cell := cellB) hcell
    (fun z h => by rw [h] at hobj; cases hobj) hselP hmethM habM hkP hkPi (g := g) hg (argsL := argsL) (rest := rest) (hlen _ hsigM) hstack hdg
  rcases hK m meth c ⟨T.setVm vm₁, locs, cells, slots⟩ { g with stack := rest } (.invokevirtual index) mk (Value.ref b :: argsL).toArray X₁ hg hsize hdg hW (X₁.named hnamed) (hpre vm₁ X₁.warmed) with ⟨v, B, X', hpost, hsteps⟩ | ⟨q, B, X', hpost, hsteps⟩
  · exact Or.inl ⟨v, vm₁, B, X₁.warmed, X', hpost, fun target h => hstep₁ _ fun acts => by rw [doInvoke_state]; exact hsteps.trans h⟩
  · exact Or.inr ⟨q, vm₁, B, X₁.warmed, X', hpost, hstep₁ _ fun acts => by rw [doInvoke_state]; exact hsteps⟩
theorem vx_callS (X : Stand p l e R s m args below meth c T locs cells slots) (hexec : p.tables.exec = Jvm.exec) {own : String} {index : Nat} {y : MethodName} {bytes : ByteArray} {maxL : Nat} {ret : Option FieldType}
    (hown : s.vm.findClass own = some m.cls) (hlink : (Cond.methodLink own index y).before args s = true) (hstat : (Cond.static y).before args s = true) (hinit : (Cond.initialized y.cls).before args s = true)
    (hcode : (Cond.code y bytes maxL ret).before args s = true) (hy : y.cls ≠ "java/lang/invoke/MethodHandle" ∧ y.cls ≠ "java/lang/invoke/VarHandle")
    {W9 : Nat} {Pre : Pt → Array Value → Prop} {Post : Pt → Array Value → Option Value → Pt → Prop} {PostX : Pt → Array Value → Addr → Pt → Prop} (hK : vx_Back l R p e below s args y 3 W9 Pre Post PostX)
    {g : JFrame} (hg : g.method = m) (hsize : g.locals.size = c.maxLocals) {argsL rest : List Value} (hlen : ∀ sig, parseMethodDescriptor y.desc = some sig → argsL.length = sig.parameters.length)
    (hstack : g.stack = argsL.reverse ++ rest) (hW : 2 * g.monitorRoom + (rest.map fun v => v.category).sum ≤ W9) (hdg : decode c.code g.pc = .ok (.invokestatic index, 3))
    (hpre : ∀ vm₁, s.WarmedH vm₁ → Pre ⟨T.setVm vm₁, locs, cells, slots⟩ argsL.toArray) :
    (∃ (v : Option Value) (vm₁ : Vm) (B : Pt), s.WarmedH vm₁ ∧ Stand p l e R s m args below meth c B.U B.locs B.cells B.slots ∧ Post ⟨T.setVm vm₁, locs, cells, slots⟩ argsL.toArray v B ∧
      ∀ target, Steps p.tables e below (B.U.setTop { g with pc := g.pc + 3, stack := v.toList ++ rest }) target → Steps p.tables e below (T.setTop g) target) ∨
    (∃ (q : Addr) (vm₁ : Vm) (B : Pt), s.WarmedH vm₁ ∧ Stand p l e R s m args below meth c B.U B.locs B.cells B.slots ∧ PostX ⟨T.setVm vm₁, locs, cells, slots⟩ argsL.toArray q B ∧
      Steps p.tables e below (T.setTop g) ((B.U.setTop { g with stack := rest }).pushFrame (.throwing q))) := by
  obtain ⟨mk, hnamed⟩ := Cond.code_named hcode
  obtain ⟨methM, cM, hmethM, -, -, -, -, -, -, hsigM⟩ := Cond.code_spec hnamed hcode
  have hstatic : methM.isStatic = true := Cond.static_spec hnamed hmethM hstat
  obtain ⟨kP, hkP, -⟩ := className_of_methodNamed hnamed
  have hinitP : kP.init = .initialized := Cond.initialized_spec (findClass_of_methodNamed hnamed) hkP hinit
  obtain ⟨vm₁, X₁, hstep₁⟩ := X.invokestatic hexec hown hlink hnamed hmethM hstatic hkP hinitP hy (g := g) hg (argsL := argsL) (rest := rest) (hlen _ hsigM) hstack hdg
  rcases hK m meth c ⟨T.setVm vm₁, locs, cells, slots⟩ { g with stack := rest } (.invokestatic index) mk argsL.toArray X₁ hg hsize hdg hW (X₁.named hnamed) (hpre vm₁ X₁.warmed) with ⟨v, B, X', hpost, hsteps⟩ | ⟨q, B, X', hpost, hsteps⟩
  · exact Or.inl ⟨v, vm₁, B, X₁.warmed, X', hpost, fun target h => hstep₁ _ fun acts => by rw [doInvoke_state]; exact hsteps.trans h⟩
  · exact Or.inr ⟨q, vm₁, B, X₁.warmed, X', hpost, hstep₁ _ fun acts => by rw [doInvoke_state]; exact hsteps⟩
end Calls
theorem vx_cls {s : State} {T : State} {vm₁ : Vm} {E : String} {k : ClassId} (hW : s.WarmedH vm₁) (h : (T.setVm vm₁).vm.findClass E = some k) : s.vm.findClass E = some k := by
  have h1 : vm₁.findClass E = some k := h
  rw [hW.alike.findClass] at h1
  exact h1
/-- the method's frame g, with q thrown over it -/
def vx_W (p : Program) (l : Launch) (e : Env) (R : Room) (s : State) (m : MethodId) (args : Array Value) (below : List Frame) (meth : Method) (c : Code) (H : Heap) (locs : List Loc) (cells slots : Nat) (Q : State → Prop) (g : JFrame) (q : Addr) : Prop :=
  ∀ T : State, T.heap = H → Stand p l e R s m args below meth c T locs cells slots → ∃ t, Steps p.tables e below ((T.setTop g).pushFrame (.throwing q)) t ∧ Q t
def vx_Run (p : Program) (l : Launch) (e : Env) (R : Room) (s : State) (m : MethodId) (args : Array Value) (below : List Frame) (meth : Method) (c : Code) (H : Heap) (locs : List Loc) (cells slots mc ms : Nat) (g : JFrame) (rest : List Value) (Qa : State → Outcome → State → Prop) (XC : String → State → State → Prop) (free : Addr → Prop) : Prop :=
  ∀ T : State, T.heap = H → Stand p l e R s m args below meth c T locs cells slots →
    (∃ (v : Option Value) (st₀ t T' : State) (L : List Loc), st₀.heap = H ∧ Stand p l e R s m args below meth c T' (locs ++ L) (cells + mc) (slots + ms) ∧ (∀ q ∈ L, free q.base) ∧ T'.heap = t.heap ∧ T'.vm = t.vm ∧ Qa st₀ (.returned v) t ∧
      Goes p e below T g T' { g with pc := g.pc + 3, stack := v.toList ++ rest }) ∨
    (∃ (q : Addr) (st₀ t T' : State) (L : List Loc) (E : String) (ce : Cell), st₀.heap = H ∧ Stand p l e R s m args below meth c T' (locs ++ L) (cells + mc) (slots + ms) ∧ (∀ z ∈ L, free z.base) ∧ T'.heap = t.heap ∧ T'.vm = t.vm ∧ XC E st₀ t ∧ t.heap[q]? = some ce ∧ ce.vm = .none ∧ s.vm.findClass E = some ce.cls ∧
      Steps p.tables e below (T.setTop g) ((T'.setTop { g with stack := rest }).pushFrame (.throwing q)))
def vx_X {S : Type} (px : S → Prop) (B : String → S → State → Prop) (A : Nat → Prop) : String → State → State → Prop := fun E st t => ∃ u : S, px u ∧ B E u t ∧ va_F A st t
section Runs
variable {p : Program} {l : Launch} {e : Env} {R : Room} {s : State} {m : MethodId} {args : Array Value} {below : List Frame} {meth : Method} {c : Code} {H : Heap} {locs : List Loc} {cells slots : Nat}
variable {y : MethodName} {bytes cc : ByteArray} {maxL nL mc ms n index : Nat} {ret : Option FieldType} {ws : List Cond} {rm : Room} {Pc : Array Value → State → Prop} {Qc : Array Value → State → Outcome → State → Prop} {XC : String → State → State → Prop} {free : Addr → Prop} {Ts : List Cond} {own C : String} {b : Addr} {As rest : List Value} {g : JFrame}
theorem vx_callBack (cb : CallB R s args own index y bytes maxL ret ws rm mc ms n) (hM : vx_Met l y ws rm Pc Qc XC mc ms free) (hbl : FrameBlind Pc) : vx_Back l R p e below s args y 3 8 (PreOf R mc ms Pc) (PostOf Qc mc ms free) (vx_Post XC mc ms free) := by
  obtain ⟨hrc, hrs, hfr, hlo, hws, hcw, -, hini, -⟩ := cb
  exact vx_back (bytes := bytes) (maxL := maxL) (ret := ret) hM hbl hrc hrs hfr hlo hws hcw (fun a' U hW => word_at hW (Or.inl (by first | rfl | simp [Cond.onTables, Cond.keeps, Cond.steady])) hini)
theorem vx_runV (S : CallFix p m c cc nL s args Ts own) (hM : vx_Met l y ws rm Pc Qc XC mc ms free) (cw : CallW R s args own C index y bytes maxL ret ws rm mc ms n) (hp : PreV s H C b Pc As)
    (hg : g.method = m) (hn : As.length = n) (hsize : g.locals.size = nL) (hstack : g.stack = As.reverse ++ .ref b :: rest) (hW : 2 * g.monitorRoom + (rest.map fun v => v.category).sum ≤ 8) (hdg : decode cc g.pc = .ok (.invokevirtual index, 3)) (hf : cells + mc ≤ R.cells ∧ slots + ms ≤ R.slots) :
    vx_Run p l e R s m args below meth c H locs cells slots mc ms g rest (Qc (Value.ref b :: As).toArray) XC free := by
  have hK : vx_Back l R p e below s args y 3 8 (PreOf R mc ms Pc) (PostOf Qc mc ms free) (vx_Post XC mc ms free) := vx_callBack cw.1 hM hp.1
  obtain ⟨⟨-, -, -, -, -, -, hcode, -, hy, hlen, hl⟩, hin, hse⟩ := cw
  obtain ⟨hx, hb, hml, ho, -⟩ := S
  obtain ⟨-, ⟨cellB, hcB, hoB, hclB⟩, hPc⟩ := hp
  intro T hT X
  rcases vx_callV X hx (C := C) (bytes := bytes) (maxL := maxL) (ret := ret) ho hl hin hse hcode hy hK (by rw [hT]; exact hcB) hoB hclB hg (hsize.trans hml.symm) (argsL := As) (rest := rest) (fun sig h => hn.trans (hlen sig h)) hstack hW (by rw [hb]; exact hdg)
    (fun vm₁ hW₁ => ⟨hf.1, hf.2, hPc (T.setVm vm₁) hT hW₁⟩) with ⟨v, vm₁, ⟨U', l2, c2, s2⟩, hW₁, X', ⟨g', mk, t, L, e1, e2, hq, h1, hL, h2, h3⟩, st⟩ | ⟨q, vm₁, ⟨U', l2, c2, s2⟩, hW₁, X', ⟨g', mk, t, L, E, ce, e1, e2, hq, hce, hcv, hcl, h1, hL, h2, h3⟩, st⟩
  · dsimp only [Pt.U, Pt.locs, Pt.cells, Pt.slots] at X' e1 e2 h1 h2 h3 st
    subst h1; subst h2; subst h3
    exact Or.inl ⟨v, (T.setVm vm₁).calling g' mk (Value.ref b :: As).toArray, t, U', L, hT, X', hL, e1, e2, hq, st⟩
  · dsimp only [Pt.U, Pt.locs, Pt.cells, Pt.slots] at X' e1 e2 h1 h2 h3 st hcl
    subst h1; subst h2; subst h3
    exact Or.inr ⟨q, (T.setVm vm₁).calling g' mk (Value.ref b :: As).toArray, t, U', L, E, ce, hT, X', hL, e1, e2, hq, hce, hcv, vx_cls hW₁ hcl, st⟩
theorem vx_runS (S : CallFix p m c cc nL s args Ts own) (hM : vx_Met l y ws rm Pc Qc XC mc ms free) (cw : CallB R s args own index y bytes maxL ret ws rm mc ms n ∧ (Cond.static y).before args s = true) (hp : PreS s H Pc As)
    (hg : g.method = m) (hn : As.length = n) (hsize : g.locals.size = nL) (hstack : g.stack = As.reverse ++ rest) (hW : 2 * g.monitorRoom + (rest.map fun v => v.category).sum ≤ 8) (hdg : decode cc g.pc = .ok (.invokestatic index, 3)) (hf : cells + mc ≤ R.cells ∧ slots + ms ≤ R.slots) :
    vx_Run p l e R s m args below meth c H locs cells slots mc ms g rest (Qc As.toArray) XC free := by
  have hK : vx_Back l R p e below s args y 3 8 (PreOf R mc ms Pc) (PostOf Qc mc ms free) (vx_Post XC mc ms free) := vx_callBack cw.1 hM hp.1
  obtain ⟨⟨-, -, -, -, -, -, hcode, hini, hy, hlen, hl⟩, hstt⟩ := cw
  obtain ⟨hx, hb, hml, ho, -⟩ := S
  intro T hT X
  rcases vx_callS X hx (bytes := bytes) (maxL := maxL) (ret := ret) ho hl hstt hini hcode hy hK hg (hsize.trans hml.symm) (argsL := As) (rest := rest) (fun sig h => hn.trans (hlen sig h)) hstack hW (by rw [hb]; exact hdg)
    (fun vm₁ hW₁ => ⟨hf.1, hf.2, hp.2 (T.setVm vm₁) hT hW₁⟩) with ⟨v, vm₁, ⟨U', l2, c2, s2⟩, hW₁, X', ⟨g', mk, t, L, e1, e2, hq, h1, hL, h2, h3⟩, st⟩ | ⟨q, vm₁, ⟨U', l2, c2, s2⟩, hW₁, X', ⟨g', mk, t, L, E, ce, e1, e2, hq, hce, hcv, hcl, h1, hL, h2, h3⟩, st⟩
  · dsimp only [Pt.U, Pt.locs, Pt.cells, Pt.slots] at X' e1 e2 h1 h2 h3 st
    subst h1; subst h2; subst h3
    exact Or.inl ⟨v, (T.setVm vm₁).calling g' mk As.toArray, t, U', L, hT, X', hL, e1, e2, hq, st⟩
  · dsimp only [Pt.U, Pt.locs, Pt.cells, Pt.slots] at X' e1 e2 h1 h2 h3 st hcl
    subst h1; subst h2; subst h3
    exact Or.inr ⟨q, (T.setVm vm₁).calling g' mk As.toArray, t, U', L, E, ce, hT, X', hL, e1, e2, hq, hce, hcv, vx_cls hW₁ hcl, st⟩
end Runs
section Rows
variable {p : Program} {l : Launch} {e : Env} {R : Room} {s : State} {m : MethodId} {args : Array Value} {below : List Frame} {meth : Method} {c : Code} {H : Heap} {locs : List Loc} {cells slots : Nat} {Q : State → Prop}
variable {mc ms : Nat} {free : Addr → Prop} {A0 A1 : Nat → Prop} {H0 : Heap} {a : Array Value} {pc : Nat} {ls : Array Slot} {st0 rest : List Value}
theorem vx_keep {st₀ t T' : State} {L : List Loc} (h0 : st₀.heap = H) (e1 : T'.heap = t.heap) (hS : va_S A0 H0 H locs) (hA : ∀ q, q < H.size → A1 q → A0 q) (hf : ∀ q, free q → A0 q) (hL : ∀ q ∈ L, free q.base) (hF : va_F A1 st₀ t) :
    H.size ≤ T'.heap.size ∧ (∀ q : Nat, q < H.size → ¬ A1 q → T'.heap[q]? = H[q]?) ∧ va_S A0 H0 T'.heap (locs ++ L) := by
  obtain ⟨hz, hk⟩ := hF
  rw [h0] at hz hk
  exact ⟨by rw [e1]; exact hz, fun q h1 h2 => by rw [e1]; exact hk q h1 h2,
    ⟨Nat.le_trans hS.1 (by rw [e1]; exact hz), fun q h1 h2 => by rw [e1, hk q (Nat.lt_of_lt_of_le h1 hS.1) (fun z => h2 (hA q (Nat.lt_of_lt_of_le h1 hS.1) z))]; exact hS.2.1 q h1 h2, fun q hq => by
      rcases List.mem_append.mp hq with h | h
      · exact hS.2.2 q h
      · exact hf _ (hL q h)⟩⟩
theorem vx_calli {S SX : Type} {post : Int32 → S → Prop} {px : SX → Prop} {B : S → State → Prop} {BX : String → SX → State → Prop} {AX : Nat → Prop} (hr : vx_Run p l e R s m args below meth c H locs cells slots mc ms (F0 m pc ls st0) rest (va_Qi post B A1 a) (vx_X px BX AX) free) (hS : va_S A0 H0 H locs) (hA : ∀ q, q < H.size → A1 q → A0 q) (hf : ∀ q, free q → A0 q) (hAX : ∀ q, q < H.size → AX q → A0 q)
    (kx : ∀ (E : String) (ce : Cell) (q9 : Addr) (u : SX) (t : State) (H1 : Heap) (locs1 : List Loc), t.heap = H1 → s.vm.Alike t.vm → px u → BX E u t → H.size ≤ H1.size → (∀ q : Nat, q < H.size → ¬ AX q → H1[q]? = H[q]?) → va_S A0 H0 H1 locs1 → H1[q9]? = some ce → ce.vm = .none → s.vm.findClass E = some ce.cls → vx_W p l e R s m args below meth c H1 locs1 (cells + mc) (slots + ms) Q (F0 m pc ls rest) q9)
    (kk : ∀ (r : Int32) (u : S) (t : State) (H1 : Heap) (locs1 : List Loc), t.heap = H1 → s.vm.Alike t.vm → post r u → B u t → H.size ≤ H1.size → (∀ q : Nat, q < H.size → ¬ A1 q → H1[q]? = H[q]?) → va_S A0 H0 H1 locs1 → W p l e R s m args below meth c H1 locs1 (cells + mc) (slots + ms) Q (F0 m (pc + 3) ls (.int r :: rest))) : W p l e R s m args below meth c H locs cells slots Q (F0 m pc ls st0) := by
  intro T hT X
  rcases hr T hT X with ⟨v, st₀, t, T', L, h0, X', hL, e1, e2, ⟨⟨r, u, hv, hp, hb⟩, hF⟩, st⟩ | ⟨q, st₀, t, T', L, E, ce, h0, X', hL, e1, e2, ⟨u, hp, hb, hF⟩, hce, hcv, hcl, st⟩
  · cases hv
    obtain ⟨k1, k2, k3⟩ := vx_keep h0 e1 hS hA hf hL hF
    obtain ⟨t2, a1, b1⟩ := kk r u t T'.heap (locs ++ L) e1.symm (by rw [← e2]; exact X'.warmed.alike) hp hb k1 k2 k3 T' rfl X'
    exact ⟨t2, st t2 a1, b1⟩
  · obtain ⟨k1, k2, k3⟩ := vx_keep h0 e1 hS hAX hf hL hF
    obtain ⟨t2, a1, b1⟩ := kx E ce q u t T'.heap (locs ++ L) e1.symm (by rw [← e2]; exact X'.warmed.alike) hp hb k1 k2 k3 (by rw [e1]; exact hce) hcv hcl T' rfl X'
    exact ⟨t2, st.trans a1, b1⟩
theorem vx_calll {S SX : Type} {post : Int64 → S → Prop} {px : SX → Prop} {B : S → State → Prop} {BX : String → SX → State → Prop} {AX : Nat → Prop} (hr : vx_Run p l e R s m args below meth c H locs cells slots mc ms (F0 m pc ls st0) rest (va_Ql post B A1 a) (vx_X px BX AX) free) (hS : va_S A0 H0 H locs) (hA : ∀ q, q < H.size → A1 q → A0 q) (hf : ∀ q, free q → A0 q) (hAX : ∀ q, q < H.size → AX q → A0 q)
    (kx : ∀ (E : String) (ce : Cell) (q9 : Addr) (u : SX) (t : State) (H1 : Heap) (locs1 : List Loc), t.heap = H1 → s.vm.Alike t.vm → px u → BX E u t → H.size ≤ H1.size → (∀ q : Nat, q < H.size → ¬ AX q → H1[q]? = H[q]?) → va_S A0 H0 H1 locs1 → H1[q9]? = some ce → ce.vm = .none → s.vm.findClass E = some ce.cls → vx_W p l e R s m args below meth c H1 locs1 (cells + mc) (slots + ms) Q (F0 m pc ls rest) q9)
    (kk : ∀ (r : Int64) (u : S) (t : State) (H1 : Heap) (locs1 : List Loc), t.heap = H1 → s.vm.Alike t.vm → post r u → B u t → H.size ≤ H1.size → (∀ q : Nat, q < H.size → ¬ A1 q → H1[q]? = H[q]?) → va_S A0 H0 H1 locs1 → W p l e R s m args below meth c H1 locs1 (cells + mc) (slots + ms) Q (F0 m (pc + 3) ls (.long r :: rest))) : W p l e R s m args below meth c H locs cells slots Q (F0 m pc ls st0) := by
  intro T hT X
  rcases hr T hT X with ⟨v, st₀, t, T', L, h0, X', hL, e1, e2, ⟨⟨r, u, hv, hp, hb⟩, hF⟩, st⟩ | ⟨q, st₀, t, T', L, E, ce, h0, X', hL, e1, e2, ⟨u, hp, hb, hF⟩, hce, hcv, hcl, st⟩
  · cases hv
    obtain ⟨k1, k2, k3⟩ := vx_keep h0 e1 hS hA hf hL hF
    obtain ⟨t2, a1, b1⟩ := kk r u t T'.heap (locs ++ L) e1.symm (by rw [← e2]; exact X'.warmed.alike) hp hb k1 k2 k3 T' rfl X'
    exact ⟨t2, st t2 a1, b1⟩
  · obtain ⟨k1, k2, k3⟩ := vx_keep h0 e1 hS hAX hf hL hF
    obtain ⟨t2, a1, b1⟩ := kx E ce q u t T'.heap (locs ++ L) e1.symm (by rw [← e2]; exact X'.warmed.alike) hp hb k1 k2 k3 (by rw [e1]; exact hce) hcv hcl T' rfl X'
    exact ⟨t2, st.trans a1, b1⟩
theorem vx_callf {S SX : Type} {post : UInt32 → S → Prop} {px : SX → Prop} {B : S → State → Prop} {BX : String → SX → State → Prop} {AX : Nat → Prop} (hr : vx_Run p l e R s m args below meth c H locs cells slots mc ms (F0 m pc ls st0) rest (va_Qf post B A1 a) (vx_X px BX AX) free) (hS : va_S A0 H0 H locs) (hA : ∀ q, q < H.size → A1 q → A0 q) (hf : ∀ q, free q → A0 q) (hAX : ∀ q, q < H.size → AX q → A0 q)
    (kx : ∀ (E : String) (ce : Cell) (q9 : Addr) (u : SX) (t : State) (H1 : Heap) (locs1 : List Loc), t.heap = H1 → s.vm.Alike t.vm → px u → BX E u t → H.size ≤ H1.size → (∀ q : Nat, q < H.size → ¬ AX q → H1[q]? = H[q]?) → va_S A0 H0 H1 locs1 → H1[q9]? = some ce → ce.vm = .none → s.vm.findClass E = some ce.cls → vx_W p l e R s m args below meth c H1 locs1 (cells + mc) (slots + ms) Q (F0 m pc ls rest) q9)
    (kk : ∀ (r : UInt32) (u : S) (t : State) (H1 : Heap) (locs1 : List Loc), t.heap = H1 → s.vm.Alike t.vm → post r u → B u t → H.size ≤ H1.size → (∀ q : Nat, q < H.size → ¬ A1 q → H1[q]? = H[q]?) → va_S A0 H0 H1 locs1 → W p l e R s m args below meth c H1 locs1 (cells + mc) (slots + ms) Q (F0 m (pc + 3) ls (.float r :: rest))) : W p l e R s m args below meth c H locs cells slots Q (F0 m pc ls st0) := by
  intro T hT X
  rcases hr T hT X with ⟨v, st₀, t, T', L, h0, X', hL, e1, e2, ⟨⟨r, u, hv, hp, hb⟩, hF⟩, st⟩ | ⟨q, st₀, t, T', L, E, ce, h0, X', hL, e1, e2, ⟨u, hp, hb, hF⟩, hce, hcv, hcl, st⟩
  · cases hv
    obtain ⟨k1, k2, k3⟩ := vx_keep h0 e1 hS hA hf hL hF
    obtain ⟨t2, a1, b1⟩ := kk r u t T'.heap (locs ++ L) e1.symm (by rw [← e2]; exact X'.warmed.alike) hp hb k1 k2 k3 T' rfl X'
    exact ⟨t2, st t2 a1, b1⟩
  · obtain ⟨k1, k2, k3⟩ := vx_keep h0 e1 hS hAX hf hL hF
    obtain ⟨t2, a1, b1⟩ := kx E ce q u t T'.heap (locs ++ L) e1.symm (by rw [← e2]; exact X'.warmed.alike) hp hb k1 k2 k3 (by rw [e1]; exact hce) hcv hcl T' rfl X'
    exact ⟨t2, st.trans a1, b1⟩
theorem vx_calld {S SX : Type} {post : UInt64 → S → Prop} {px : SX → Prop} {B : S → State → Prop} {BX : String → SX → State → Prop} {AX : Nat → Prop} (hr : vx_Run p l e R s m args below meth c H locs cells slots mc ms (F0 m pc ls st0) rest (va_Qd post B A1 a) (vx_X px BX AX) free) (hS : va_S A0 H0 H locs) (hA : ∀ q, q < H.size → A1 q → A0 q) (hf : ∀ q, free q → A0 q) (hAX : ∀ q, q < H.size → AX q → A0 q)
    (kx : ∀ (E : String) (ce : Cell) (q9 : Addr) (u : SX) (t : State) (H1 : Heap) (locs1 : List Loc), t.heap = H1 → s.vm.Alike t.vm → px u → BX E u t → H.size ≤ H1.size → (∀ q : Nat, q < H.size → ¬ AX q → H1[q]? = H[q]?) → va_S A0 H0 H1 locs1 → H1[q9]? = some ce → ce.vm = .none → s.vm.findClass E = some ce.cls → vx_W p l e R s m args below meth c H1 locs1 (cells + mc) (slots + ms) Q (F0 m pc ls rest) q9)
    (kk : ∀ (r : UInt64) (u : S) (t : State) (H1 : Heap) (locs1 : List Loc), t.heap = H1 → s.vm.Alike t.vm → post r u → B u t → H.size ≤ H1.size → (∀ q : Nat, q < H.size → ¬ A1 q → H1[q]? = H[q]?) → va_S A0 H0 H1 locs1 → W p l e R s m args below meth c H1 locs1 (cells + mc) (slots + ms) Q (F0 m (pc + 3) ls (.double r :: rest))) : W p l e R s m args below meth c H locs cells slots Q (F0 m pc ls st0) := by
  intro T hT X
  rcases hr T hT X with ⟨v, st₀, t, T', L, h0, X', hL, e1, e2, ⟨⟨r, u, hv, hp, hb⟩, hF⟩, st⟩ | ⟨q, st₀, t, T', L, E, ce, h0, X', hL, e1, e2, ⟨u, hp, hb, hF⟩, hce, hcv, hcl, st⟩
  · cases hv
    obtain ⟨k1, k2, k3⟩ := vx_keep h0 e1 hS hA hf hL hF
    obtain ⟨t2, a1, b1⟩ := kk r u t T'.heap (locs ++ L) e1.symm (by rw [← e2]; exact X'.warmed.alike) hp hb k1 k2 k3 T' rfl X'
    exact ⟨t2, st t2 a1, b1⟩
  · obtain ⟨k1, k2, k3⟩ := vx_keep h0 e1 hS hAX hf hL hF
    obtain ⟨t2, a1, b1⟩ := kx E ce q u t T'.heap (locs ++ L) e1.symm (by rw [← e2]; exact X'.warmed.alike) hp hb k1 k2 k3 (by rw [e1]; exact hce) hcv hcl T' rfl X'
    exact ⟨t2, st.trans a1, b1⟩
theorem vx_callv {S SX : Type} {post : S → Prop} {px : SX → Prop} {B : S → State → Prop} {BX : String → SX → State → Prop} {AX : Nat → Prop} (hr : vx_Run p l e R s m args below meth c H locs cells slots mc ms (F0 m pc ls st0) rest (va_Qv post B A1 a) (vx_X px BX AX) free) (hS : va_S A0 H0 H locs) (hA : ∀ q, q < H.size → A1 q → A0 q) (hf : ∀ q, free q → A0 q) (hAX : ∀ q, q < H.size → AX q → A0 q)
    (kx : ∀ (E : String) (ce : Cell) (q9 : Addr) (u : SX) (t : State) (H1 : Heap) (locs1 : List Loc), t.heap = H1 → s.vm.Alike t.vm → px u → BX E u t → H.size ≤ H1.size → (∀ q : Nat, q < H.size → ¬ AX q → H1[q]? = H[q]?) → va_S A0 H0 H1 locs1 → H1[q9]? = some ce → ce.vm = .none → s.vm.findClass E = some ce.cls → vx_W p l e R s m args below meth c H1 locs1 (cells + mc) (slots + ms) Q (F0 m pc ls rest) q9)
    (kk : ∀ (u : S) (t : State) (H1 : Heap) (locs1 : List Loc), t.heap = H1 → s.vm.Alike t.vm → post u → B u t → H.size ≤ H1.size → (∀ q : Nat, q < H.size → ¬ A1 q → H1[q]? = H[q]?) → va_S A0 H0 H1 locs1 → W p l e R s m args below meth c H1 locs1 (cells + mc) (slots + ms) Q (F0 m (pc + 3) ls (rest))) : W p l e R s m args below meth c H locs cells slots Q (F0 m pc ls st0) := by
  intro T hT X
  rcases hr T hT X with ⟨v, st₀, t, T', L, h0, X', hL, e1, e2, ⟨⟨u, hv, hp, hb⟩, hF⟩, st⟩ | ⟨q, st₀, t, T', L, E, ce, h0, X', hL, e1, e2, ⟨u, hp, hb, hF⟩, hce, hcv, hcl, st⟩
  · cases hv
    obtain ⟨k1, k2, k3⟩ := vx_keep h0 e1 hS hA hf hL hF
    obtain ⟨t2, a1, b1⟩ := kk u t T'.heap (locs ++ L) e1.symm (by rw [← e2]; exact X'.warmed.alike) hp hb k1 k2 k3 T' rfl X'
    exact ⟨t2, st t2 a1, b1⟩
  · obtain ⟨k1, k2, k3⟩ := vx_keep h0 e1 hS hAX hf hL hF
    obtain ⟨t2, a1, b1⟩ := kx E ce q u t T'.heap (locs ++ L) e1.symm (by rw [← e2]; exact X'.warmed.alike) hp hb k1 k2 k3 (by rw [e1]; exact hce) hcv hcl T' rfl X'
    exact ⟨t2, st.trans a1, b1⟩
/-- caught by the row x of this method's table; the rows ahead don't take it -/
theorem vx_catch {own name : String} {E : String} {ce : Cell} {q : Addr} (hown : s.vm.findClass own = some m.cls) (pre : List ExceptionTableEntry) (x : ExceptionTableEntry) (suf : List ExceptionTableEntry) (hsplit : c.exceptionTable.toList = pre ++ x :: suf)
    (hpass : ∀ z ∈ pre, covers z pc = false ∨ (z.catchType ≠ 0 ∧ ∃ nm : String, (Cond.classLink own z.catchType nm).before args s = true ∧ va_Nc E nm s)) (hx : covers x pc = true) (h0 : x.catchType ≠ 0)
    (hlink : (Cond.classLink own x.catchType name).before args s = true) (hcast : (Cond.castable E name).before args s = true) (hcell : H[q]? = some ce) (hv : ce.vm = .none) (hcl : s.vm.findClass E = some ce.cls)
    (kk : W p l e R s m args below meth c H locs cells slots Q (F0 m x.handlerPc ls [.ref q])) : vx_W p l e R s m args below meth c H locs cells slots Q (F0 m pc ls rest) q := by
  intro T hT X
  have hpl : e.platform.magicAccessors = ({} : Platform).magicAccessors := by rw [X.admits.platform]
  obtain ⟨c3, c4, hc3, hc4, hasg⟩ := Cond.castable_spec hcast
  cases Option.some.inj (hc3.symm.trans hcl)
  obtain ⟨c5, hc5, hcl5⟩ := Cond.classLink_spec hown hlink e.platform hpl
  cases Option.some.inj (hc4.symm.trans hc5)
  obtain ⟨vm', X', st⟩ := X.thenCaughtThrough q (g := F0 m pc ls rest) rfl (Steps.refl _) (by rw [hT]; exact hcell) (by rw [hv]; rfl) (by obtain ⟨k9, h9, -⟩ := Vm.findClass_spec hcl; exact ⟨k9, h9⟩) pre x suf hsplit
    (fun z hz => by
      rcases hpass z hz with h | ⟨hz0, nm, hl1, hn1⟩
      · exact Or.inl h
      · obtain ⟨c6, hc6, hcl6⟩ := Cond.classLink_spec hown hl1 e.platform hpl
        obtain ⟨a8, b8, h1, h2, h3⟩ := hn1
        cases Option.some.inj (h1.symm.trans hcl)
        cases Option.some.inj (h2.symm.trans hc6)
        exact Or.inr ⟨hz0, _, hcl6, h3⟩) hx (Or.inr ⟨h0, c4, hcl5, hasg⟩)
  obtain ⟨t, a1, b1⟩ := kk (T.setVm vm') hT X'
  exact ⟨t, st.trans a1, b1⟩
end Rows
section Ends
variable {p : Program} {l : Launch} {e : Env} {R : Room} {s : State} {m : MethodId} {args : Array Value} {below : List Frame} {meth : Method} {c : Code} {H : Heap} {locs : List Loc} {cells slots : Nat} {Q : State → Prop}
variable {mc ms : Nat} {free : Addr → Prop} {A0 A1 : Nat → Prop} {H0 : Heap} {a : Array Value} {ls : Array Slot} {st0 rest : List Value}
variable {Qc : Array Value → State → Outcome → State → Prop} {XC : String → State → State → Prop}
/-- what a body that may throw owes at its end -/
def vx_MQ (below : List Frame) (Qc : Array Value → State → Outcome → State → Prop) (XC : String → State → State → Prop) (a : Array Value) (s : State) (mc ms : Nat) (free : Addr → Prop) : State → Prop := fun t =>
  ∃ o, t.status = .running ∧ Ended t below o ∧ vx_Q Qc XC mc ms free a s o t
theorem vx_ret {g : JFrame} {mc ms : Nat} (k : W p l e R s m args below meth c H locs cells slots (MQ below Qc args s mc ms free) g) : W p l e R s m args below meth c H locs cells slots (vx_MQ below Qc XC args s mc ms free) g := by
  intro T hT X
  obtain ⟨t, a1, o, b1, b2, b3, b4⟩ := k T hT X
  exact ⟨t, a1, o, b1, b2, Or.inl ⟨b3, b4⟩⟩
/-- not caught here: it goes on to the caller -/
theorem vx_widen {g : JFrame} {q : Addr} {k n : Nat} (h1 : cells ≤ k) (h2 : slots ≤ n) (kk : vx_W p l e R s m args below meth c H locs k n Q g q) : vx_W p l e R s m args below meth c H locs cells slots Q g q := fun T hT X => kk T hT (stand_widen X h1 h2)
theorem vx_out {pc : Nat} {E : String} {ce : Cell} {q : Addr} {mc ms : Nat} (hout : ∀ x ∈ c.exceptionTable.toList, covers x pc = false) (hlocks : meth.locks = false) (hcell : H[q]? = some ce) (hv : ce.vm = .none) (hcl : s.vm.findClass E = some ce.cls)
    (hx : ∀ t : State, t.heap = H → s.vm.Alike t.vm → XC E s t) (hf : ∀ z ∈ locs, free z.base) (hc : cells ≤ mc) (hs : slots ≤ ms) :
    vx_W p l e R s m args below meth c H locs cells slots (vx_MQ below Qc XC args s mc ms free) (F0 m pc ls rest) q := by
  intro T hT X
  obtain ⟨st1, hrun, hend, hW, hsm⟩ := X.leaveThrown q (g := F0 m pc ls rest) rfl rfl rfl hout hlocks
  have hcell9 : (T.setFrames (.throwing q :: below)).heap[q]? = some ce := by
    show T.heap[q]? = some ce
    rw [hT]; exact hcell
  exact ⟨_, st1, .threw q, hrun, hend, Or.inr ⟨q, rfl, E, ce, locs, hx _ hT hW.alike, hcell9, hv, hcl, hW, hsm.mono hc hs, hf⟩⟩
theorem vx_frame {U : State} {k n : Nat} (h : s.sameButNew ({ U with vm := s.vm } : State) locs k n) : s.heap.size ≤ U.heap.size ∧ ∀ q : Nat, q < s.heap.size → (∀ z ∈ locs, z.base ≠ q) → U.heap[q]? = s.heap[q]? := by
  obtain ⟨-, h2, -, -, -, h6⟩ := h
  refine ⟨h2, fun q hq hz => ?_⟩
  obtain ⟨c9, e1, e2, e3, e4⟩ := h6 q _ (Array.getElem?_eq_getElem hq)
  have hs : c9.slots = (s.heap[q]).slots := Array.ext_getElem? fun i => e4 i fun hm => hz _ hm rfl
  have h9 : c9 = s.heap[q] := by
    rw [hs] at e2
    exact e2
  have e5 : U.heap[q]? = some c9 := e1
  rw [e5, h9, Array.getElem?_eq_getElem hq]
/-- the words of a throw but the four that speak of the heap -/
def vx_no (w : Cond) : Bool := decide (w ≠ .isRef (.static Bundle.tN "UNASSIGNED_STACK" Bundle.steD)) && decide (w ≠ .isRef (.static Bundle.tN "SUPPRESSED_SENTINEL" Bundle.listD)) && decide (w ≠ .laysStatic Bundle.tN "UNASSIGNED_STACK" Bundle.steD) && decide (w ≠ .laysStatic Bundle.tN "SUPPRESSED_SENTINEL" Bundle.listD)
def vx_at0 (own : String) (ic : Nat) (X : String) (names : List String) : List Cond := (Bundle.ownAtoms0 own ic X names).filter vx_no
def vx_atS (own : String) (ic : Nat) (X : String) (names : List String) : List Cond := (Bundle.ownAtoms own ic X names).filter vx_no
/-- a word that the tables alone decide, or a good one -/
def vx_ot (w : Cond) : Bool := w.onTables || goodWord w
theorem vx_ot_at {args a' : Array Value} {s U : State} {w : Cond} (hW : s.WarmedH U.vm) (hvm : s.vm = U.vm) (hg : vx_ot w = true) (h : w.before args s = true) : w.before a' U = true := by
  simp only [vx_ot, Bool.or_eq_true] at hg
  rcases hg with hg | hg
  · exact va_tabs hg hvm h
  · exact word_at hW (good_of_word hg) h
/-- a list's words: the good ones out of the method's own list, the others by premises of their own -/
theorem vx_hat {args : Array Value} {s : State} {L B : List Cond} (h1 : ∀ w ∈ L.filter goodWord, w.before args s = true) (h2 : ∀ w ∈ L.filter (fun w => !goodWord w), w ∈ B) (h3 : ∀ w ∈ B, w.before args s = true) : ∀ w ∈ L, w.before args s = true := by
  intro w hw
  by_cases g : goodWord w = true
  · exact h1 w (List.mem_filter.mpr ⟨hw, g⟩)
  · refine h3 w (h2 w (List.mem_filter.mpr ⟨hw, ?_⟩))
    show (!goodWord w) = true
    cases hgw : goodWord w
    · rfl
    · exact absurd hgw g
theorem vx_c {args : Array Value} {s : State} {w : Cond} {B : List Cond} (h : w.before args s = true) (t : ∀ w ∈ B, w.before args s = true) : ∀ w' ∈ w :: B, w'.before args s = true := fun w' h' => (List.mem_cons.mp h').elim (fun e => by rw [e]; exact h) (t w')
theorem vx_n {args : Array Value} {s : State} : ∀ w ∈ ([] : List Cond), w.before args s = true := fun _ h => nomatch h
theorem vx_own {args : Array Value} {s : State} {L : List Cond} (h1 : ∀ w ∈ L.filter vx_no, w.before args s = true)
    (hU : (Cond.isRef (.static Bundle.tN "UNASSIGNED_STACK" Bundle.steD)).before args s = true) (hN : (Cond.isRef (.static Bundle.tN "SUPPRESSED_SENTINEL" Bundle.listD)).before args s = true)
    (lU : (Cond.laysStatic Bundle.tN "UNASSIGNED_STACK" Bundle.steD).before args s = true) (lN : (Cond.laysStatic Bundle.tN "SUPPRESSED_SENTINEL" Bundle.listD).before args s = true) : ∀ w ∈ L, w.before args s = true := by
  intro w hw
  by_cases e1 : w = .isRef (.static Bundle.tN "UNASSIGNED_STACK" Bundle.steD)
  · rw [e1]; exact hU
  · by_cases e2 : w = .isRef (.static Bundle.tN "SUPPRESSED_SENTINEL" Bundle.listD)
    · rw [e2]; exact hN
    · by_cases e3 : w = .laysStatic Bundle.tN "UNASSIGNED_STACK" Bundle.steD
      · rw [e3]; exact lU
      · by_cases e4 : w = .laysStatic Bundle.tN "SUPPRESSED_SENTINEL" Bundle.listD
        · rw [e4]; exact lN
        · exact h1 w (List.mem_filter.mpr ⟨hw, by unfold vx_no; rw [decide_eq_true e1, decide_eq_true e2, decide_eq_true e3, decide_eq_true e4]; rfl⟩)
/-- where a static field lies, its class's statics cell in H -/
def vx_L (C n d : String) (A : Nat → Prop) (U : State) (H : Heap) : Prop := ∃ (c : ClassId) (k : Class) (i : Nat) (f : Field) (a : Nat) (cell : Cell), U.vm.findClass C = some c ∧ U.fieldFound? C n d = some (c, k, i, f) ∧ f.isStatic = true ∧ k.statics = some a ∧ H[a]? = some cell ∧ cell.vm.isStatics = true ∧ cell.cls = c ∧ f.slot < cell.slots.size ∧ k.staticTypes[f.slot]? = some f.type ∧ ¬ A a
theorem vx_L.moved {C n d : String} {A : Nat → Prop} {u U : State} {H : Heap} (hvm : u.vm.Alike U.vm) (h : vx_L C n d A u H) : vx_L C n d A U H := by
  obtain ⟨c, k, i, f, a, cell, h1, h2, h3, h4, h5, h6, h7, h8, h9, h10⟩ := h
  obtain ⟨k', hi', he⟩ := State.fieldFound?_setVm hvm h2
  exact ⟨c, k', i, f, a, cell, by rw [hvm.findClass]; exact h1, hi', h3, by rw [he]; exact h4, h5, h6, h7, h8, by rw [he]; exact h9, h10⟩
theorem vx_L.kept {C n d : String} {A : Nat → Prop} {U : State} {H H1 : Heap} (h : vx_L C n d A U H) (hq : ∀ a : Nat, a < H.size → ¬ A a → H1[a]? = H[a]?) : vx_L C n d A U H1 := by
  obtain ⟨c, k, i, f, a, cell, h1, h2, h3, h4, h5, h6, h7, h8, h9, h10⟩ := h
  exact ⟨c, k, i, f, a, cell, h1, h2, h3, h4, by rw [hq a (Array.getElem?_eq_some_iff.mp h5).1 h10]; exact h5, h6, h7, h8, h9, h10⟩
theorem vx_L.narrow {C n d : String} {A B : Nat → Prop} {U : State} {H : Heap} (h : vx_L C n d A U H) (hAB : ∀ q, B q → A q) : vx_L C n d B U H := by
  obtain ⟨c, k, i, f, a, cell, h1, h2, h3, h4, h5, h6, h7, h8, h9, h10⟩ := h
  exact ⟨c, k, i, f, a, cell, h1, h2, h3, h4, h5, h6, h7, h8, h9, fun z => h10 (hAB _ z)⟩
theorem vx_L.word {C n d : String} {A : Nat → Prop} {s : State} {args : Array Value} (h : vx_L C n d A s s.heap) : (Cond.laysStatic C n d).before args s = true := by
  obtain ⟨c, k, i, f, a, cell, h1, h2, h3, h4, h5, h6, h7, h8, h9, -⟩ := h
  show (Cond.laysStatic C n d).holds args s none s [] = true
  exact Cond.laysStatic_of h1 h2 h3 h4 h5 h6 h7 h8 h9
/-- .. and what it holds: null or some reference -/
def vx_Zq (C n d : String) (A : Nat → Prop) (U : State) (H : Heap) : Prop := va_Zq C n d A U H ∧ vx_L C n d A U H
theorem vx_Zq.moved {C n d : String} {A : Nat → Prop} {u U : State} {H : Heap} (hvm : u.vm.Alike U.vm) (h : vx_Zq C n d A u H) : vx_Zq C n d A U H := ⟨va_Zq.moved hvm h.1, vx_L.moved hvm h.2⟩
theorem vx_Zq.kept {C n d : String} {A : Nat → Prop} {U : State} {H H1 : Heap} (h : vx_Zq C n d A U H) (hq : ∀ a : Nat, a < H.size → ¬ A a → H1[a]? = H[a]?) : vx_Zq C n d A U H1 := ⟨va_Zq.kept h.1 hq, vx_L.kept h.2 hq⟩
theorem vx_Zq.narrow {C n d : String} {A B : Nat → Prop} {U : State} {H : Heap} (h : vx_Zq C n d A U H) (hAB : ∀ q, B q → A q) : vx_Zq C n d B U H := ⟨va_Zq.narrow h.1 hAB, vx_L.narrow h.2 hAB⟩
theorem vx_Zqof {args : Array Value} {s : State} {C n d : String} {A : Nat → Prop} (hl : (Cond.laysStatic C n d).before args s = true) (hini : (Cond.initialized C).before args s = true) (h : (Cond.isRef (.static C n d)).before args s = true) (hA : ∀ a : Nat, a < s.heap.size → ¬ A a) : vx_Zq C n d A s s.heap := by
  refine ⟨va_Zqof hl hini h hA, ?_⟩
  obtain ⟨c, k, i, f, a, cell, h1, h2, h3, h4, h5, h6, h7, h8, h9⟩ := Cond.laysStatic_spec hl
  exact ⟨c, k, i, f, a, cell, h1, h2, h3, h4, h5, h6, h7, h8, h9, hA a (Array.getElem?_eq_some_iff.mp h5).1⟩
theorem vx_isRef {C n d : String} {v : Value} {A : Nat → Prop} {s : State} {args : Array Value} (h : va_Z C n d v A s s.heap) (hv : v.isRef = true) : (Cond.isRef (.static C n d)).before args s = true := by
  obtain ⟨cf, kf, fi, f, a, cell, h1, h2, h3, h4, h5, h6, h7, -⟩ := h
  have he : (Term.static C n d).eval args s none [] s = some v := by
    simp [Term.eval, State.fieldNamed?, h1, h2, h4, h5, h6, h7]
  simp only [Cond.before, Cond.holds, Cond.value, he]
  cases v <;> simp_all [Value.isRef]
theorem vx_isRefq {C n d : String} {A : Nat → Prop} {s : State} {args : Array Value} (h : va_Zq C n d A s s.heap) : (Cond.isRef (.static C n d)).before args s = true := by
  rcases h with h | ⟨t, h⟩
  · exact vx_isRef h rfl
  · exact vx_isRef h rfl
/-- the same frame, seen from here: as if the method were called anew in this heap -/
theorem vx_rebase {T : State} (X : Stand p l e R s m args below meth c T locs cells slots) {R' : Room} (hf : R'.frames ≤ R.frames) (hl : R'.locals ≤ R.locals) (hc : cells + R'.cells ≤ R.cells) (hs : slots + R'.slots ≤ R.slots) :
    Stand p l e R' ((T.setVm s.vm).setFrames (.invoking m args :: below)) m args below meth c T [] 0 0 := by
  have htop : (T.setVm s.vm).topJava?.isSome := X.here.top
  have hF : ((T.setVm s.vm).setFrames (.invoking m args :: below)).frames = .invoking m args :: below := State.frames_setFrames _ (State.cur_lt_of_top htop)
  obtain ⟨g₀, hg0⟩ := Option.isSome_iff_exists.mp htop
  obtain ⟨r, hr⟩ := State.topJava?_eq_some.mp hg0
  have hl9 : e.platform.stackLimits (T.setVm s.vm).me = e.platform.stackLimits s.me := X.limits
  have hb9 : (T.setVm s.vm).me.stackBytes = s.me.stackBytes := X.bytes
  refine ⟨X.admits, X.cas, X.clock, hF, ?_, X.hears, X.method, X.code, X.here, X.tail, X.warmed, ?_, ?_, ?_⟩
  · have h := X.room
    have hU : ((T.setVm s.vm).setFrames (.invoking m args :: below)).localsInUse = s.localsInUse := by
      rw [State.localsInUse_invoking hF (meth := meth) (c := c) X.method X.code, State.localsInUse_invoking X.frames X.method X.code]
    simp only [State.hasRoom, Bool.and_eq_true, decide_eq_true_eq] at h ⊢
    obtain ⟨⟨⟨⟨h1, h2, h3, h4, h5, h6⟩, h7⟩, h8⟩, h9⟩ := h
    rw [X.frames, List.length_cons] at h2 h3
    have q1 := X.heapSize
    have q2 := X.used
    simp only [hF, hU, List.length_cons, State.stackLimits_setFrames, State.stackBytes_setFrames, hl9, hb9]
    refine ⟨⟨⟨⟨by omega, by omega, by omega, by omega, by omega, h6⟩, ?_⟩, ?_⟩, X.book⟩
    · show T.heap.size + R'.cells ≤ e.platform.maxCells
      omega
    · show T.slotsUsed + R'.slots ≤ e.platform.maxSlots
      omega
  · rw [State.stackLimits_setFrames]; rfl
  · rw [State.stackBytes_setFrames]; rfl
  · refine ⟨?_, Nat.le_refl _, Nat.le_refl _, ?_, ?_, fun a c9 h9 => ⟨c9, h9, rfl, rfl, fun _ _ => rfl⟩⟩
    · obtain ⟨t, ht, -⟩ := State.frames_cons hr
      show T.setVm s.vm = { ((T.setVm s.vm).setFrames (.invoking m args :: below)).setFrames (T.setVm s.vm).frames with heap := T.heap, slotsUsed := T.slotsUsed }
      rw [State.setFrames_setFrames, State.setFrames_self ht]
      rfl
    · show T.slotsUsed = T.slotsUsed + ((T.heap.toList.drop T.heap.size).map (·.slots.size)).sum
      rw [List.drop_eq_nil_of_le (Nat.le_of_eq Array.length_toList)]
      rfl
    · show ((T.heap.toList.drop T.heap.size).map (·.slots.size)).sum ≤ 0
      rw [List.drop_eq_nil_of_le (Nat.le_of_eq Array.length_toList)]
      exact Nat.le_refl _
/-- 'throw new E()': new; dup; invokespecial; athrow -/
theorem vx_throw0 {cc : ByteArray} {pc : Nat} (hexec : p.tables.exec = Jvm.exec) (hb : c.code = cc) (hl : l.stackTraces = false) {own cls : String} {names : List String} {ik ic mc ms : Nat} {A : Nat → Prop}
    (hown : s.vm.findClass own = some m.cls) (hcls : Bundle.fit cls = true) (hnames : ∀ n ∈ names, Bundle.fit n = true)
    (hk : (Cond.classLink own ik cls).before args s = true) (hini : (Cond.initialized cls).before args s = true) (hat : ∀ w ∈ vx_at0 own ic cls names, w.before args s = true)
    (hgood : ∀ w ∈ Cond.classLink own ik cls :: Cond.initialized cls :: vx_at0 own ic cls names, vx_ot w = true)
    (hU : vx_Zq Bundle.tN "UNASSIGNED_STACK" Bundle.steD A s s.heap) (hN : vx_Zq Bundle.tN "SUPPRESSED_SENTINEL" Bundle.listD A s s.heap) (hS : va_S A s.heap H locs) (hsize : ls.size = c.maxLocals)
    (d0 : decode cc pc = .ok (.new ik, 3)) (d3 : decode cc (pc + 3) = .ok (.dup, 1)) (d4 : decode cc (pc + 4) = .ok (.invokespecial ic, 3)) (d7 : decode cc (pc + 7) = .ok (.athrow, 1))
    (hout : ∀ x ∈ c.exceptionTable.toList, covers x (pc + 7) = false)
    (hRframes : names.length + 3 < R.frames) (hRlocals : (rest.map fun v => v.category).sum + (13 * (names.length + 1) + 42) ≤ R.locals) (hRcells : cells + 1 ≤ R.cells) (hRslots : slots + 6 ≤ R.slots) (hlocks : meth.locks = false)
    (hx : ∀ t : State, s.vm.Alike t.vm → H.size ≤ t.heap.size → (∀ q : Nat, q < H.size → t.heap[q]? = H[q]?) → XC cls s t)
    (hf : ∀ z ∈ locs, free z.base) (hc : cells + 1 ≤ mc) (hs : slots + 6 ≤ ms) :
    W p l e R s m args below meth c H locs cells slots (vx_MQ below Qc XC args s mc ms free) (F0 m pc ls rest) := by
  intro T hT X
  have htr : e.platform.stackTraces = false := (show e.platform.stackTraces = l.stackTraces by rw [X.admits.platform]).trans hl
  have Y := vx_rebase X (R' := { frames := R.frames, locals := R.locals, cells := 1, slots := 6 }) (Nat.le_refl _) (Nat.le_refl _) hRcells hRslots
  obtain ⟨s', hA⟩ : ∃ z, z = (T.setVm s.vm).setFrames (.invoking m args :: below) := ⟨_, rfl⟩
  rw [← hA] at Y
  have hvm : s'.vm = s.vm := by rw [hA]; rfl
  have hhp : s'.heap = H := by rw [hA]; exact hT
  have hW0 : s.WarmedH s'.vm := by rw [hvm]; exact State.WarmedH.refl s
  have hat' : ∀ w ∈ vx_at0 own ic cls names, w.before args s' = true := fun w hw => vx_ot_at hW0 hvm.symm (hgood w (List.mem_cons_of_mem _ (List.mem_cons_of_mem _ hw))) (hat w hw)
  have hk' : (Cond.classLink own ik cls).before args s' = true := vx_ot_at hW0 hvm.symm (hgood _ List.mem_cons_self) hk
  have hini' : (Cond.initialized cls).before args s' = true := vx_ot_at hW0 hvm.symm (hgood _ (List.mem_cons_of_mem _ List.mem_cons_self)) hini
  have hU' : vx_Zq Bundle.tN "UNASSIGNED_STACK" Bundle.steD A s' s'.heap := by rw [hhp]; exact vx_Zq.moved hW0.alike (hU.kept hS.2.1)
  have hN' : vx_Zq Bundle.tN "SUPPRESSED_SENTINEL" Bundle.listD A s' s'.heap := by rw [hhp]; exact vx_Zq.moved hW0.alike (hN.kept hS.2.1)
  have h : ∀ w ∈ Bundle.ownAtoms0 own ic cls names, w.before args s' = true := vx_own hat' (vx_isRefq hU'.1) (vx_isRefq hN'.1) hU'.2.word hN'.2.word
  have hown' : s'.vm.findClass own = some m.cls := by rw [hvm]; exact hown
  have hins : (Cond.instantiable cls 6).before args s' = true := h _ (by simp [Bundle.ownAtoms0])
  obtain ⟨vm₁, cX, kX, hfX, hkX, -, -, X₁, st1⟩ := Y.newCold hexec (own := own) (C := cls) (index := ik) (n := 6) hown' hk' hins hini'
    (g := F0 m pc ls rest) rfl (by rw [hb]; exact d0) (Nat.le_refl _) (Nat.le_refl _)
  generalize hT1 : (T.setVm vm₁).pushCell { cls := cX, slots := kX.instanceTypes.map defaultValue, vm := .none } = T1 at X₁ st1
  have hcat : (Value.ref T.heap.size).category = 1 := rfl
  have hcellA : T1.heap[T.heap.size]? = some (freshCell cX kX) := by rw [← hT1]; exact State.heap_pushCell_size _ _
  have d3' : decode c.code (pc + 3) = .ok (.dup, 1) := by rw [hb]; exact d3
  obtain ⟨U, hsteps, hrun, hend, hW, hsame, ce, hce, hO⟩ := X₁.ctorThrow0 hexec htr (own := own) (cls := cls) (names := names) (ic := ic) hown' hcls hnames h (fun x hx => nomatch hx) hfX hkX hcellA (by rw [hhp, hT]; exact Nat.le_refl _)
    (g := { method := m, pc := pc + 4, locals := ls, stack := .ref T.heap.size :: .ref T.heap.size :: rest, locked := none }) rfl hsize rfl rfl (rest := rest) rfl
    (by rw [hb]; exact d4) (by rw [hb]; exact d7) hout hRframes (by simp only [List.map_cons, List.sum_cons, hcat]; omega) hlocks
  obtain ⟨f1, f2⟩ := vx_frame hsame
  rw [hhp] at f1 f2
  have hWs : s.WarmedH U.vm := State.WarmedH.trans hW0 hW
  have hcl : s.vm.findClass cls = some ce.cls := by
    have h9 := hO.cls
    rw [hvm] at h9
    exact h9
  have hall : s.sameButNew ({ U with vm := s.vm } : State) locs mc ms := by
    subst hA
    obtain ⟨e1, e2⟩ := hsame
    rw [State.setFrames_setFrames] at e1
    have h2 : (T.setVm s.vm).sameButNew ({ U with vm := s.vm } : State) [] (0 + 1) (0 + 6) := ⟨e1, e2⟩
    have h3 := X.same.trans h2
    rw [List.append_nil] at h3
    exact h3.mono hc hs
  refine ⟨U, ?_, .threw T.heap.size, hrun, hend, Or.inr ⟨T.heap.size, rfl, cls, ce, locs, hx U hWs.alike f1 (fun q hq => f2 q hq (fun z hz => nomatch hz)), hce, hO.vm, hcl, hWs, hall, hf⟩⟩
  refine st1 _ ?_
  show Steps p.tables e below (T1.setTop { method := m, pc := pc + 3, locals := ls, stack := .ref T.heap.size :: rest, locked := none }) _
  jvm_step X₁.here [X₁.here.top, hexec, d3', Value.category]
  exact hsteps
/-- 'throw new E("text")': new; dup; ldc; invokespecial; athrow -/
theorem vx_throwS {cc : ByteArray} {pc : Nat} (hexec : p.tables.exec = Jvm.exec) (hb : c.code = cc) (hl : l.stackTraces = false) {own cls text : String} {names : List String} {ik is ic mc ms sa : Nat} {A : Nat → Prop}
    (hown : s.vm.findClass own = some m.cls) (hcls : Bundle.fit cls = true) (hnames : ∀ n ∈ names, Bundle.fit n = true)
    (hk : (Cond.classLink own ik cls).before args s = true) (hini : (Cond.initialized cls).before args s = true) (hstr : vk_R own is text sa s) (hat : ∀ w ∈ vx_atS own ic cls names, w.before args s = true)
    (hgood : ∀ w ∈ Cond.classLink own ik cls :: Cond.initialized cls :: vx_atS own ic cls names, vx_ot w = true)
    (hU : vx_Zq Bundle.tN "UNASSIGNED_STACK" Bundle.steD A s s.heap) (hN : vx_Zq Bundle.tN "SUPPRESSED_SENTINEL" Bundle.listD A s s.heap) (hS : va_S A s.heap H locs) (hsize : ls.size = c.maxLocals)
    (d0 : decode cc pc = .ok (.new ik, 3)) (d3 : decode cc (pc + 3) = .ok (.dup, 1)) (d4 : decode cc (pc + 4) = .ok (.ldc is, 2)) (d6 : decode cc (pc + 6) = .ok (.invokespecial ic, 3)) (d9 : decode cc (pc + 9) = .ok (.athrow, 1))
    (hout : ∀ x ∈ c.exceptionTable.toList, covers x (pc + 9) = false)
    (hRframes : names.length + 3 < R.frames) (hRlocals : (rest.map fun v => v.category).sum + (13 * (names.length + 1) + 43) ≤ R.locals) (hRcells : cells + 1 ≤ R.cells) (hRslots : slots + 6 ≤ R.slots) (hlocks : meth.locks = false)
    (hx : ∀ t : State, s.vm.Alike t.vm → H.size ≤ t.heap.size → (∀ q : Nat, q < H.size → t.heap[q]? = H[q]?) → XC cls s t)
    (hf : ∀ z ∈ locs, free z.base) (hc : cells + 1 ≤ mc) (hs : slots + 6 ≤ ms) :
    W p l e R s m args below meth c H locs cells slots (vx_MQ below Qc XC args s mc ms free) (F0 m pc ls rest) := by
  intro T hT X
  have htr : e.platform.stackTraces = false := (show e.platform.stackTraces = l.stackTraces by rw [X.admits.platform]).trans hl
  have Y := vx_rebase X (R' := { frames := R.frames, locals := R.locals, cells := 1, slots := 6 }) (Nat.le_refl _) (Nat.le_refl _) hRcells hRslots
  obtain ⟨s', hA⟩ : ∃ z, z = (T.setVm s.vm).setFrames (.invoking m args :: below) := ⟨_, rfl⟩
  rw [← hA] at Y
  have hvm : s'.vm = s.vm := by rw [hA]; rfl
  have hhp : s'.heap = H := by rw [hA]; exact hT
  have hW0 : s.WarmedH s'.vm := by rw [hvm]; exact State.WarmedH.refl s
  have hat' : ∀ w ∈ vx_atS own ic cls names, w.before args s' = true := fun w hw => vx_ot_at hW0 hvm.symm (hgood w (List.mem_cons_of_mem _ (List.mem_cons_of_mem _ hw))) (hat w hw)
  have hk' : (Cond.classLink own ik cls).before args s' = true := vx_ot_at hW0 hvm.symm (hgood _ List.mem_cons_self) hk
  have hini' : (Cond.initialized cls).before args s' = true := vx_ot_at hW0 hvm.symm (hgood _ (List.mem_cons_of_mem _ List.mem_cons_self)) hini
  have hU' : vx_Zq Bundle.tN "UNASSIGNED_STACK" Bundle.steD A s' s'.heap := by rw [hhp]; exact vx_Zq.moved hW0.alike (hU.kept hS.2.1)
  have hN' : vx_Zq Bundle.tN "SUPPRESSED_SENTINEL" Bundle.listD A s' s'.heap := by rw [hhp]; exact vx_Zq.moved hW0.alike (hN.kept hS.2.1)
  have h : ∀ w ∈ Bundle.ownAtoms own ic cls names, w.before args s' = true := vx_own hat' (vx_isRefq hU'.1) (vx_isRefq hN'.1) hU'.2.word hN'.2.word
  have hown' : s'.vm.findClass own = some m.cls := by rw [hvm]; exact hown
  have hins : (Cond.instantiable cls 6).before args s' = true := h _ (by simp [Bundle.ownAtoms])
  obtain ⟨vm₁, cX, kX, hfX, hkX, -, -, X₁, st1⟩ := Y.newCold hexec (own := own) (C := cls) (index := ik) (n := 6) hown' hk' hins hini'
    (g := F0 m pc ls rest) rfl (by rw [hb]; exact d0) (Nat.le_refl _) (Nat.le_refl _)
  generalize hT1 : (T.setVm vm₁).pushCell { cls := cX, slots := kX.instanceTypes.map defaultValue, vm := .none } = T1 at X₁ st1
  have hcat : (Value.ref T.heap.size).category = 1 := rfl
  have hcellA : T1.heap[T.heap.size]? = some (freshCell cX kX) := by rw [← hT1]; exact State.heap_pushCell_size _ _
  have d3' : decode c.code (pc + 3) = .ok (.dup, 1) := by rw [hb]; exact d3
  have d4' : decode c.code (pc + 4) = .ok (.ldc is, 2) := by rw [hb]; exact d4
  have hstr' : vk_R own is text sa s' := vk_R.warm hW0 hstr
  obtain ⟨U, hsteps, hrun, hend, hW, hsame, ce, hce, hO⟩ := X₁.ctorThrowS hexec htr (own := own) (cls := cls) (names := names) (ic := ic) hown' hcls hnames h (fun x hx => nomatch hx) hfX hkX hcellA (by rw [hhp, hT]; exact Nat.le_refl _) (msg := .ref sa) rfl
    (g := { method := m, pc := pc + 6, locals := ls, stack := .ref sa :: .ref T.heap.size :: .ref T.heap.size :: rest, locked := none }) rfl hsize rfl rfl (rest := rest) rfl
    (by rw [hb]; exact d6) (by rw [hb]; exact d9) hout hRframes (by simp only [List.map_cons, List.sum_cons, hcat]; omega) hlocks
  obtain ⟨f1, f2⟩ := vx_frame hsame
  rw [hhp] at f1 f2
  have hWs : s.WarmedH U.vm := State.WarmedH.trans hW0 hW
  have hcl : s.vm.findClass cls = some ce.cls := by
    have h9 := hO.cls
    rw [hvm] at h9
    exact h9
  have hall : s.sameButNew ({ U with vm := s.vm } : State) locs mc ms := by
    subst hA
    obtain ⟨e1, e2⟩ := hsame
    rw [State.setFrames_setFrames] at e1
    have h2 : (T.setVm s.vm).sameButNew ({ U with vm := s.vm } : State) [] (0 + 1) (0 + 6) := ⟨e1, e2⟩
    have h3 := X.same.trans h2
    rw [List.append_nil] at h3
    exact h3.mono hc hs
  refine ⟨U, ?_, .threw T.heap.size, hrun, hend, Or.inr ⟨T.heap.size, rfl, cls, ce, locs, hx U hWs.alike f1 (fun q hq => f2 q hq (fun z hz => nomatch hz)), hce, hO.vm, hcl, hWs, hall, hf⟩⟩
  refine st1 _ ?_
  show Steps p.tables e below (T1.setTop { method := m, pc := pc + 3, locals := ls, stack := .ref T.heap.size :: rest, locked := none }) _
  jvm_step X₁.here [X₁.here.top, hexec, d3', Value.category]
  exact X₁.ldcString hexec (own := own) (text := text) (index := is) (a := sa) hown' hstr'.1 hstr'.2
    (g := { method := m, pc := pc + 4, locals := ls, stack := .ref T.heap.size :: .ref T.heap.size :: rest, locked := none }) rfl d4' _ hsteps
/-- 'throw new E("text")', the text by a wide index -/
theorem vx_throwSW {cc : ByteArray} {pc : Nat} (hexec : p.tables.exec = Jvm.exec) (hb : c.code = cc) (hl : l.stackTraces = false) {own cls text : String} {names : List String} {ik is ic mc ms sa : Nat} {A : Nat → Prop}
    (hown : s.vm.findClass own = some m.cls) (hcls : Bundle.fit cls = true) (hnames : ∀ n ∈ names, Bundle.fit n = true)
    (hk : (Cond.classLink own ik cls).before args s = true) (hini : (Cond.initialized cls).before args s = true) (hstr : vk_R own is text sa s) (hat : ∀ w ∈ vx_atS own ic cls names, w.before args s = true)
    (hgood : ∀ w ∈ Cond.classLink own ik cls :: Cond.initialized cls :: vx_atS own ic cls names, vx_ot w = true)
    (hU : vx_Zq Bundle.tN "UNASSIGNED_STACK" Bundle.steD A s s.heap) (hN : vx_Zq Bundle.tN "SUPPRESSED_SENTINEL" Bundle.listD A s s.heap) (hS : va_S A s.heap H locs) (hsize : ls.size = c.maxLocals)
    (d0 : decode cc pc = .ok (.new ik, 3)) (d3 : decode cc (pc + 3) = .ok (.dup, 1)) (d4 : decode cc (pc + 4) = .ok (.ldc_w is, 3)) (d7 : decode cc (pc + 7) = .ok (.invokespecial ic, 3)) (d10 : decode cc (pc + 10) = .ok (.athrow, 1))
    (hout : ∀ x ∈ c.exceptionTable.toList, covers x (pc + 10) = false)
    (hRframes : names.length + 3 < R.frames) (hRlocals : (rest.map fun v => v.category).sum + (13 * (names.length + 1) + 43) ≤ R.locals) (hRcells : cells + 1 ≤ R.cells) (hRslots : slots + 6 ≤ R.slots) (hlocks : meth.locks = false)
    (hx : ∀ t : State, s.vm.Alike t.vm → H.size ≤ t.heap.size → (∀ q : Nat, q < H.size → t.heap[q]? = H[q]?) → XC cls s t)
    (hf : ∀ z ∈ locs, free z.base) (hc : cells + 1 ≤ mc) (hs : slots + 6 ≤ ms) :
    W p l e R s m args below meth c H locs cells slots (vx_MQ below Qc XC args s mc ms free) (F0 m pc ls rest) := by
  intro T hT X
  have htr : e.platform.stackTraces = false := (show e.platform.stackTraces = l.stackTraces by rw [X.admits.platform]).trans hl
  have Y := vx_rebase X (R' := { frames := R.frames, locals := R.locals, cells := 1, slots := 6 }) (Nat.le_refl _) (Nat.le_refl _) hRcells hRslots
  obtain ⟨s', hA⟩ : ∃ z, z = (T.setVm s.vm).setFrames (.invoking m args :: below) := ⟨_, rfl⟩
  rw [← hA] at Y
  have hvm : s'.vm = s.vm := by rw [hA]; rfl
  have hhp : s'.heap = H := by rw [hA]; exact hT
  have hW0 : s.WarmedH s'.vm := by rw [hvm]; exact State.WarmedH.refl s
  have hat' : ∀ w ∈ vx_atS own ic cls names, w.before args s' = true := fun w hw => vx_ot_at hW0 hvm.symm (hgood w (List.mem_cons_of_mem _ (List.mem_cons_of_mem _ hw))) (hat w hw)
  have hk' : (Cond.classLink own ik cls).before args s' = true := vx_ot_at hW0 hvm.symm (hgood _ List.mem_cons_self) hk
  have hini' : (Cond.initialized cls).before args s' = true := vx_ot_at hW0 hvm.symm (hgood _ (List.mem_cons_of_mem _ List.mem_cons_self)) hini
  have hU' : vx_Zq Bundle.tN "UNASSIGNED_STACK" Bundle.steD A s' s'.heap := by rw [hhp]; exact vx_Zq.moved hW0.alike (hU.kept hS.2.1)
  have hN' : vx_Zq Bundle.tN "SUPPRESSED_SENTINEL" Bundle.listD A s' s'.heap := by rw [hhp]; exact vx_Zq.moved hW0.alike (hN.kept hS.2.1)
  have h : ∀ w ∈ Bundle.ownAtoms own ic cls names, w.before args s' = true := vx_own hat' (vx_isRefq hU'.1) (vx_isRefq hN'.1) hU'.2.word hN'.2.word
  have hown' : s'.vm.findClass own = some m.cls := by rw [hvm]; exact hown
  have hins : (Cond.instantiable cls 6).before args s' = true := h _ (by simp [Bundle.ownAtoms])
  obtain ⟨vm₁, cX, kX, hfX, hkX, -, -, X₁, st1⟩ := Y.newCold hexec (own := own) (C := cls) (index := ik) (n := 6) hown' hk' hins hini'
    (g := F0 m pc ls rest) rfl (by rw [hb]; exact d0) (Nat.le_refl _) (Nat.le_refl _)
  generalize hT1 : (T.setVm vm₁).pushCell { cls := cX, slots := kX.instanceTypes.map defaultValue, vm := .none } = T1 at X₁ st1
  have hcat : (Value.ref T.heap.size).category = 1 := rfl
  have hcellA : T1.heap[T.heap.size]? = some (freshCell cX kX) := by rw [← hT1]; exact State.heap_pushCell_size _ _
  have d3' : decode c.code (pc + 3) = .ok (.dup, 1) := by rw [hb]; exact d3
  have d4' : decode c.code (pc + 4) = .ok (.ldc_w is, 3) := by rw [hb]; exact d4
  have hstr' : vk_R own is text sa s' := vk_R.warm hW0 hstr
  obtain ⟨U, hsteps, hrun, hend, hW, hsame, ce, hce, hO⟩ := X₁.ctorThrowS hexec htr (own := own) (cls := cls) (names := names) (ic := ic) hown' hcls hnames h (fun x hx => nomatch hx) hfX hkX hcellA (by rw [hhp, hT]; exact Nat.le_refl _) (msg := .ref sa) rfl
    (g := { method := m, pc := pc + 7, locals := ls, stack := .ref sa :: .ref T.heap.size :: .ref T.heap.size :: rest, locked := none }) rfl hsize rfl rfl (rest := rest) rfl
    (by rw [hb]; exact d7) (by rw [hb]; exact d10) hout hRframes (by simp only [List.map_cons, List.sum_cons, hcat]; omega) hlocks
  obtain ⟨f1, f2⟩ := vx_frame hsame
  rw [hhp] at f1 f2
  have hWs : s.WarmedH U.vm := State.WarmedH.trans hW0 hW
  have hcl : s.vm.findClass cls = some ce.cls := by
    have h9 := hO.cls
    rw [hvm] at h9
    exact h9
  have hall : s.sameButNew ({ U with vm := s.vm } : State) locs mc ms := by
    subst hA
    obtain ⟨e1, e2⟩ := hsame
    rw [State.setFrames_setFrames] at e1
    have h2 : (T.setVm s.vm).sameButNew ({ U with vm := s.vm } : State) [] (0 + 1) (0 + 6) := ⟨e1, e2⟩
    have h3 := X.same.trans h2
    rw [List.append_nil] at h3
    exact h3.mono hc hs
  refine ⟨U, ?_, .threw T.heap.size, hrun, hend, Or.inr ⟨T.heap.size, rfl, cls, ce, locs, hx U hWs.alike f1 (fun q hq => f2 q hq (fun z hz => nomatch hz)), hce, hO.vm, hcl, hWs, hall, hf⟩⟩
  refine st1 _ ?_
  show Steps p.tables e below (T1.setTop { method := m, pc := pc + 3, locals := ls, stack := .ref T.heap.size :: rest, locked := none }) _
  jvm_step X₁.here [X₁.here.top, hexec, d3', Value.category]
  exact X₁.ldcStringW hexec (own := own) (text := text) (index := is) (a := sa) hown' hstr'.1 hstr'.2
    (g := { method := m, pc := pc + 4, locals := ls, stack := .ref T.heap.size :: .ref T.heap.size :: rest, locked := none }) rfl d4' _ hsteps
end Ends
section Bodies
variable {l : Launch}
theorem vx_ofW {y : MethodName} {ws ws' : List Cond} {rm : Room} {Pc : Array Value → State → Prop} {Qc : Array Value → State → Outcome → State → Prop} {XC : String → State → State → Prop} {mc ms : Nat} {free : Addr → Prop} {cc : ByteArray} {maxL : Nat} {ret : Option FieldType}
    (hy : plainName y.cls = true) (hw : ws = Cond.code y cc maxL ret :: ws')
    (body : ∀ p e s m args below meth c s₁, BodyLoose p l y (headSpec ws rm) cc maxL ret e s m args below meth c s₁ → c.maxLocals = maxL → (∀ x ∈ c.exceptionTable.toList, False) → Pc args s →
      W p l e (headSpec ws rm).room s m args below meth c s.heap [] 0 0 (vx_MQ below Qc XC args s mc ms free) (entryFrame m args maxL)) : vx_Met l y ws rm Pc Qc XC mc ms free := by
  refine MetFree.of_bodyS (code := cc) (maxLocals := maxL) (ret := ret) hy ?_ ?_
  · intro args s m h hn
    obtain ⟨meth, c, h1, h2, h3, h4, h5, h6, -, -⟩ := Cond.code_spec hn (atoms_spec (ws := ws) h _ (by rw [hw]; exact List.mem_cons_self))
    exact ⟨meth, c, h1, h2, h3, h4, h5, h6⟩
  · intro p e s m args below meth c s₁ B hml hP _
    have hh0 : s₁.heap = s.heap := by rw [B.state]; rfl
    have ht : ∀ x ∈ c.exceptionTable.toList, False := by
      obtain ⟨meth9, c9, h1, h2, -, -, -, -, h7, -⟩ := Cond.code_spec B.named (atoms_spec (ws := ws) B.pre _ (by rw [hw]; exact List.mem_cons_self))
      cases Option.some.inj (h1.symm.trans B.method)
      cases Option.some.inj (h2.symm.trans (Stand.of_body B).code)
      intro x hx
      rw [Array.isEmpty_iff.mp h7] at hx
      cases hx
    obtain ⟨t, a1, o, b1, b2, b3⟩ := body p e s m args below meth c s₁ B hml ht hP s₁ hh0 (Stand.of_body B)
    exact ⟨t, o, a1, b1, b2, b3⟩
/-- the table of a body with handlers -/
theorem vx_table {p : Program} {x y : MethodName} {S : Spec} {cc bytes : ByteArray} {maxL maxL' : Nat} {ret ret' : Option FieldType} {e : Env} {s s₁ : State} {m : MethodId} {args : Array Value} {below : List Frame} {meth : Method} {c : Code} {hh : List (Nat × Nat × Nat × Nat)}
    (B : BodyLoose p l y S cc maxL ret e s m args below meth c s₁) (h : (Cond.codeWith y bytes maxL' ret' hh).before args s = true) : c.exceptionTable.toList = tableOf hh := by
  obtain ⟨m9, meth9, c9, hn9, h1, h2, -, -, h6, -⟩ := Cond.codeWith_spec h
  cases Option.some.inj (hn9.symm.trans B.named)
  cases Option.some.inj (h1.symm.trans B.method)
  cases Option.some.inj (h2.symm.trans (Stand.of_body B).code)
  rw [← h6, table_eq]
end Bodies
end VXA
/-! ===== END ===== -/
/-! ===== BEGIN a static call of a method with an exception table ===== -/
section VXS
variable {p : Program} {l : Launch} {e : Env} {R : Room} {s : State} {m : MethodId} {args : Array Value} {below : List Frame} {meth : Method} {c : Code} {T : State} {H : Heap} {locs : List Loc} {cells slots : Nat}
abbrev vx_CSW (R : Room) (s : State) (args : Array Value) (own : String) (index : Nat) (y : MethodName) (bytes : ByteArray) (maxL : Nat) (ret : Option FieldType) (hh : List (Nat × Nat × Nat × Nat)) (ws : List Cond) (rm : Room) (mc ms n : Nat) : Prop :=
  (rm.cells = mc ∧ rm.slots = ms ∧ rm.frames + 1 ≤ R.frames ∧ 8 + (maxL + 11) + rm.locals ≤ R.locals ∧ (∀ w ∈ ws, ∀ (a' : Array Value) (U : State), s.WarmedH U.vm → w.before a' U = true) ∧ Cond.codeWith y bytes maxL ret hh ∈ ws) ∧
  (Cond.codeWith y bytes maxL ret hh).before args s = true ∧ (Cond.initialized y.cls).before args s = true ∧ (y.cls ≠ "java/lang/invoke/MethodHandle" ∧ y.cls ≠ "java/lang/invoke/VarHandle") ∧
  (∀ sig, parseMethodDescriptor y.desc = some sig → n = sig.parameters.length) ∧ (Cond.methodLink own index y).before args s = true ∧ (Cond.static y).before args s = true
theorem vx_cwSW {own : String} {index maxL mc ms : Nat} {y : MethodName} {bytes : ByteArray} {ret : Option FieldType} {hh : List (Nat × Nat × Nat × Nat)} {Ts ws ws' : List Cond} {rm : Room} (n : Nat) (ht : ∀ w ∈ Ts, w.before args s = true) (hT : GoodIn Ts (va_wsS own index y ws)) (hw : ws = Cond.codeWith y bytes maxL ret hh :: ws') (hrc : rm.cells = mc) (hrs : rm.slots = ms)
    (hd : y.cls ≠ "java/lang/invoke/MethodHandle" ∧ y.cls ≠ "java/lang/invoke/VarHandle" ∧ (parseMethodDescriptor y.desc).map (fun d => d.parameters.length) = some n) (hR : rm.frames + 1 ≤ R.frames ∧ 8 + (maxL + 11) + rm.locals ≤ R.locals) :
    vx_CSW R s args own index y bytes maxL ret hh ws rm mc ms n := by
  have ok : ∀ w ∈ va_wsS own index y ws, w.before args s = true := fun w h => ht w (hT w h).1
  have hG : GoodIn Ts ws := fun w h => hT w (by unfold va_wsS; exact List.mem_append_right _ h)
  have hc : Cond.codeWith y bytes maxL ret hh ∈ ws := by rw [hw]; exact List.mem_cons_self
  refine ⟨⟨hrc, hrs, hR.1, hR.2, pay_in ht hG, hc⟩, ht _ (hG _ hc).1, ok _ (by simp [va_wsS]), ⟨hd.1, hd.2.1⟩, fun sig h => ?_, ok _ (by simp [va_wsS]), ok _ (by simp [va_wsS])⟩
  have h2 := hd.2.2
  rw [h] at h2
  exact (Option.some.inj h2).symm
theorem vx_callSW (X : Stand p l e R s m args below meth c T locs cells slots) (hexec : p.tables.exec = Jvm.exec) {own : String} {index : Nat} {y : MethodName} {bytes : ByteArray} {maxL : Nat} {ret : Option FieldType} {hh : List (Nat × Nat × Nat × Nat)}
    (hown : s.vm.findClass own = some m.cls) (hlink : (Cond.methodLink own index y).before args s = true) (hstat : (Cond.static y).before args s = true) (hinit : (Cond.initialized y.cls).before args s = true)
    (hcode : (Cond.codeWith y bytes maxL ret hh).before args s = true) (hy : y.cls ≠ "java/lang/invoke/MethodHandle" ∧ y.cls ≠ "java/lang/invoke/VarHandle")
    {W9 : Nat} {Pre : Pt → Array Value → Prop} {Post : Pt → Array Value → Option Value → Pt → Prop} (hK : Back l R p e below s args y 3 W9 Pre Post)
    {g : JFrame} (hg : g.method = m) (hsize : g.locals.size = c.maxLocals) {argsL rest : List Value} (hlen : ∀ sig, parseMethodDescriptor y.desc = some sig → argsL.length = sig.parameters.length)
    (hstack : g.stack = argsL.reverse ++ rest) (hW : 2 * g.monitorRoom + (rest.map fun v => v.category).sum ≤ W9) (hdg : decode c.code g.pc = .ok (.invokestatic index, 3))
    (hpre : ∀ vm₁, s.WarmedH vm₁ → Pre ⟨T.setVm vm₁, locs, cells, slots⟩ argsL.toArray) :
    ∃ (v : Option Value) (vm₁ : Vm) (B : Pt), s.WarmedH vm₁ ∧ Stand p l e R s m args below meth c B.U B.locs B.cells B.slots ∧ Post ⟨T.setVm vm₁, locs, cells, slots⟩ argsL.toArray v B ∧
      ∀ target, Steps p.tables e below (B.U.setTop { g with pc := g.pc + 3, stack := v.toList ++ rest }) target → Steps p.tables e below (T.setTop g) target := by
  obtain ⟨mk, methM, cM, hnamed, hmethM, -, -, -, -, -, -, hsigM⟩ := Cond.codeWith_spec hcode
  have hstatic : methM.isStatic = true := Cond.static_spec hnamed hmethM hstat
  obtain ⟨kP, hkP, -⟩ := className_of_methodNamed hnamed
  have hinitP : kP.init = .initialized := Cond.initialized_spec (findClass_of_methodNamed hnamed) hkP hinit
  obtain ⟨vm₁, X₁, hstep₁⟩ := X.invokestatic hexec hown hlink hnamed hmethM hstatic hkP hinitP hy (g := g) hg (argsL := argsL) (rest := rest) (hlen _ hsigM) hstack hdg
  obtain ⟨v, B, X', hpost, hsteps⟩ := hK m meth c ⟨T.setVm vm₁, locs, cells, slots⟩ { g with stack := rest } (.invokestatic index) mk argsL.toArray X₁ hg hsize hdg hW (X₁.named hnamed) (hpre vm₁ X₁.warmed)
  exact ⟨v, vm₁, B, X₁.warmed, X', hpost, fun target h => hstep₁ _ fun acts => by rw [doInvoke_state]; exact hsteps.trans h⟩
theorem vx_runSW {y : MethodName} {bytes cc : ByteArray} {maxL nL mc ms n index : Nat} {ret : Option FieldType} {hh : List (Nat × Nat × Nat × Nat)} {ws : List Cond} {rm : Room} {Pc : Array Value → State → Prop} {Qc : Array Value → State → Outcome → State → Prop} {free : Addr → Prop} {Ts : List Cond} {own : String} {As rest : List Value} {g : JFrame}
    (S : CallFix p m c cc nL s args Ts own) (hM : Met l y ws rm Pc Qc mc ms free) (cw : vx_CSW R s args own index y bytes maxL ret hh ws rm mc ms n) (hp : PreS s H Pc As)
    (hg : g.method = m) (hn : As.length = n) (hsize : g.locals.size = nL) (hstack : g.stack = As.reverse ++ rest) (hW : 2 * g.monitorRoom + (rest.map fun v => v.category).sum ≤ 8) (hdg : decode cc g.pc = .ok (.invokestatic index, 3)) (hf : cells + mc ≤ R.cells ∧ slots + ms ≤ R.slots) :
    va_Run p l e R s m args below meth c H locs cells slots mc ms g rest (Qc As.toArray) (free) := by
  obtain ⟨⟨hrc, hrs, hfr, hlo, hws, hcw⟩, hcode, hini, hy, hlen, hl, hstt⟩ := cw
  have hK : Back l R p e below s args y 3 8 (PreOf R mc ms Pc) (PostOf Qc mc ms free) := va_backW (hh := hh) (bytes := bytes) (maxL := maxL) (ret := ret) hM hp.1 hrc hrs hfr hlo hws hcw (fun a' U hW => word_at hW (Or.inl (by first | rfl | simp [Cond.onTables, Cond.keeps, Cond.steady])) hini)
  obtain ⟨hx, hb, hml, ho, -⟩ := S
  intro T hT X
  obtain ⟨v, vm₁, ⟨U', l2, c2, s2⟩, hW₁, X', ⟨g', mk, t, L, e1, e2, hq, h1, hL, h2, h3⟩, st⟩ := vx_callSW X hx (hh := hh) (bytes := bytes) (maxL := maxL) (ret := ret) ho hl hstt hini hcode hy hK hg (hsize.trans hml.symm) (argsL := As) (rest := rest) (fun sig h => hn.trans (hlen sig h)) hstack hW (by rw [hb]; exact hdg)
    (fun vm₁ hW₁ => ⟨hf.1, hf.2, hp.2 (T.setVm vm₁) hT hW₁⟩)
  dsimp only [Pt.U, Pt.locs, Pt.cells, Pt.slots] at X' e1 e2 h1 h2 h3 st
  subst h1; subst h2; subst h3
  exact ⟨v, (T.setVm vm₁).calling g' mk As.toArray, t, U', L, hT, X', hL, e1, e2, hq, st⟩
/-- not caught here, past rows that name other classes: it goes on to the caller -/
theorem vx_outP {p : Program} {l : Launch} {e : Env} {R : Room} {s : State} {m : MethodId} {args : Array Value} {below : List Frame} {meth : Method} {c : Code} {H : Heap} {locs : List Loc} {cells slots : Nat} {free : Addr → Prop} {ls : Array Slot} {rest : List Value} {Qc : Array Value → State → Outcome → State → Prop} {XC : String → State → State → Prop}
    {pc : Nat} {own E : String} {ce : Cell} {q : Addr} {mc ms : Nat} (hown : s.vm.findClass own = some m.cls) (hlocks : meth.locks = false)
    (hpass : ∀ z ∈ c.exceptionTable.toList, covers z pc = false ∨ (z.catchType ≠ 0 ∧ ∃ nm : String, (Cond.classLink own z.catchType nm).before args s = true ∧ va_Nc E nm s)) (hcell : H[q]? = some ce) (hv : ce.vm = .none) (hcl : s.vm.findClass E = some ce.cls)
    (hx : ∀ t : State, t.heap = H → s.vm.Alike t.vm → XC E s t) (hf : ∀ z ∈ locs, free z.base) (hc : cells ≤ mc) (hs : slots ≤ ms) :
    vx_W p l e R s m args below meth c H locs cells slots (vx_MQ below Qc XC args s mc ms free) (F0 m pc ls rest) q := by
  intro T hT X
  have hpl : e.platform.magicAccessors = ({} : Platform).magicAccessors := by rw [X.admits.platform]
  obtain ⟨vm', hW', X', st⟩ := X.outThrough hlocks q (g := F0 m pc ls rest) rfl rfl rfl (cell := ce) (by rw [hT]; exact hcell) (by rw [hv]; rfl)
    (by obtain ⟨k9, h9, -⟩ := Vm.findClass_spec hcl; exact ⟨k9, h9⟩) (fun z hz => by
      rcases hpass z hz with h | ⟨hz0, nm, hl1, hn1⟩
      · exact Or.inl h
      · obtain ⟨c6, hc6, hcl6⟩ := Cond.classLink_spec hown hl1 e.platform hpl
        obtain ⟨a8, b8, h1, h2, h3⟩ := hn1
        cases Option.some.inj (h1.symm.trans hcl)
        cases Option.some.inj (h2.symm.trans hc6)
        exact Or.inr ⟨hz0, _, hcl6, h3⟩)
  obtain ⟨g₀, hfr⟩ := X'.frames_eq
  have hcell9 : ((T.setVm vm').setFrames (.throwing q :: below)).heap[q]? = some ce := by
    show T.heap[q]? = some ce
    rw [hT]; exact hcell
  have hend : Ended ((T.setVm vm').setFrames (.throwing q :: below)) below (.threw q) := State.frames_setFrames _ (State.cur_lt_of_frames hfr)
  refine ⟨(T.setVm vm').setFrames (.throwing q :: below), ?_, .threw q, X'.here.running, hend, Or.inr ⟨q, rfl, E, ce, locs, hx _ hT (X'.ends _).1.alike, hcell9, hv, hcl, (X'.ends _).1, (X'.ends _).2.mono hc hs, hf⟩⟩
  rw [X.pushThrowing_eq]
  exact st
/-- a thing of a world lies in the heap -/
theorem vx_lt {D : va_G} {cl : List vw_C} {ws : va_W} {H1 : Heap} (h : va_P D cl ws H1) {k : Nat} {q : Nat × va_E} (hk : ws[k]? = some q) : q.1 < H1.size := (h k q hk).lt
end VXS
/-! ===== END ===== -/
/-! ===== BEGIN methods with a table of their own: called by a name, returning or throwing ===== -/
section VXH
/-! vx_backW, vx_callVX, vx_callSX, vx_callVW, vx_runVW, vx_runVX, vx_runSX, vx_ofWH follow the same proofs as their sisters above (Free/Laws.lean, Shelf42/LK1.lean); vx_outP calls Shelf42/NT130.lean (outThrough). -/
section
variable {l : Launch} {R : Room} {p : Program} {e : Env} {below : List Frame} {s : State} {sargs : Array Value} {y : MethodName} {len W9 : Nat}
theorem vx_backW {ws : List Cond} {rm : Room} {Pc : Array Value → State → Prop} {Qc : Array Value → State → Outcome → State → Prop} {XC : String → State → State → Prop} {mc ms : Nat} {free : Addr → Prop} {bytes : ByteArray} {maxL : Nat} {ret : Option FieldType} {hh : List (Nat × Nat × Nat × Nat)}
    (hM : vx_Met l y ws rm Pc Qc XC mc ms free) (hblind : FrameBlind Pc) (hrc : rm.cells = mc) (hrs : rm.slots = ms)
    (hframes : rm.frames + 1 ≤ R.frames) (hlocals : W9 + (maxL + 11) + rm.locals ≤ R.locals)
    (hws : ∀ w ∈ ws, ∀ a' U, s.WarmedH U.vm → w.before a' U = true) (hcode : Cond.codeWith y bytes maxL ret hh ∈ ws) (hinit : ∀ a' U, s.WarmedH U.vm → (Cond.initialized y.cls).before a' U = true) :
    vx_Back l R p e below s sargs y len W9 (PreOf R mc ms Pc) (PostOf Qc mc ms free) (vx_Post XC mc ms free) := by
  intro m meth c A g ig mk a X hg hsize hdg hW hn hp
  have h1 : (headSpec ws rm).pre.before a A.U = true := atoms_intro fun w hw => hws w hw _ _ X.warmed
  have h2 : (Cond.codeWith y bytes maxL ret hh).before a A.U = true := hws _ hcode _ _ X.warmed
  have h3 : (Cond.initialized y.cls).before a A.U = true := hinit _ _ X.warmed
  have h4 : A.cells + (headSpec ws rm).room.cells ≤ R.cells := by rw [show (headSpec ws rm).room.cells = mc from hrc]; exact hp.1
  have h5 : A.slots + (headSpec ws rm).room.slots ≤ R.slots := by rw [show (headSpec ws rm).room.slots = ms from hrs]; exact hp.2.1
  have hPc : Pc a (A.U.calling g mk a) := hblind _ _ _ _ hp.2.2
  obtain ⟨U, Ls, c0, s0⟩ := A
  dsimp only [Pt.U, Pt.locs, Pt.cells, Pt.slots] at h1 h2 h3 h4 h5 X hn hPc ⊢
  obtain ⟨m9, methY, cY, hn9, hmY, hcY, -, hlY, -⟩ := Cond.codeWith_spec h2
  cases Option.some.inj (hn9.symm.trans hn)
  obtain ⟨kY, hkY, -⟩ := className_of_methodNamed hn
  have hinitY : kY.init = .initialized := Cond.initialized_spec (findClass_of_methodNamed hn) hkY h3
  have h : At U g.method c below := by rw [hg]; exact X.here
  have hlocals9 : W9 + (maxL + 11) + (headSpec ws rm).room.locals ≤ R.locals := hlocals
  have happ : (headSpec ws rm).appliesLoose y e.platform (U.calling g mk a) = true :=
    Spec.appliesLoose_calling (g := g) h hdg hn hkY hinitY
      (X.room_calling (g := g) (R' := (headSpec ws rm).room) hsize hmY hcY hframes (by rw [hlY]; omega) h4 h5) h1
  obtain ⟨mid, hmid⟩ := h.above
  have hfr : (U.setTop g).frames = (.java g :: mid) ++ below := by rw [State.frames_setTop' g h.top, hmid]; rfl
  obtain ⟨o, s₂, hsteps, -, hend, hq⟩ := Steps.callFree hM p X.admits X.cas X.clock (acts := []) hfr happ hPc trivial
  have hq' : vx_Q Qc XC mc ms free a (U.calling g mk a) o s₂ := hq
  rw [State.frames_setTop' g h.top] at hend
  obtain ⟨g₀, hg0⟩ := Option.isSome_iff_exists.mp h.top
  obtain ⟨r, hr⟩ := State.topJava?_eq_some.mp hg0
  have hr' : (({ U with heap := s₂.heap, slotsUsed := s₂.slotsUsed } : State).setVm s₂.vm).frames = .java g₀ :: r := hr
  rcases hq' with ⟨hqc, L, hfe, hL⟩ | ⟨q, rfl, E, ce, L, hx, hce, hcv, hcl, hW₂, hsm, hL⟩
  · obtain ⟨⟨v, rfl⟩, hW₂, e2, q2, q3, q4, q5, q6⟩ := id hfe
    have e3 : s₂ = ({ (U.calling g mk a).setFrames s₂.frames with heap := s₂.heap, slotsUsed := s₂.slotsUsed } : State).setVm s₂.vm := by
      have : s₂ = ({ s₂ with vm := (U.calling g mk a).vm } : State).setVm s₂.vm := rfl
      rw [e2] at this
      exact this
    obtain ⟨c₂, i₂, len₂, hc₂, hd₂, hf₂⟩ := hend
    have hW' : U.WarmedH s₂.vm := hW₂
    have hcc : c₂ = c := by
      have h1 : s₂.code? g.method = U.code? g.method := by
        rw [State.code?_eq, State.code?_eq, hW'.alike.method?]
      exact Option.some.inj (hc₂.symm.trans (h1.trans h.code))
    subst hcc
    have hlen : len₂ = len := by rw [hdg] at hd₂; cases hd₂; rfl
    subst hlen
    have hs₂ : s₂ = (({ U with heap := s₂.heap, slotsUsed := s₂.slotsUsed } : State).setVm s₂.vm).setTop { g with pc := g.pc + len₂, stack := v.toList ++ g.stack } := by
      refine e3.trans ?_
      rw [hf₂, State.calling_eq h.top, State.setFrames_setFrames, State.setTop_of_frames _ hr', hr]
      rfl
    have hsame : U.sameButNew ({ U with heap := s₂.heap, slotsUsed := s₂.slotsUsed } : State) L mc ms := by
      refine ⟨?_, q2, q3, q4, q5, q6⟩
      obtain ⟨t, ht, -⟩ := State.frames_cons hr
      show ({ U with heap := s₂.heap, slotsUsed := s₂.slotsUsed } : State) = { U.setFrames U.frames with heap := s₂.heap, slotsUsed := s₂.slotsUsed }
      rw [State.setFrames_self ht]
    subst hg
    refine Or.inl ⟨v, ⟨(({ U with heap := s₂.heap, slotsUsed := s₂.slotsUsed } : State).setVm s₂.vm), Ls ++ L, c0 + mc, s0 + ms⟩,
      ⟨X.admits, X.cas, X.clock, X.frames, X.room, X.hears, X.method, X.code, (X.here.setHeapUsed s₂.heap s₂.slotsUsed).setVm hW'.alike, X.tail, State.WarmedH.trans X.warmed hW', X.limits, X.bytes, X.same.trans (hsame.setVm s.vm)⟩,
      ⟨g, mk, s₂, L, rfl, rfl, hqc, rfl, hL, rfl, rfl⟩, ?_⟩
    show Steps p.tables e below _ ((({ U with heap := s₂.heap, slotsUsed := s₂.slotsUsed } : State).setVm s₂.vm).setTop { g with pc := g.pc + len₂, stack := v.toList ++ g.stack })
    rw [← hs₂]
    exact hsteps
  · obtain ⟨e2, q2, q3, q4, q5, q6⟩ := id hsm
    have e3 : s₂ = ({ (U.calling g mk a).setFrames s₂.frames with heap := s₂.heap, slotsUsed := s₂.slotsUsed } : State).setVm s₂.vm := by
      have : s₂ = ({ s₂ with vm := (U.calling g mk a).vm } : State).setVm s₂.vm := rfl
      rw [e2] at this
      exact this
    have hf₂ : s₂.frames = .throwing q :: .java g :: U.frames.tail := hend
    have hW' : U.WarmedH s₂.vm := hW₂
    have hs₂ : s₂ = ((({ U with heap := s₂.heap, slotsUsed := s₂.slotsUsed } : State).setVm s₂.vm).setTop g).pushFrame (.throwing q) := by
      refine e3.trans ?_
      rw [hf₂, State.calling_eq h.top, State.setFrames_setFrames, State.pushFrame, State.frames_setTop _ hr', State.setTop_of_frames _ hr', State.setFrames_setFrames, hr]
      rfl
    have hsame : U.sameButNew ({ U with heap := s₂.heap, slotsUsed := s₂.slotsUsed } : State) L mc ms := by
      refine ⟨?_, q2, q3, q4, q5, q6⟩
      obtain ⟨t, ht, -⟩ := State.frames_cons hr
      show ({ U with heap := s₂.heap, slotsUsed := s₂.slotsUsed } : State) = { U.setFrames U.frames with heap := s₂.heap, slotsUsed := s₂.slotsUsed }
      rw [State.setFrames_self ht]
    subst hg
    refine Or.inr ⟨q, ⟨(({ U with heap := s₂.heap, slotsUsed := s₂.slotsUsed } : State).setVm s₂.vm), Ls ++ L, c0 + mc, s0 + ms⟩,
      ⟨X.admits, X.cas, X.clock, X.frames, X.room, X.hears, X.method, X.code, (X.here.setHeapUsed s₂.heap s₂.slotsUsed).setVm hW'.alike, X.tail, State.WarmedH.trans X.warmed hW', X.limits, X.bytes, X.same.trans (hsame.setVm s.vm)⟩,
      ⟨g, mk, s₂, L, E, ce, rfl, rfl, hx, hce, hcv, hcl, rfl, hL, rfl, rfl⟩, ?_⟩
    show Steps p.tables e below _ (((({ U with heap := s₂.heap, slotsUsed := s₂.slotsUsed } : State).setVm s₂.vm).setTop g).pushFrame (.throwing q))
    rw [← hs₂]
    exact hsteps
end
variable {p : Program} {l : Launch} {e : Env} {R : Room} {s : State} {m : MethodId} {args : Array Value} {below : List Frame} {meth : Method} {c : Code} {T : State} {H : Heap} {locs : List Loc} {cells slots : Nat}
theorem vx_callVX (X : Stand p l e R s m args below meth c T locs cells slots) (hexec : p.tables.exec = Jvm.exec) {own C : String} {index : Nat} {y : MethodName} {bytes : ByteArray} {maxL : Nat} {ret : Option FieldType} {hh : List (Nat × Nat × Nat × Nat)}
    (hown : s.vm.findClass own = some m.cls) (hlink : (Cond.methodLink own index y).before args s = true) (hinst : (Cond.instanceMethod y).before args s = true) (hsel : (Cond.selects C y y).before args s = true)
    (hcode : (Cond.codeWith y bytes maxL ret hh).before args s = true) (hy : y.cls ≠ "java/lang/invoke/MethodHandle" ∧ y.cls ≠ "java/lang/invoke/VarHandle")
    {W9 : Nat} {Pre : Pt → Array Value → Prop} {Post : Pt → Array Value → Option Value → Pt → Prop} {PostX : Pt → Array Value → Addr → Pt → Prop} (hK : vx_Back l R p e below s args y 3 W9 Pre Post PostX)
    {b : Addr} {cellB : Cell} (hcell : T.heap[b]? = some cellB) (hobj : cellB.vm.isStatics = false) (hcls : s.vm.findClass C = some cellB.cls)
    {g : JFrame} (hg : g.method = m) (hsize : g.locals.size = c.maxLocals) {argsL rest : List Value} (hlen : ∀ sig, parseMethodDescriptor y.desc = some sig → argsL.length = sig.parameters.length)
    (hstack : g.stack = argsL.reverse ++ .ref b :: rest) (hW : 2 * g.monitorRoom + (rest.map fun v => v.category).sum ≤ W9) (hdg : decode c.code g.pc = .ok (.invokevirtual index, 3))
    (hpre : ∀ vm₁, s.WarmedH vm₁ → Pre ⟨T.setVm vm₁, locs, cells, slots⟩ (Value.ref b :: argsL).toArray) :
    (∃ (v : Option Value) (vm₁ : Vm) (B : Pt), s.WarmedH vm₁ ∧ Stand p l e R s m args below meth c B.U B.locs B.cells B.slots ∧ Post ⟨T.setVm vm₁, locs, cells, slots⟩ (Value.ref b :: argsL).toArray v B ∧
      ∀ target, Steps p.tables e below (B.U.setTop { g with pc := g.pc + 3, stack := v.toList ++ rest }) target → Steps p.tables e below (T.setTop g) target) ∨
    (∃ (q : Addr) (vm₁ : Vm) (B : Pt), s.WarmedH vm₁ ∧ Stand p l e R s m args below meth c B.U B.locs B.cells B.slots ∧ PostX ⟨T.setVm vm₁, locs, cells, slots⟩ (Value.ref b :: argsL).toArray q B ∧
      Steps p.tables e below (T.setTop g) ((B.U.setTop { g with stack := rest }).pushFrame (.throwing q))) := by
  obtain ⟨mk, methM, hnamed, hmethM, hstM, habM⟩ := Cond.instanceMethod_spec hinst
  obtain ⟨m8, methM', cM, hn8, hmethM', -, -, -, -, -, -, hsigM⟩ := Cond.codeWith_spec hcode
  cases Option.some.inj (hn8.symm.trans hnamed)
  cases hmethM.symm.trans hmethM'
  obtain ⟨c2, r2, m2, q1, q2, q3, q4, kP, hkP, hkPi⟩ := Cond.selects_spec hsel
  cases hcls.symm.trans q1
  cases (State.methodFound?_of_named hnamed hy).symm.trans q2
  cases hnamed.symm.trans q3
  have hselP : selectMethod e.platform s.vm cellB.cls mk = .method mk := by rw [Launch.admits_selectMethod X.admits]; exact q4
  obtain ⟨vm₁, X₁, hstep₁⟩ := X.invokevirtual hexec hown hlink hnamed hmethM hstM hkP hkPi hy (a := b) (cell := cellB) hcell
    (fun z h => by rw [h] at hobj; cases hobj) hselP hmethM habM hkP hkPi (g := g) hg (argsL := argsL) (rest := rest) (hlen _ hsigM) hstack hdg
  rcases hK m meth c ⟨T.setVm vm₁, locs, cells, slots⟩ { g with stack := rest } (.invokevirtual index) mk (Value.ref b :: argsL).toArray X₁ hg hsize hdg hW (X₁.named hnamed) (hpre vm₁ X₁.warmed) with ⟨v, B, X', hpost, hsteps⟩ | ⟨q, B, X', hpost, hsteps⟩
  · exact Or.inl ⟨v, vm₁, B, X₁.warmed, X', hpost, fun target h => hstep₁ _ fun acts => by rw [doInvoke_state]; exact hsteps.trans h⟩
  · exact Or.inr ⟨q, vm₁, B, X₁.warmed, X', hpost, hstep₁ _ fun acts => by rw [doInvoke_state]; exact hsteps⟩
theorem vx_callSX (X : Stand p l e R s m args below meth c T locs cells slots) (hexec : p.tables.exec = Jvm.exec) {own : String} {index : Nat} {y : MethodName} {bytes : ByteArray} {maxL : Nat} {ret : Option FieldType} {hh : List (Nat × Nat × Nat × Nat)}
    (hown : s.vm.findClass own = some m.cls) (hlink : (Cond.methodLink own index y).before args s = true) (hstat : (Cond.static y).before args s = true) (hinit : (Cond.initialized y.cls).before args s = true)
    (hcode : (Cond.codeWith y bytes maxL ret hh).before args s = true) (hy : y.cls ≠ "java/lang/invoke/MethodHandle" ∧ y.cls ≠ "java/lang/invoke/VarHandle")
    {W9 : Nat} {Pre : Pt → Array Value → Prop} {Post : Pt → Array Value → Option Value → Pt → Prop} {PostX : Pt → Array Value → Addr → Pt → Prop} (hK : vx_Back l R p e below s args y 3 W9 Pre Post PostX)
    {g : JFrame} (hg : g.method = m) (hsize : g.locals.size = c.maxLocals) {argsL rest : List Value} (hlen : ∀ sig, parseMethodDescriptor y.desc = some sig → argsL.length = sig.parameters.length)
    (hstack : g.stack = argsL.reverse ++ rest) (hW : 2 * g.monitorRoom + (rest.map fun v => v.category).sum ≤ W9) (hdg : decode c.code g.pc = .ok (.invokestatic index, 3))
    (hpre : ∀ vm₁, s.WarmedH vm₁ → Pre ⟨T.setVm vm₁, locs, cells, slots⟩ argsL.toArray) :
    (∃ (v : Option Value) (vm₁ : Vm) (B : Pt), s.WarmedH vm₁ ∧ Stand p l e R s m args below meth c B.U B.locs B.cells B.slots ∧ Post ⟨T.setVm vm₁, locs, cells, slots⟩ argsL.toArray v B ∧
      ∀ target, Steps p.tables e below (B.U.setTop { g with pc := g.pc + 3, stack := v.toList ++ rest }) target → Steps p.tables e below (T.setTop g) target) ∨
    (∃ (q : Addr) (vm₁ : Vm) (B : Pt), s.WarmedH vm₁ ∧ Stand p l e R s m args below meth c B.U B.locs B.cells B.slots ∧ PostX ⟨T.setVm vm₁, locs, cells, slots⟩ argsL.toArray q B ∧
      Steps p.tables e below (T.setTop g) ((B.U.setTop { g with stack := rest }).pushFrame (.throwing q))) := by
  obtain ⟨mk, methM, cM, hnamed, hmethM, -, -, -, -, -, -, hsigM⟩ := Cond.codeWith_spec hcode
  have hstatic : methM.isStatic = true := Cond.static_spec hnamed hmethM hstat
  obtain ⟨kP, hkP, -⟩ := className_of_methodNamed hnamed
  have hinitP : kP.init = .initialized := Cond.initialized_spec (findClass_of_methodNamed hnamed) hkP hinit
  obtain ⟨vm₁, X₁, hstep₁⟩ := X.invokestatic hexec hown hlink hnamed hmethM hstatic hkP hinitP hy (g := g) hg (argsL := argsL) (rest := rest) (hlen _ hsigM) hstack hdg
  rcases hK m meth c ⟨T.setVm vm₁, locs, cells, slots⟩ { g with stack := rest } (.invokestatic index) mk argsL.toArray X₁ hg hsize hdg hW (X₁.named hnamed) (hpre vm₁ X₁.warmed) with ⟨v, B, X', hpost, hsteps⟩ | ⟨q, B, X', hpost, hsteps⟩
  · exact Or.inl ⟨v, vm₁, B, X₁.warmed, X', hpost, fun target h => hstep₁ _ fun acts => by rw [doInvoke_state]; exact hsteps.trans h⟩
  · exact Or.inr ⟨q, vm₁, B, X₁.warmed, X', hpost, hstep₁ _ fun acts => by rw [doInvoke_state]; exact hsteps⟩
theorem vx_callVW (X : Stand p l e R s m args below meth c T locs cells slots) (hexec : p.tables.exec = Jvm.exec) {own C : String} {index : Nat} {y : MethodName} {bytes : ByteArray} {maxL : Nat} {ret : Option FieldType} {hh : List (Nat × Nat × Nat × Nat)}
    (hown : s.vm.findClass own = some m.cls) (hlink : (Cond.methodLink own index y).before args s = true) (hinst : (Cond.instanceMethod y).before args s = true) (hsel : (Cond.selects C y y).before args s = true)
    (hcode : (Cond.codeWith y bytes maxL ret hh).before args s = true) (hy : y.cls ≠ "java/lang/invoke/MethodHandle" ∧ y.cls ≠ "java/lang/invoke/VarHandle")
    {W9 : Nat} {Pre : Pt → Array Value → Prop} {Post : Pt → Array Value → Option Value → Pt → Prop} (hK : Back l R p e below s args y 3 W9 Pre Post)
    {b : Addr} {cellB : Cell} (hcell : T.heap[b]? = some cellB) (hobj : cellB.vm.isStatics = false) (hcls : s.vm.findClass C = some cellB.cls)
    {g : JFrame} (hg : g.method = m) (hsize : g.locals.size = c.maxLocals) {argsL rest : List Value} (hlen : ∀ sig, parseMethodDescriptor y.desc = some sig → argsL.length = sig.parameters.length)
    (hstack : g.stack = argsL.reverse ++ .ref b :: rest) (hW : 2 * g.monitorRoom + (rest.map fun v => v.category).sum ≤ W9) (hdg : decode c.code g.pc = .ok (.invokevirtual index, 3))
    (hpre : ∀ vm₁, s.WarmedH vm₁ → Pre ⟨T.setVm vm₁, locs, cells, slots⟩ (Value.ref b :: argsL).toArray) :
    ∃ (v : Option Value) (vm₁ : Vm) (B : Pt), s.WarmedH vm₁ ∧ Stand p l e R s m args below meth c B.U B.locs B.cells B.slots ∧ Post ⟨T.setVm vm₁, locs, cells, slots⟩ (Value.ref b :: argsL).toArray v B ∧
      ∀ target, Steps p.tables e below (B.U.setTop { g with pc := g.pc + 3, stack := v.toList ++ rest }) target → Steps p.tables e below (T.setTop g) target := by
  obtain ⟨mk, methM, hnamed, hmethM, hstM, habM⟩ := Cond.instanceMethod_spec hinst
  obtain ⟨m8, methM', cM, hn8, hmethM', -, -, -, -, -, -, hsigM⟩ := Cond.codeWith_spec hcode
  cases Option.some.inj (hn8.symm.trans hnamed)
  cases hmethM.symm.trans hmethM'
  obtain ⟨c2, r2, m2, q1, q2, q3, q4, kP, hkP, hkPi⟩ := Cond.selects_spec hsel
  cases hcls.symm.trans q1
  cases (State.methodFound?_of_named hnamed hy).symm.trans q2
  cases hnamed.symm.trans q3
  have hselP : selectMethod e.platform s.vm cellB.cls mk = .method mk := by rw [Launch.admits_selectMethod X.admits]; exact q4
  obtain ⟨vm₁, X₁, hstep₁⟩ := X.invokevirtual hexec hown hlink hnamed hmethM hstM hkP hkPi hy (a := b) (cell := cellB) hcell
    (fun z h => by rw [h] at hobj; cases hobj) hselP hmethM habM hkP hkPi (g := g) hg (argsL := argsL) (rest := rest) (hlen _ hsigM) hstack hdg
  obtain ⟨v, B, X', hpost, hsteps⟩ := hK m meth c ⟨T.setVm vm₁, locs, cells, slots⟩ { g with stack := rest } (.invokevirtual index) mk (Value.ref b :: argsL).toArray X₁ hg hsize hdg hW (X₁.named hnamed) (hpre vm₁ X₁.warmed)
  exact ⟨v, vm₁, B, X₁.warmed, X', hpost, fun target h => hstep₁ _ fun acts => by rw [doInvoke_state]; exact hsteps.trans h⟩
abbrev vx_CVW (R : Room) (s : State) (args : Array Value) (own C : String) (index : Nat) (y : MethodName) (bytes : ByteArray) (maxL : Nat) (ret : Option FieldType) (hh : List (Nat × Nat × Nat × Nat)) (ws : List Cond) (rm : Room) (mc ms n : Nat) : Prop :=
  (rm.cells = mc ∧ rm.slots = ms ∧ rm.frames + 1 ≤ R.frames ∧ 8 + (maxL + 11) + rm.locals ≤ R.locals ∧ (∀ w ∈ ws, ∀ (a' : Array Value) (U : State), s.WarmedH U.vm → w.before a' U = true) ∧ Cond.codeWith y bytes maxL ret hh ∈ ws) ∧
  (Cond.codeWith y bytes maxL ret hh).before args s = true ∧ (Cond.initialized y.cls).before args s = true ∧ (y.cls ≠ "java/lang/invoke/MethodHandle" ∧ y.cls ≠ "java/lang/invoke/VarHandle") ∧
  (∀ sig, parseMethodDescriptor y.desc = some sig → n = sig.parameters.length) ∧ (Cond.methodLink own index y).before args s = true ∧ (Cond.instanceMethod y).before args s = true ∧ (Cond.selects C y y).before args s = true
theorem vx_cwVW {own C : String} {index maxL mc ms : Nat} {y : MethodName} {bytes : ByteArray} {ret : Option FieldType} {hh : List (Nat × Nat × Nat × Nat)} {Ts ws ws' : List Cond} {rm : Room} (n : Nat) (ht : ∀ w ∈ Ts, w.before args s = true) (hT : GoodIn Ts (wsV own index C y ws)) (hw : ws = Cond.codeWith y bytes maxL ret hh :: ws') (hrc : rm.cells = mc) (hrs : rm.slots = ms)
    (hd : y.cls = C ∧ y.cls ≠ "java/lang/invoke/MethodHandle" ∧ y.cls ≠ "java/lang/invoke/VarHandle" ∧ (parseMethodDescriptor y.desc).map (fun d => d.parameters.length) = some n) (hR : rm.frames + 1 ≤ R.frames ∧ 8 + (maxL + 11) + rm.locals ≤ R.locals) :
    vx_CVW R s args own C index y bytes maxL ret hh ws rm mc ms n := by
  obtain ⟨hC, hd⟩ := hd
  subst hC
  have ok : ∀ w ∈ wsV own index y.cls y ws, w.before args s = true := fun w h => ht w (hT w h).1
  have hG : GoodIn Ts ws := fun w h => hT w (by unfold wsV; exact List.mem_append_right _ h)
  have hc : Cond.codeWith y bytes maxL ret hh ∈ ws := by rw [hw]; exact List.mem_cons_self
  refine ⟨⟨hrc, hrs, hR.1, hR.2, pay_in ht hG, hc⟩, ht _ (hG _ hc).1, ok _ (by simp [wsV]), ⟨hd.1, hd.2.1⟩, fun sig h => ?_, ok _ (by simp [wsV]), ok _ (by simp [wsV]), ok _ (by simp [wsV])⟩
  have h2 := hd.2.2
  rw [h] at h2
  exact (Option.some.inj h2).symm
theorem vx_runVW {y : MethodName} {bytes cc : ByteArray} {maxL nL mc ms n index : Nat} {ret : Option FieldType} {hh : List (Nat × Nat × Nat × Nat)} {ws : List Cond} {rm : Room} {Pc : Array Value → State → Prop} {Qc : Array Value → State → Outcome → State → Prop} {free : Addr → Prop} {Ts : List Cond} {own C : String} {b : Addr} {As rest : List Value} {g : JFrame}
    (S : CallFix p m c cc nL s args Ts own) (hM : Met l y ws rm Pc Qc mc ms free) (cw : vx_CVW R s args own C index y bytes maxL ret hh ws rm mc ms n) (hp : PreV s H C b Pc As)
    (hg : g.method = m) (hn : As.length = n) (hsize : g.locals.size = nL) (hstack : g.stack = As.reverse ++ .ref b :: rest) (hW : 2 * g.monitorRoom + (rest.map fun v => v.category).sum ≤ 8) (hdg : decode cc g.pc = .ok (.invokevirtual index, 3)) (hf : cells + mc ≤ R.cells ∧ slots + ms ≤ R.slots) :
    va_Run p l e R s m args below meth c H locs cells slots mc ms g rest (Qc (Value.ref b :: As).toArray) free := by
  obtain ⟨⟨hrc, hrs, hfr, hlo, hws, hcw⟩, hcode, hini, hy, hlen, hl, hin, hse⟩ := cw
  have hK : Back l R p e below s args y 3 8 (PreOf R mc ms Pc) (PostOf Qc mc ms free) := va_backW (hh := hh) (bytes := bytes) (maxL := maxL) (ret := ret) hM hp.1 hrc hrs hfr hlo hws hcw (fun a' U hW => word_at hW (Or.inl (by first | rfl | simp [Cond.onTables, Cond.keeps, Cond.steady])) hini)
  obtain ⟨hx, hb, hml, ho, -⟩ := S
  obtain ⟨-, ⟨cellB, hcB, hoB, hclB⟩, hPc⟩ := hp
  intro T hT X
  obtain ⟨v, vm₁, ⟨U', l2, c2, s2⟩, hW₁, X', ⟨g', mk, t, L, e1, e2, hq, h1, hL, h2, h3⟩, st⟩ := vx_callVW X hx (C := C) (hh := hh) (bytes := bytes) (maxL := maxL) (ret := ret) ho hl hin hse hcode hy hK (by rw [hT]; exact hcB) hoB hclB hg (hsize.trans hml.symm) (argsL := As) (rest := rest) (fun sig h => hn.trans (hlen sig h)) hstack hW (by rw [hb]; exact hdg)
    (fun vm₁ hW₁ => ⟨hf.1, hf.2, hPc (T.setVm vm₁) hT hW₁⟩)
  dsimp only [Pt.U, Pt.locs, Pt.cells, Pt.slots] at X' e1 e2 h1 h2 h3 st
  subst h1; subst h2; subst h3
  exact ⟨v, (T.setVm vm₁).calling g' mk (Value.ref b :: As).toArray, t, U', L, hT, X', hL, e1, e2, hq, st⟩
section
variable {y : MethodName} {bytes cc : ByteArray} {maxL nL mc ms n index : Nat} {ret : Option FieldType} {ws : List Cond} {rm : Room} {Pc : Array Value → State → Prop} {Qc : Array Value → State → Outcome → State → Prop} {XC : String → State → State → Prop} {free : Addr → Prop} {Ts : List Cond} {own C : String} {b : Addr} {As rest : List Value} {g : JFrame}
theorem vx_runVX {hh : List (Nat × Nat × Nat × Nat)} (S : CallFix p m c cc nL s args Ts own) (hM : vx_Met l y ws rm Pc Qc XC mc ms free) (cw : vx_CVW R s args own C index y bytes maxL ret hh ws rm mc ms n) (hp : PreV s H C b Pc As)
    (hg : g.method = m) (hn : As.length = n) (hsize : g.locals.size = nL) (hstack : g.stack = As.reverse ++ .ref b :: rest) (hW : 2 * g.monitorRoom + (rest.map fun v => v.category).sum ≤ 8) (hdg : decode cc g.pc = .ok (.invokevirtual index, 3)) (hf : cells + mc ≤ R.cells ∧ slots + ms ≤ R.slots) :
    vx_Run p l e R s m args below meth c H locs cells slots mc ms g rest (Qc (Value.ref b :: As).toArray) XC free := by
  obtain ⟨⟨hrc, hrs, hfr, hlo, hws, hcw⟩, hcode, hini, hy, hlen, hl, hin, hse⟩ := cw
  have hK : vx_Back l R p e below s args y 3 8 (PreOf R mc ms Pc) (PostOf Qc mc ms free) (vx_Post XC mc ms free) := vx_backW (hh := hh) (bytes := bytes) (maxL := maxL) (ret := ret) hM hp.1 hrc hrs hfr hlo hws hcw (fun a' U hW => word_at hW (Or.inl (by first | rfl | simp [Cond.onTables, Cond.keeps, Cond.steady])) hini)
  obtain ⟨hx, hb, hml, ho, -⟩ := S
  obtain ⟨-, ⟨cellB, hcB, hoB, hclB⟩, hPc⟩ := hp
  intro T hT X
  rcases vx_callVX X hx (C := C) (hh := hh) (bytes := bytes) (maxL := maxL) (ret := ret) ho hl hin hse hcode hy hK (by rw [hT]; exact hcB) hoB hclB hg (hsize.trans hml.symm) (argsL := As) (rest := rest) (fun sig h => hn.trans (hlen sig h)) hstack hW (by rw [hb]; exact hdg)
    (fun vm₁ hW₁ => ⟨hf.1, hf.2, hPc (T.setVm vm₁) hT hW₁⟩) with ⟨v, vm₁, ⟨U', l2, c2, s2⟩, hW₁, X', ⟨g', mk, t, L, e1, e2, hq, h1, hL, h2, h3⟩, st⟩ | ⟨q, vm₁, ⟨U', l2, c2, s2⟩, hW₁, X', ⟨g', mk, t, L, E, ce, e1, e2, hq, hce, hcv, hcl, h1, hL, h2, h3⟩, st⟩
  · dsimp only [Pt.U, Pt.locs, Pt.cells, Pt.slots] at X' e1 e2 h1 h2 h3 st
    subst h1; subst h2; subst h3
    exact Or.inl ⟨v, (T.setVm vm₁).calling g' mk (Value.ref b :: As).toArray, t, U', L, hT, X', hL, e1, e2, hq, st⟩
  · dsimp only [Pt.U, Pt.locs, Pt.cells, Pt.slots] at X' e1 e2 h1 h2 h3 st hcl
    subst h1; subst h2; subst h3
    exact Or.inr ⟨q, (T.setVm vm₁).calling g' mk (Value.ref b :: As).toArray, t, U', L, E, ce, hT, X', hL, e1, e2, hq, hce, hcv, vx_cls hW₁ hcl, st⟩
theorem vx_runSX {hh : List (Nat × Nat × Nat × Nat)} (S : CallFix p m c cc nL s args Ts own) (hM : vx_Met l y ws rm Pc Qc XC mc ms free) (cw : vx_CSW R s args own index y bytes maxL ret hh ws rm mc ms n) (hp : PreS s H Pc As)
    (hg : g.method = m) (hn : As.length = n) (hsize : g.locals.size = nL) (hstack : g.stack = As.reverse ++ rest) (hW : 2 * g.monitorRoom + (rest.map fun v => v.category).sum ≤ 8) (hdg : decode cc g.pc = .ok (.invokestatic index, 3)) (hf : cells + mc ≤ R.cells ∧ slots + ms ≤ R.slots) :
    vx_Run p l e R s m args below meth c H locs cells slots mc ms g rest (Qc As.toArray) XC free := by
  obtain ⟨⟨hrc, hrs, hfr, hlo, hws, hcw⟩, hcode, hini, hy, hlen, hl, hstt⟩ := cw
  have hK : vx_Back l R p e below s args y 3 8 (PreOf R mc ms Pc) (PostOf Qc mc ms free) (vx_Post XC mc ms free) := vx_backW (hh := hh) (bytes := bytes) (maxL := maxL) (ret := ret) hM hp.1 hrc hrs hfr hlo hws hcw (fun a' U hW => word_at hW (Or.inl (by first | rfl | simp [Cond.onTables, Cond.keeps, Cond.steady])) hini)
  obtain ⟨hx, hb, hml, ho, -⟩ := S
  intro T hT X
  rcases vx_callSX X hx (hh := hh) (bytes := bytes) (maxL := maxL) (ret := ret) ho hl hstt hini hcode hy hK hg (hsize.trans hml.symm) (argsL := As) (rest := rest) (fun sig h => hn.trans (hlen sig h)) hstack hW (by rw [hb]; exact hdg)
    (fun vm₁ hW₁ => ⟨hf.1, hf.2, hp.2 (T.setVm vm₁) hT hW₁⟩) with ⟨v, vm₁, ⟨U', l2, c2, s2⟩, hW₁, X', ⟨g', mk, t, L, e1, e2, hq, h1, hL, h2, h3⟩, st⟩ | ⟨q, vm₁, ⟨U', l2, c2, s2⟩, hW₁, X', ⟨g', mk, t, L, E, ce, e1, e2, hq, hce, hcv, hcl, h1, hL, h2, h3⟩, st⟩
  · dsimp only [Pt.U, Pt.locs, Pt.cells, Pt.slots] at X' e1 e2 h1 h2 h3 st
    subst h1; subst h2; subst h3
    exact Or.inl ⟨v, (T.setVm vm₁).calling g' mk As.toArray, t, U', L, hT, X', hL, e1, e2, hq, st⟩
  · dsimp only [Pt.U, Pt.locs, Pt.cells, Pt.slots] at X' e1 e2 h1 h2 h3 st hcl
    subst h1; subst h2; subst h3
    exact Or.inr ⟨q, (T.setVm vm₁).calling g' mk As.toArray, t, U', L, E, ce, hT, X', hL, e1, e2, hq, hce, hcv, vx_cls hW₁ hcl, st⟩
end
end VXH
theorem vx_ofWH {l : Launch} {y : MethodName} {ws ws' : List Cond} {rm : Room} {Pc : Array Value → State → Prop} {Qc : Array Value → State → Outcome → State → Prop} {XC : String → State → State → Prop} {mc ms : Nat} {free : Addr → Prop} {cc : ByteArray} {maxL : Nat} {ret : Option FieldType} {hh : List (Nat × Nat × Nat × Nat)}
    (hy : plainName y.cls = true) (hw : ws = Cond.codeWith y cc maxL ret hh :: ws')
    (body : ∀ p e s m args below meth c s₁, BodyLoose p l y (headSpec ws rm) cc maxL ret e s m args below meth c s₁ → c.maxLocals = maxL → Pc args s →
      W p l e (headSpec ws rm).room s m args below meth c s.heap [] 0 0 (vx_MQ below Qc XC args s mc ms free) (entryFrame m args maxL)) : vx_Met l y ws rm Pc Qc XC mc ms free := by
  refine MetFree.of_bodyS (code := cc) (maxLocals := maxL) (ret := ret) hy ?_ ?_
  · intro args s m h hn
    obtain ⟨m9, meth, c, hn9, h1, h2, h3, h4, -, h5, h6, -⟩ := Cond.codeWith_spec (atoms_spec (ws := ws) h _ (by rw [hw]; exact List.mem_cons_self))
    cases hn.symm.trans hn9
    exact ⟨meth, c, h1, h2, h3, h4, h5, h6⟩
  · intro p e s m args below meth c s₁ B hml hP _
    have hh0 : s₁.heap = s.heap := by rw [B.state]; rfl
    obtain ⟨t, a1, o, b1, b2, b3⟩ := body p e s m args below meth c s₁ B hml hP s₁ hh0 (Stand.of_body B)
    exact ⟨t, o, a1, b1, b2, b3⟩
/-! ===== END ===== -/
end
section
/-! our names: the good words of the tables, the classes, the methods -/
def sd_all : List Cond := lw_tbl.filter goodWord
theorem sd_m (i : Nat) {w : Cond} (h : lw_tbl[i]? = some w) (g : goodWord w = true) : w ∈ sd_all := List.mem_filter.mpr ⟨List.mem_of_getElem? h, g⟩
theorem sd_ms {L : List Cond} (h : ∀ w ∈ L, w ∈ lw_tbl) (g : L.all goodWord = true) : ∀ w ∈ L, w ∈ sd_all := fun w hw => List.mem_filter.mpr ⟨h w hw, List.all_eq_true.mp g w hw⟩
def T_A : u_T := fun k => match k with
  | 0 => ("StockDesk$ActRow", "kept", "[I", true)
  | 1 => ("StockDesk$ActRow", "xs", "[I", true)
  | 2 => ("StockDesk$ActRow", "ys", "[I", true)
  | 3 => ("StockDesk$ActRow", "zs", "[I", true)
  | _ => ("StockDesk$ActRow", "size", "I", false)
def ty_A : Nat → FieldType := fun k => match k with
  | 0 => .array .int
  | 1 => .array .int
  | 2 => .array .int
  | 3 => .array .int
  | _ => .int
theorem nm_A : ∀ a, a < 5 → ∀ b, b < 5 → a ≠ b → (T_A a).2.1 ≠ (T_A b).2.1 := by decide +kernel
theorem tyok_A : ∀ k, k < 5 → parseFieldDescriptor (T_A k).2.2.1 = some (ty_A k) := by decide +kernel
theorem in_A : ∀ w ∈ u_ws "StockDesk$ActRow" T_A 5, w ∈ sd_all := sd_ms (by decide +kernel) (by decide +kernel)
def T_H : u_T := fun k => match k with
  | 0 => ("StockDesk$House", "made", "[I", true)
  | 1 => ("StockDesk$House", "there", "[Z", true)
  | 2 => ("StockDesk$House", "thingUses", "[I", true)
  | 3 => ("StockDesk$House", "partKind", "[I", true)
  | 4 => ("StockDesk$House", "partBase", "[I", true)
  | 5 => ("StockDesk$House", "partFactor", "[I", true)
  | 6 => ("StockDesk$House", "partWay", "[I", true)
  | 7 => ("StockDesk$House", "partWorth", "[J", true)
  | 8 => ("StockDesk$House", "failures", "I", false)
  | 9 => ("StockDesk$House", "toldWay", "I", false)
  | 10 => ("StockDesk$House", "toldPart", "I", false)
  | 11 => ("StockDesk$House", "toldNumber", "I", false)
  | 12 => ("StockDesk$House", "answered", "I", false)
  | 13 => ("StockDesk$House", "collected", "I", false)
  | 14 => ("StockDesk$House", "sumOne", "I", false)
  | _ => ("StockDesk$House", "sumTwo", "I", false)
def ty_H : Nat → FieldType := fun k => match k with
  | 0 => .array .int
  | 1 => .array .boolean
  | 2 => .array .int
  | 3 => .array .int
  | 4 => .array .int
  | 5 => .array .int
  | 6 => .array .int
  | 7 => .array .long
  | 8 => .int
  | 9 => .int
  | 10 => .int
  | 11 => .int
  | 12 => .int
  | 13 => .int
  | 14 => .int
  | _ => .int
theorem nm_H : ∀ a, a < 16 → ∀ b, b < 16 → a ≠ b → (T_H a).2.1 ≠ (T_H b).2.1 := by decide +kernel
theorem tyok_H : ∀ k, k < 16 → parseFieldDescriptor (T_H k).2.2.1 = some (ty_H k) := by decide +kernel
theorem in_H : ∀ w ∈ u_ws "StockDesk$House" T_H 16, w ∈ sd_all := sd_ms (by decide +kernel) (by decide +kernel)
def T_D : u_T := fun k => match k with
  | 0 => ("StockDesk", "acts", "LStockDesk$ActRow;", true)
  | 1 => ("StockDesk", "house", "LStockDesk$House;", true)
  | _ => ("StockDesk", "secondHouse", "LStockDesk$House;", true)
def ty_D : Nat → FieldType := fun k => match k with
  | 0 => .object "StockDesk$ActRow"
  | 1 => .object "StockDesk$House"
  | _ => .object "StockDesk$House"
theorem nm_D : ∀ a, a < 3 → ∀ b, b < 3 → a ≠ b → (T_D a).2.1 ≠ (T_D b).2.1 := by decide +kernel
theorem tyok_D : ∀ k, k < 3 → parseFieldDescriptor (T_D k).2.2.1 = some (ty_D k) := by decide +kernel
theorem in_D : ∀ w ∈ u_ws "StockDesk" T_D 3, w ∈ sd_all := sd_ms (by decide +kernel) (by decide +kernel)
def T_M : u_T := fun k => match k with
  | 0 => ("StockDeskModel", "thrownCode", "I", false)
  | 1 => ("StockDeskModel", "acts", "I", false)
  | 2 => ("StockDeskModel", "act", "[I", true)
  | 3 => ("StockDeskModel", "made", "[I", true)
  | 4 => ("StockDeskModel", "there", "[Z", true)
  | 5 => ("StockDeskModel", "used", "[I", true)
  | 6 => ("StockDeskModel", "kindOf", "[I", true)
  | 7 => ("StockDeskModel", "base", "[I", true)
  | 8 => ("StockDeskModel", "factor", "[I", true)
  | 9 => ("StockDeskModel", "worths", "[J", true)
  | 10 => ("StockDeskModel", "ways", "[I", true)
  | 11 => ("StockDeskModel", "failures", "I", false)
  | 12 => ("StockDeskModel", "lastWay", "I", false)
  | 13 => ("StockDeskModel", "lastPart", "I", false)
  | 14 => ("StockDeskModel", "lastNumber", "I", false)
  | 15 => ("StockDeskModel", "answered", "I", false)
  | 16 => ("StockDeskModel", "collected", "I", false)
  | 17 => ("StockDeskModel", "one", "I", false)
  | _ => ("StockDeskModel", "two", "I", false)
def ty_M : Nat → FieldType := fun k => match k with
  | 0 => .int
  | 1 => .int
  | 2 => .array .int
  | 3 => .array .int
  | 4 => .array .boolean
  | 5 => .array .int
  | 6 => .array .int
  | 7 => .array .int
  | 8 => .array .int
  | 9 => .array .long
  | 10 => .array .int
  | 11 => .int
  | 12 => .int
  | 13 => .int
  | 14 => .int
  | 15 => .int
  | 16 => .int
  | 17 => .int
  | _ => .int
theorem nm_M : ∀ a, a < 19 → ∀ b, b < 19 → a ≠ b → (T_M a).2.1 ≠ (T_M b).2.1 := by decide +kernel
theorem tyok_M : ∀ k, k < 19 → parseFieldDescriptor (T_M k).2.2.1 = some (ty_M k) := by decide +kernel
theorem in_M : ∀ w ∈ u_ws "StockDeskModel" T_M 19, w ∈ sd_all := sd_ms (by decide +kernel) (by decide +kernel)
abbrev vwCl : List vw_C := [("StockDesk$ActRow", T_A, 5), ("StockDesk$House", T_H, 16), ("StockDesk", T_D, 3), ("StockDeskModel", T_M, 19)]
abbrev y_D_init : MethodName := ⟨"StockDesk", "<init>", "()V"⟩
abbrev c_D_init : ByteArray := prog_1_method_1_code
abbrev y_D_make : MethodName := ⟨"StockDesk", "make", "(I)I"⟩
abbrev c_D_make : ByteArray := prog_1_method_2_code
abbrev y_D_drop : MethodName := ⟨"StockDesk", "drop", "(II)I"⟩
abbrev c_D_drop : ByteArray := prog_1_method_3_code
abbrev y_D_serves : MethodName := ⟨"StockDesk", "serves", "(II)V"⟩
abbrev c_D_serves : ByteArray := prog_1_method_4_code
abbrev y_D_answers : MethodName := ⟨"StockDesk", "answers", "(III)V"⟩
abbrev c_D_answers : ByteArray := prog_1_method_5_code
abbrev y_D_fails : MethodName := ⟨"StockDesk", "fails", "(II)I"⟩
abbrev c_D_fails : ByteArray := prog_1_method_6_code
abbrev y_D_call : MethodName := ⟨"StockDesk", "call", "(III)J"⟩
abbrev c_D_call : ByteArray := prog_1_method_7_code
abbrev y_D_again : MethodName := ⟨"StockDesk", "again", "(III)J"⟩
abbrev c_D_again : ByteArray := prog_1_method_8_code
abbrev y_D_collect : MethodName := ⟨"StockDesk", "collect", "(I)I"⟩
abbrev c_D_collect : ByteArray := prog_1_method_9_code
abbrev y_D_sums : MethodName := ⟨"StockDesk", "sums", "()J"⟩
abbrev c_D_sums : ByteArray := prog_1_method_10_code
abbrev y_D_back : MethodName := ⟨"StockDesk", "back", "()I"⟩
abbrev c_D_back : ByteArray := prog_1_method_11_code
abbrev y_D_told : MethodName := ⟨"StockDesk", "told", "(I)I"⟩
abbrev c_D_told : ByteArray := prog_1_method_12_code
abbrev y_D_worth : MethodName := ⟨"StockDesk", "worth", "(I)J"⟩
abbrev c_D_worth : ByteArray := prog_1_method_13_code
abbrev y_D_uses : MethodName := ⟨"StockDesk", "uses", "(II)I"⟩
abbrev c_D_uses : ByteArray := prog_1_method_14_code
abbrev y_D_numbers : MethodName := ⟨"StockDesk", "numbers", "(II)I"⟩
abbrev c_D_numbers : ByteArray := prog_1_method_15_code
abbrev y_D_count : MethodName := ⟨"StockDesk", "count", "(I)I"⟩
abbrev c_D_count : ByteArray := prog_1_method_16_code
abbrev y_D_doAndKeep : MethodName := ⟨"StockDesk", "doAndKeep", "(IIII)J"⟩
abbrev c_D_doAndKeep : ByteArray := prog_1_method_17_code
abbrev y_D_requireRoomForAct : MethodName := ⟨"StockDesk", "requireRoomForAct", "()V"⟩
abbrev c_D_requireRoomForAct : ByteArray := prog_1_method_18_code
abbrev y_D_requireKind : MethodName := ⟨"StockDesk", "requireKind", "(I)V"⟩
abbrev c_D_requireKind : ByteArray := prog_1_method_19_code
abbrev y_D_requirePart : MethodName := ⟨"StockDesk", "requirePart", "(I)V"⟩
abbrev c_D_requirePart : ByteArray := prog_1_method_20_code
abbrev y_D_requireBelow : MethodName := ⟨"StockDesk", "requireBelow", "(II)V"⟩
abbrev c_D_requireBelow : ByteArray := prog_1_method_21_code
abbrev y_D_requireAmount : MethodName := ⟨"StockDesk", "requireAmount", "(I)V"⟩
abbrev c_D_requireAmount : ByteArray := prog_1_method_22_code
abbrev y_D_requireThing : MethodName := ⟨"StockDesk", "requireThing", "(LStockDesk$House;II)V"⟩
abbrev c_D_requireThing : ByteArray := prog_1_method_23_code
abbrev y_M_init : MethodName := ⟨"StockDeskModel", "<init>", "()V"⟩
abbrev c_M_init : ByteArray := prog_5_method_1_code
abbrev y_M_fresh : MethodName := ⟨"StockDeskModel", "fresh", "()V"⟩
abbrev c_M_fresh : ByteArray := prog_5_method_2_code
abbrev y_M_not : MethodName := ⟨"StockDeskModel", "not", "(III)Z"⟩
abbrev c_M_not : ByteArray := prog_5_method_3_code
abbrev y_M_isThere : MethodName := ⟨"StockDeskModel", "isThere", "(II)Z"⟩
abbrev c_M_isThere : ByteArray := prog_5_method_4_code
abbrev y_M_keep : MethodName := ⟨"StockDeskModel", "keep", "(IIII)V"⟩
abbrev c_M_keep : ByteArray := prog_5_method_5_code
abbrev y_M_does : MethodName := ⟨"StockDeskModel", "does", "(IIII)V"⟩
abbrev c_M_does : ByteArray := prog_5_method_6_code
abbrev y_M_calls : MethodName := ⟨"StockDeskModel", "calls", "(III)V"⟩
abbrev c_M_calls : ByteArray := prog_5_method_7_code
abbrev y_M_answer : MethodName := ⟨"StockDeskModel", "answer", "(III)J"⟩
abbrev c_M_answer : ByteArray := prog_5_method_8_code
abbrev y_M_thrown : MethodName := ⟨"StockDeskModel", "thrown", "()I"⟩
abbrev c_M_thrown : ByteArray := prog_5_method_9_code
abbrev y_M_make : MethodName := ⟨"StockDeskModel", "make", "(I)I"⟩
abbrev c_M_make : ByteArray := prog_5_method_10_code
abbrev y_M_drop : MethodName := ⟨"StockDeskModel", "drop", "(II)I"⟩
abbrev c_M_drop : ByteArray := prog_5_method_11_code
abbrev y_M_serves : MethodName := ⟨"StockDeskModel", "serves", "(II)V"⟩
abbrev c_M_serves : ByteArray := prog_5_method_12_code
abbrev y_M_answers : MethodName := ⟨"StockDeskModel", "answers", "(III)V"⟩
abbrev c_M_answers : ByteArray := prog_5_method_13_code
abbrev y_M_fails : MethodName := ⟨"StockDeskModel", "fails", "(II)I"⟩
abbrev c_M_fails : ByteArray := prog_5_method_14_code
abbrev y_M_call : MethodName := ⟨"StockDeskModel", "call", "(III)J"⟩
abbrev c_M_call : ByteArray := prog_5_method_15_code
abbrev y_M_again : MethodName := ⟨"StockDeskModel", "again", "(III)J"⟩
abbrev c_M_again : ByteArray := prog_5_method_16_code
abbrev y_M_collect : MethodName := ⟨"StockDeskModel", "collect", "(I)I"⟩
abbrev c_M_collect : ByteArray := prog_5_method_17_code
abbrev y_M_sums : MethodName := ⟨"StockDeskModel", "sums", "()J"⟩
abbrev c_M_sums : ByteArray := prog_5_method_18_code
abbrev y_M_back : MethodName := ⟨"StockDeskModel", "back", "()I"⟩
abbrev c_M_back : ByteArray := prog_5_method_19_code
abbrev y_M_told : MethodName := ⟨"StockDeskModel", "told", "(I)I"⟩
abbrev c_M_told : ByteArray := prog_5_method_20_code
abbrev y_M_worth : MethodName := ⟨"StockDeskModel", "worth", "(I)J"⟩
abbrev c_M_worth : ByteArray := prog_5_method_21_code
abbrev y_M_uses : MethodName := ⟨"StockDeskModel", "uses", "(II)I"⟩
abbrev c_M_uses : ByteArray := prog_5_method_22_code
abbrev y_M_thingsOf : MethodName := ⟨"StockDeskModel", "thingsOf", "(I)I"⟩
abbrev c_M_thingsOf : ByteArray := prog_5_method_23_code
abbrev y_M_numbers : MethodName := ⟨"StockDeskModel", "numbers", "(II)I"⟩
abbrev c_M_numbers : ByteArray := prog_5_method_24_code
abbrev y_M_count : MethodName := ⟨"StockDeskModel", "count", "(I)I"⟩
abbrev c_M_count : ByteArray := prog_5_method_25_code
abbrev y_A_init : MethodName := ⟨"StockDesk$ActRow", "<init>", "()V"⟩
abbrev c_A_init : ByteArray := prog_2_method_1_code
abbrev y_A_size : MethodName := ⟨"StockDesk$ActRow", "size", "()I"⟩
abbrev c_A_size : ByteArray := prog_2_method_2_code
abbrev y_A_keep : MethodName := ⟨"StockDesk$ActRow", "keep", "(IIII)V"⟩
abbrev c_A_keep : ByteArray := prog_2_method_3_code
abbrev y_A_removeLatest : MethodName := ⟨"StockDesk$ActRow", "removeLatest", "()V"⟩
abbrev c_A_removeLatest : ByteArray := prog_2_method_4_code
abbrev y_A_doAllOn : MethodName := ⟨"StockDesk$ActRow", "doAllOn", "(LStockDesk$House;)V"⟩
abbrev c_A_doAllOn : ByteArray := prog_2_method_5_code
abbrev y_H_init : MethodName := ⟨"StockDesk$House", "<init>", "()V"⟩
abbrev c_H_init : ByteArray := prog_3_method_1_code
abbrev y_H_clear : MethodName := ⟨"StockDesk$House", "clear", "()V"⟩
abbrev c_H_clear : ByteArray := prog_3_method_2_code
abbrev y_H_clearThings : MethodName := ⟨"StockDesk$House", "clearThings", "()V"⟩
abbrev c_H_clearThings : ByteArray := prog_3_method_3_code
abbrev y_H_clearParts : MethodName := ⟨"StockDesk$House", "clearParts", "()V"⟩
abbrev c_H_clearParts : ByteArray := prog_3_method_4_code
abbrev y_H_perform : MethodName := ⟨"StockDesk$House", "perform", "(IIII)J"⟩
abbrev c_H_perform : ByteArray := prog_3_method_5_code
abbrev y_H_addThing : MethodName := ⟨"StockDesk$House", "addThing", "(I)I"⟩
abbrev c_H_addThing : ByteArray := prog_3_method_6_code
abbrev y_H_removeThing : MethodName := ⟨"StockDesk$House", "removeThing", "(II)I"⟩
abbrev c_H_removeThing : ByteArray := prog_3_method_7_code
abbrev y_H_setKind : MethodName := ⟨"StockDesk$House", "setKind", "(II)I"⟩
abbrev c_H_setKind : ByteArray := prog_3_method_8_code
abbrev y_H_setAnswer : MethodName := ⟨"StockDesk$House", "setAnswer", "(III)I"⟩
abbrev c_H_setAnswer : ByteArray := prog_3_method_9_code
abbrev y_H_setWay : MethodName := ⟨"StockDesk$House", "setWay", "(II)I"⟩
abbrev c_H_setWay : ByteArray := prog_3_method_10_code
abbrev y_H_answerCall : MethodName := ⟨"StockDesk$House", "answerCall", "(III)J"⟩
abbrev c_H_answerCall : ByteArray := prog_3_method_11_code
abbrev y_H_tellFailure : MethodName := ⟨"StockDesk$House", "tellFailure", "(II)V"⟩
abbrev c_H_tellFailure : ByteArray := prog_3_method_12_code
abbrev y_H_addByte : MethodName := ⟨"StockDesk$House", "addByte", "(I)I"⟩
abbrev c_H_addByte : ByteArray := prog_3_method_13_code
abbrev y_H_answerOf : MethodName := ⟨"StockDesk$House", "answerOf", "(III)J"⟩
abbrev c_H_answerOf : ByteArray := prog_3_method_14_code
abbrev y_H_isFailing : MethodName := ⟨"StockDesk$House", "isFailing", "(I)Z"⟩
abbrev c_H_isFailing : ByteArray := prog_3_method_15_code
abbrev y_H_kindOf : MethodName := ⟨"StockDesk$House", "kindOf", "(I)I"⟩
abbrev c_H_kindOf : ByteArray := prog_3_method_16_code
abbrev y_H_worthOf : MethodName := ⟨"StockDesk$House", "worthOf", "(I)J"⟩
abbrev c_H_worthOf : ByteArray := prog_3_method_17_code
abbrev y_H_hasThing : MethodName := ⟨"StockDesk$House", "hasThing", "(II)Z"⟩
abbrev c_H_hasThing : ByteArray := prog_3_method_18_code
abbrev y_H_usesOf : MethodName := ⟨"StockDesk$House", "usesOf", "(II)I"⟩
abbrev c_H_usesOf : ByteArray := prog_3_method_19_code
abbrev y_H_madeOf : MethodName := ⟨"StockDesk$House", "madeOf", "(I)I"⟩
abbrev c_H_madeOf : ByteArray := prog_3_method_20_code
abbrev y_H_thereOf : MethodName := ⟨"StockDesk$House", "thereOf", "(I)I"⟩
abbrev c_H_thereOf : ByteArray := prog_3_method_21_code
abbrev y_H_thereOfAll : MethodName := ⟨"StockDesk$House", "thereOfAll", "()I"⟩
abbrev c_H_thereOfAll : ByteArray := prog_3_method_22_code
abbrev y_H_bothSums : MethodName := ⟨"StockDesk$House", "bothSums", "()J"⟩
abbrev c_H_bothSums : ByteArray := prog_3_method_23_code
abbrev y_H_slotOf : MethodName := ⟨"StockDesk$House", "slotOf", "(II)I"⟩
abbrev c_H_slotOf : ByteArray := prog_3_method_24_code
abbrev y_L_make : MethodName := ⟨"StockDeskLaw", "make", "(LStockDesk;I[J)I"⟩
abbrev c_L_make : ByteArray := method_3_code
abbrev y_L_drop : MethodName := ⟨"StockDeskLaw", "drop", "(LStockDesk;II[J)I"⟩
abbrev c_L_drop : ByteArray := method_4_code
abbrev y_L_serves : MethodName := ⟨"StockDeskLaw", "serves", "(LStockDesk;II)I"⟩
abbrev c_L_serves : ByteArray := method_5_code
abbrev y_L_answers : MethodName := ⟨"StockDeskLaw", "answers", "(LStockDesk;III)I"⟩
abbrev c_L_answers : ByteArray := method_6_code
abbrev y_L_fails : MethodName := ⟨"StockDeskLaw", "fails", "(LStockDesk;II[J)I"⟩
abbrev c_L_fails : ByteArray := method_7_code
abbrev y_L_call : MethodName := ⟨"StockDeskLaw", "call", "(LStockDesk;III[J)I"⟩
abbrev c_L_call : ByteArray := method_8_code
abbrev y_L_again : MethodName := ⟨"StockDeskLaw", "again", "(LStockDesk;III[J)I"⟩
abbrev c_L_again : ByteArray := method_9_code
abbrev y_L_collect : MethodName := ⟨"StockDeskLaw", "collect", "(LStockDesk;I[J)I"⟩
abbrev c_L_collect : ByteArray := method_10_code
abbrev y_L_back : MethodName := ⟨"StockDeskLaw", "back", "(LStockDesk;[J)I"⟩
abbrev c_L_back : ByteArray := method_11_code
abbrev y_L_told : MethodName := ⟨"StockDeskLaw", "told", "(LStockDesk;I[J)I"⟩
abbrev c_L_told : ByteArray := method_12_code
abbrev y_L_worth : MethodName := ⟨"StockDeskLaw", "worth", "(LStockDesk;I[J)I"⟩
abbrev c_L_worth : ByteArray := method_13_code
abbrev y_L_uses : MethodName := ⟨"StockDeskLaw", "uses", "(LStockDesk;II[J)I"⟩
abbrev c_L_uses : ByteArray := method_14_code
abbrev y_L_numbers : MethodName := ⟨"StockDeskLaw", "numbers", "(LStockDesk;II[J)I"⟩
abbrev c_L_numbers : ByteArray := method_15_code
end
section
/-! places of the words -/
theorem tb_0 : (Cond.selects "StockDesk$House" ⟨"StockDesk$House", "clearThings", "()V"⟩ ⟨"StockDesk$House", "clearThings", "()V"⟩) ∈ sd_all := sd_m 0 (by decide +kernel) (by decide +kernel)
theorem tb_1 : (Cond.selects "StockDesk$House" ⟨"StockDesk$House", "clearParts", "()V"⟩ ⟨"StockDesk$House", "clearParts", "()V"⟩) ∈ sd_all := sd_m 1 (by decide +kernel) (by decide +kernel)
theorem tb_5 : (Cond.selects "StockDesk$House" ⟨"StockDesk$House", "addThing", "(I)I"⟩ ⟨"StockDesk$House", "addThing", "(I)I"⟩) ∈ sd_all := sd_m 5 (by decide +kernel) (by decide +kernel)
theorem tb_6 : (Cond.selects "StockDesk$House" ⟨"StockDesk$House", "removeThing", "(II)I"⟩ ⟨"StockDesk$House", "removeThing", "(II)I"⟩) ∈ sd_all := sd_m 6 (by decide +kernel) (by decide +kernel)
theorem tb_7 : (Cond.selects "StockDesk$House" ⟨"StockDesk$House", "setKind", "(II)I"⟩ ⟨"StockDesk$House", "setKind", "(II)I"⟩) ∈ sd_all := sd_m 7 (by decide +kernel) (by decide +kernel)
theorem tb_8 : (Cond.selects "StockDesk$House" ⟨"StockDesk$House", "setAnswer", "(III)I"⟩ ⟨"StockDesk$House", "setAnswer", "(III)I"⟩) ∈ sd_all := sd_m 8 (by decide +kernel) (by decide +kernel)
theorem tb_9 : (Cond.selects "StockDesk$House" ⟨"StockDesk$House", "setWay", "(II)I"⟩ ⟨"StockDesk$House", "setWay", "(II)I"⟩) ∈ sd_all := sd_m 9 (by decide +kernel) (by decide +kernel)
theorem tb_10 : (Cond.selects "StockDesk$House" ⟨"StockDesk$House", "answerCall", "(III)J"⟩ ⟨"StockDesk$House", "answerCall", "(III)J"⟩) ∈ sd_all := sd_m 10 (by decide +kernel) (by decide +kernel)
theorem tb_11 : (Cond.selects "StockDesk$House" ⟨"StockDesk$House", "tellFailure", "(II)V"⟩ ⟨"StockDesk$House", "tellFailure", "(II)V"⟩) ∈ sd_all := sd_m 11 (by decide +kernel) (by decide +kernel)
theorem tb_12 : (Cond.selects "StockDesk$House" ⟨"StockDesk$House", "addByte", "(I)I"⟩ ⟨"StockDesk$House", "addByte", "(I)I"⟩) ∈ sd_all := sd_m 12 (by decide +kernel) (by decide +kernel)
theorem tb_23 : (Cond.initialized "StockDesk$House") ∈ sd_all := sd_m 23 (by decide +kernel) (by decide +kernel)
theorem tb_38 : (Cond.instanceMethod ⟨"java/lang/Object", "<init>", "()V"⟩) ∈ sd_all := sd_m 38 (by decide +kernel) (by decide +kernel)
theorem tb_39 : (Cond.code ⟨"java/lang/Object", "<init>", "()V"⟩ object_method_1_code 1 none) ∈ sd_all := sd_m 39 (by decide +kernel) (by decide +kernel)
theorem tb_45 : (Cond.methodLink "StockDesk$ActRow" 3 ⟨"java/lang/Object", "<init>", "()V"⟩) ∈ sd_all := sd_m 45 (by decide +kernel) (by decide +kernel)
theorem tb_46 : (Cond.fieldLink "StockDesk$ActRow" 9 "StockDesk$ActRow" "kept" "[I") ∈ sd_all := sd_m 46 (by decide +kernel) (by decide +kernel)
theorem tb_47 : (Cond.fieldLink "StockDesk$ActRow" 15 "StockDesk$ActRow" "xs" "[I") ∈ sd_all := sd_m 47 (by decide +kernel) (by decide +kernel)
theorem tb_48 : (Cond.fieldLink "StockDesk$ActRow" 18 "StockDesk$ActRow" "ys" "[I") ∈ sd_all := sd_m 48 (by decide +kernel) (by decide +kernel)
theorem tb_49 : (Cond.fieldLink "StockDesk$ActRow" 21 "StockDesk$ActRow" "zs" "[I") ∈ sd_all := sd_m 49 (by decide +kernel) (by decide +kernel)
theorem tb_50 : (Cond.fieldLink "StockDesk$ActRow" 24 "StockDesk$ActRow" "size" "I") ∈ sd_all := sd_m 50 (by decide +kernel) (by decide +kernel)
theorem tb_62 : (Cond.arrayClass FieldType.int) ∈ sd_all := sd_m 62 (by decide +kernel) (by decide +kernel)
theorem tb_68 : (Cond.methodLink "StockDesk$House" 3 ⟨"java/lang/Object", "<init>", "()V"⟩) ∈ sd_all := sd_m 68 (by decide +kernel) (by decide +kernel)
theorem tb_69 : (Cond.methodLink "StockDesk$House" 38 ⟨"StockDesk$House", "clear", "()V"⟩) ∈ sd_all := sd_m 69 (by decide +kernel) (by decide +kernel)
theorem tb_70 : (Cond.instanceMethod ⟨"StockDesk$House", "clear", "()V"⟩) ∈ sd_all := sd_m 70 (by decide +kernel) (by decide +kernel)
theorem tb_71 : (Cond.selects "StockDesk$House" ⟨"StockDesk$House", "clear", "()V"⟩ ⟨"StockDesk$House", "clear", "()V"⟩) ∈ sd_all := sd_m 71 (by decide +kernel) (by decide +kernel)
theorem tb_72 : (Cond.code ⟨"StockDesk$House", "clear", "()V"⟩ prog_3_method_2_code 1 none) ∈ sd_all := sd_m 72 (by decide +kernel) (by decide +kernel)
theorem tb_73 : (Cond.methodLink "StockDesk$House" 41 ⟨"StockDesk$House", "clearThings", "()V"⟩) ∈ sd_all := sd_m 73 (by decide +kernel) (by decide +kernel)
theorem tb_75 : (Cond.instanceMethod ⟨"StockDesk$House", "clearThings", "()V"⟩) ∈ sd_all := sd_m 75 (by decide +kernel) (by decide +kernel)
theorem tb_76 : (Cond.code ⟨"StockDesk$House", "clearThings", "()V"⟩ prog_3_method_3_code 2 none) ∈ sd_all := sd_m 76 (by decide +kernel) (by decide +kernel)
theorem tb_77 : (Cond.methodLink "StockDesk$House" 44 ⟨"StockDesk$House", "clearParts", "()V"⟩) ∈ sd_all := sd_m 77 (by decide +kernel) (by decide +kernel)
theorem tb_79 : (Cond.instanceMethod ⟨"StockDesk$House", "clearParts", "()V"⟩) ∈ sd_all := sd_m 79 (by decide +kernel) (by decide +kernel)
theorem tb_80 : (Cond.code ⟨"StockDesk$House", "clearParts", "()V"⟩ prog_3_method_4_code 2 none) ∈ sd_all := sd_m 80 (by decide +kernel) (by decide +kernel)
theorem tb_81 : (Cond.fieldLink "StockDesk$House" 9 "StockDesk$House" "made" "[I") ∈ sd_all := sd_m 81 (by decide +kernel) (by decide +kernel)
theorem tb_82 : (Cond.fieldLink "StockDesk$House" 15 "StockDesk$House" "there" "[Z") ∈ sd_all := sd_m 82 (by decide +kernel) (by decide +kernel)
theorem tb_83 : (Cond.fieldLink "StockDesk$House" 19 "StockDesk$House" "thingUses" "[I") ∈ sd_all := sd_m 83 (by decide +kernel) (by decide +kernel)
theorem tb_84 : (Cond.fieldLink "StockDesk$House" 22 "StockDesk$House" "partKind" "[I") ∈ sd_all := sd_m 84 (by decide +kernel) (by decide +kernel)
theorem tb_85 : (Cond.fieldLink "StockDesk$House" 25 "StockDesk$House" "partBase" "[I") ∈ sd_all := sd_m 85 (by decide +kernel) (by decide +kernel)
theorem tb_86 : (Cond.fieldLink "StockDesk$House" 28 "StockDesk$House" "partFactor" "[I") ∈ sd_all := sd_m 86 (by decide +kernel) (by decide +kernel)
theorem tb_87 : (Cond.fieldLink "StockDesk$House" 31 "StockDesk$House" "partWay" "[I") ∈ sd_all := sd_m 87 (by decide +kernel) (by decide +kernel)
theorem tb_88 : (Cond.fieldLink "StockDesk$House" 34 "StockDesk$House" "partWorth" "[J") ∈ sd_all := sd_m 88 (by decide +kernel) (by decide +kernel)
theorem tb_89 : (Cond.fieldLink "StockDesk$House" 47 "StockDesk$House" "failures" "I") ∈ sd_all := sd_m 89 (by decide +kernel) (by decide +kernel)
theorem tb_91 : (Cond.fieldLink "StockDesk$House" 51 "StockDesk$House" "toldWay" "I") ∈ sd_all := sd_m 91 (by decide +kernel) (by decide +kernel)
theorem tb_93 : (Cond.fieldLink "StockDesk$House" 54 "StockDesk$House" "toldPart" "I") ∈ sd_all := sd_m 93 (by decide +kernel) (by decide +kernel)
theorem tb_95 : (Cond.fieldLink "StockDesk$House" 57 "StockDesk$House" "toldNumber" "I") ∈ sd_all := sd_m 95 (by decide +kernel) (by decide +kernel)
theorem tb_97 : (Cond.fieldLink "StockDesk$House" 60 "StockDesk$House" "answered" "I") ∈ sd_all := sd_m 97 (by decide +kernel) (by decide +kernel)
theorem tb_99 : (Cond.fieldLink "StockDesk$House" 63 "StockDesk$House" "collected" "I") ∈ sd_all := sd_m 99 (by decide +kernel) (by decide +kernel)
theorem tb_101 : (Cond.fieldLink "StockDesk$House" 66 "StockDesk$House" "sumOne" "I") ∈ sd_all := sd_m 101 (by decide +kernel) (by decide +kernel)
theorem tb_102 : (Cond.fieldLink "StockDesk$House" 69 "StockDesk$House" "sumTwo" "I") ∈ sd_all := sd_m 102 (by decide +kernel) (by decide +kernel)
theorem tb_136 : (Cond.arrayClass FieldType.boolean) ∈ sd_all := sd_m 136 (by decide +kernel) (by decide +kernel)
theorem tb_137 : (Cond.arrayClass FieldType.long) ∈ sd_all := sd_m 137 (by decide +kernel) (by decide +kernel)
theorem tb_156 : (Cond.constantLong "StockDesk$House" 115 65536) ∈ sd_all := sd_m 156 (by decide +kernel) (by decide +kernel)
theorem tb_169 : (Cond.methodLink "StockDesk$House" 112 ⟨"StockDesk$House", "thereOf", "(I)I"⟩) ∈ sd_all := sd_m 169 (by decide +kernel) (by decide +kernel)
theorem tb_170 : (Cond.instanceMethod ⟨"StockDesk$House", "thereOf", "(I)I"⟩) ∈ sd_all := sd_m 170 (by decide +kernel) (by decide +kernel)
theorem tb_171 : (Cond.selects "StockDesk$House" ⟨"StockDesk$House", "thereOf", "(I)I"⟩ ⟨"StockDesk$House", "thereOf", "(I)I"⟩) ∈ sd_all := sd_m 171 (by decide +kernel) (by decide +kernel)
theorem tb_172 : (Cond.code ⟨"StockDesk$House", "thereOf", "(I)I"⟩ prog_3_method_21_code 4 (some FieldType.int)) ∈ sd_all := sd_m 172 (by decide +kernel) (by decide +kernel)
theorem tb_173 : (Cond.methodLink "StockDesk$House" 97 ⟨"StockDesk$House", "slotOf", "(II)I"⟩) ∈ sd_all := sd_m 173 (by decide +kernel) (by decide +kernel)
theorem tb_174 : (Cond.static ⟨"StockDesk$House", "slotOf", "(II)I"⟩) ∈ sd_all := sd_m 174 (by decide +kernel) (by decide +kernel)
theorem tb_175 : (Cond.code ⟨"StockDesk$House", "slotOf", "(II)I"⟩ prog_3_method_24_code 2 (some FieldType.int)) ∈ sd_all := sd_m 175 (by decide +kernel) (by decide +kernel)
theorem tb_294 : (Cond.instanceMethod ⟨"StockDesk$House", "perform", "(IIII)J"⟩) ∈ sd_all := sd_m 294 (by decide +kernel) (by decide +kernel)
theorem tb_295 : (Cond.selects "StockDesk$House" ⟨"StockDesk$House", "perform", "(IIII)J"⟩ ⟨"StockDesk$House", "perform", "(IIII)J"⟩) ∈ sd_all := sd_m 295 (by decide +kernel) (by decide +kernel)
theorem tb_296 : (Cond.code ⟨"StockDesk$House", "perform", "(IIII)J"⟩ prog_3_method_5_code 5 (some FieldType.long)) ∈ sd_all := sd_m 296 (by decide +kernel) (by decide +kernel)
theorem tb_297 : (Cond.methodLink "StockDesk$House" 72 ⟨"StockDesk$House", "addThing", "(I)I"⟩) ∈ sd_all := sd_m 297 (by decide +kernel) (by decide +kernel)
theorem tb_299 : (Cond.instanceMethod ⟨"StockDesk$House", "addThing", "(I)I"⟩) ∈ sd_all := sd_m 299 (by decide +kernel) (by decide +kernel)
theorem tb_300 : (Cond.code ⟨"StockDesk$House", "addThing", "(I)I"⟩ prog_3_method_6_code 2 (some FieldType.int)) ∈ sd_all := sd_m 300 (by decide +kernel) (by decide +kernel)
theorem tb_301 : (Cond.methodLink "StockDesk$House" 76 ⟨"StockDesk$House", "removeThing", "(II)I"⟩) ∈ sd_all := sd_m 301 (by decide +kernel) (by decide +kernel)
theorem tb_303 : (Cond.instanceMethod ⟨"StockDesk$House", "removeThing", "(II)I"⟩) ∈ sd_all := sd_m 303 (by decide +kernel) (by decide +kernel)
theorem tb_304 : (Cond.code ⟨"StockDesk$House", "removeThing", "(II)I"⟩ prog_3_method_7_code 3 (some FieldType.int)) ∈ sd_all := sd_m 304 (by decide +kernel) (by decide +kernel)
theorem tb_305 : (Cond.methodLink "StockDesk$House" 80 ⟨"StockDesk$House", "setKind", "(II)I"⟩) ∈ sd_all := sd_m 305 (by decide +kernel) (by decide +kernel)
theorem tb_307 : (Cond.instanceMethod ⟨"StockDesk$House", "setKind", "(II)I"⟩) ∈ sd_all := sd_m 307 (by decide +kernel) (by decide +kernel)
theorem tb_308 : (Cond.code ⟨"StockDesk$House", "setKind", "(II)I"⟩ prog_3_method_8_code 4 (some FieldType.int)) ∈ sd_all := sd_m 308 (by decide +kernel) (by decide +kernel)
theorem tb_309 : (Cond.methodLink "StockDesk$House" 83 ⟨"StockDesk$House", "setAnswer", "(III)I"⟩) ∈ sd_all := sd_m 309 (by decide +kernel) (by decide +kernel)
theorem tb_311 : (Cond.instanceMethod ⟨"StockDesk$House", "setAnswer", "(III)I"⟩) ∈ sd_all := sd_m 311 (by decide +kernel) (by decide +kernel)
theorem tb_312 : (Cond.code ⟨"StockDesk$House", "setAnswer", "(III)I"⟩ prog_3_method_9_code 4 (some FieldType.int)) ∈ sd_all := sd_m 312 (by decide +kernel) (by decide +kernel)
theorem tb_313 : (Cond.methodLink "StockDesk$House" 87 ⟨"StockDesk$House", "setWay", "(II)I"⟩) ∈ sd_all := sd_m 313 (by decide +kernel) (by decide +kernel)
theorem tb_315 : (Cond.instanceMethod ⟨"StockDesk$House", "setWay", "(II)I"⟩) ∈ sd_all := sd_m 315 (by decide +kernel) (by decide +kernel)
theorem tb_316 : (Cond.code ⟨"StockDesk$House", "setWay", "(II)I"⟩ prog_3_method_10_code 4 (some FieldType.int)) ∈ sd_all := sd_m 316 (by decide +kernel) (by decide +kernel)
theorem tb_317 : (Cond.methodLink "StockDesk$House" 90 ⟨"StockDesk$House", "answerCall", "(III)J"⟩) ∈ sd_all := sd_m 317 (by decide +kernel) (by decide +kernel)
theorem tb_319 : (Cond.instanceMethod ⟨"StockDesk$House", "answerCall", "(III)J"⟩) ∈ sd_all := sd_m 319 (by decide +kernel) (by decide +kernel)
theorem tb_320 : (Cond.code ⟨"StockDesk$House", "answerCall", "(III)J"⟩ prog_3_method_11_code 6 (some FieldType.long)) ∈ sd_all := sd_m 320 (by decide +kernel) (by decide +kernel)
theorem tb_321 : (Cond.methodLink "StockDesk$House" 100 ⟨"StockDesk$House", "isFailing", "(I)Z"⟩) ∈ sd_all := sd_m 321 (by decide +kernel) (by decide +kernel)
theorem tb_322 : (Cond.instanceMethod ⟨"StockDesk$House", "isFailing", "(I)Z"⟩) ∈ sd_all := sd_m 322 (by decide +kernel) (by decide +kernel)
theorem tb_323 : (Cond.selects "StockDesk$House" ⟨"StockDesk$House", "isFailing", "(I)Z"⟩ ⟨"StockDesk$House", "isFailing", "(I)Z"⟩) ∈ sd_all := sd_m 323 (by decide +kernel) (by decide +kernel)
theorem tb_324 : (Cond.code ⟨"StockDesk$House", "isFailing", "(I)Z"⟩ prog_3_method_15_code 2 (some FieldType.boolean)) ∈ sd_all := sd_m 324 (by decide +kernel) (by decide +kernel)
theorem tb_325 : (Cond.methodLink "StockDesk$House" 104 ⟨"StockDesk$House", "tellFailure", "(II)V"⟩) ∈ sd_all := sd_m 325 (by decide +kernel) (by decide +kernel)
theorem tb_327 : (Cond.instanceMethod ⟨"StockDesk$House", "tellFailure", "(II)V"⟩) ∈ sd_all := sd_m 327 (by decide +kernel) (by decide +kernel)
theorem tb_328 : (Cond.code ⟨"StockDesk$House", "tellFailure", "(II)V"⟩ prog_3_method_12_code 3 none) ∈ sd_all := sd_m 328 (by decide +kernel) (by decide +kernel)
theorem tb_329 : (Cond.methodLink "StockDesk$House" 108 ⟨"StockDesk$House", "answerOf", "(III)J"⟩) ∈ sd_all := sd_m 329 (by decide +kernel) (by decide +kernel)
theorem tb_330 : (Cond.instanceMethod ⟨"StockDesk$House", "answerOf", "(III)J"⟩) ∈ sd_all := sd_m 330 (by decide +kernel) (by decide +kernel)
theorem tb_331 : (Cond.selects "StockDesk$House" ⟨"StockDesk$House", "answerOf", "(III)J"⟩ ⟨"StockDesk$House", "answerOf", "(III)J"⟩) ∈ sd_all := sd_m 331 (by decide +kernel) (by decide +kernel)
theorem tb_332 : (Cond.code ⟨"StockDesk$House", "answerOf", "(III)J"⟩ prog_3_method_14_code 4 (some FieldType.long)) ∈ sd_all := sd_m 332 (by decide +kernel) (by decide +kernel)
theorem tb_333 : (Cond.methodLink "StockDesk$House" 94 ⟨"StockDesk$House", "addByte", "(I)I"⟩) ∈ sd_all := sd_m 333 (by decide +kernel) (by decide +kernel)
theorem tb_335 : (Cond.instanceMethod ⟨"StockDesk$House", "addByte", "(I)I"⟩) ∈ sd_all := sd_m 335 (by decide +kernel) (by decide +kernel)
theorem tb_336 : (Cond.code ⟨"StockDesk$House", "addByte", "(I)I"⟩ prog_3_method_13_code 2 (some FieldType.int)) ∈ sd_all := sd_m 336 (by decide +kernel) (by decide +kernel)
theorem tb_337 : (Cond.constant "StockDesk$House" 111 65521) ∈ sd_all := sd_m 337 (by decide +kernel) (by decide +kernel)
theorem tb_439 : (Cond.methodLink "StockDesk$ActRow" 28 ⟨"StockDesk$House", "clear", "()V"⟩) ∈ sd_all := sd_m 439 (by decide +kernel) (by decide +kernel)
theorem tb_440 : (Cond.methodLink "StockDesk$ActRow" 33 ⟨"StockDesk$House", "perform", "(IIII)J"⟩) ∈ sd_all := sd_m 440 (by decide +kernel) (by decide +kernel)
end
section
/-! our own short rows over the kit's: one bundle for a walk's world, one row an instruction, one row a call -/
section SDK
variable {p : Program} {l : Launch} {e : Env} {R : Room} {s : State} {m : MethodId} {args : Array Value} {below : List Frame} {meth : Method} {c : Code} {H : Heap} {locs : List Loc} {cells slots : Nat} {Q : State → Prop}
variable {cc : ByteArray} {nL pc : Nat} {ls : Array Slot} {st0 rest : List Value} {D : va_G} {A : Nat → Prop} {ws ws' : va_W} {tys : List (ClassId × FieldType)} {cw : Cond} {own : String} {a : Nat}
theorem sd_P_iff {cl : List vw_C} : va_P D cl ws H ↔ ∀ q ∈ ws, va_at D cl q H := by
  constructor
  · intro h q hq
    obtain ⟨k, hk⟩ := List.getElem?_of_mem hq
    exact h k q hk
  · intro h k q hk
    exact h q (List.mem_of_getElem? hk)
theorem sd_D_iff : va_D A ws ↔ (ws.map Prod.fst).Nodup ∧ ∀ q ∈ ws, A q.1 := by
  constructor
  · intro h
    refine ⟨?_, fun q hq => ?_⟩
    · show List.Pairwise (fun x y => x ≠ y) (ws.map Prod.fst)
      rw [List.pairwise_iff_getElem]
      intro i j hi hj hij he
      simp only [List.length_map] at hi hj
      simp only [List.getElem_map] at he
      have h3 := h.1 i j ws[i] ws[j] (List.getElem?_eq_getElem hi) (List.getElem?_eq_getElem hj) he
      omega
    · obtain ⟨k, hk⟩ := List.getElem?_of_mem hq
      exact h.2 k q hk
  · intro h
    refine ⟨fun i j p q hi hj hpq => ?_, fun k q hk => h.2 q (List.mem_of_getElem? hk)⟩
    have hn : List.Pairwise (fun x y => x ≠ y) (ws.map Prod.fst) := h.1
    rw [List.pairwise_iff_getElem] at hn
    obtain ⟨li, ei⟩ := List.getElem?_eq_some_iff.mp hi
    obtain ⟨lj, ej⟩ := List.getElem?_eq_some_iff.mp hj
    rcases Nat.lt_trichotomy i j with q1 | q1 | q1
    · exact (hn i j (by simpa using li) (by simpa using lj) q1 (by simp only [List.getElem_map, ei, ej]; exact hpq)).elim
    · exact q1
    · exact (hn j i (by simpa using lj) (by simpa using li) q1 (by simp only [List.getElem_map, ei, ej]; exact hpq.symm)).elim
/-- the world of a walk: its cells, apart and its own, the tables, what changed since the start, the new cells are its own -/
def sd_w (D : va_G) (A : Nat → Prop) (s : State) (tys : List (ClassId × FieldType)) (ws : va_W) (H : Heap) (locs : List Loc) : Prop :=
  va_P D vwCl ws H ∧ va_D A ws ∧ va_K D vwCl tys s ∧ va_S A s.heap H locs ∧ ∀ q, s.heap.size ≤ q → A q
theorem sd_get (C : CallFix p m c cc nL s args (cw :: sd_all) own) (h : sd_w D A s tys ws H locs) (q0 k : Nat) {ci N index : Nat} {Cn : String} {T : u_T} {fs : List Value} {v : Value} (he : ws[q0]? = some (a, .inr (ci, fs))) (hc : vwCl[ci]? = some (Cn, T, N)) (hk : k < N) (hin : ∀ w ∈ u_ws Cn T N, w ∈ sd_all) (hl : Cond.fieldLink own index (T k).1 (T k).2.1 (T k).2.2.1 ∈ sd_all) (hv : fs[k]? = some v) (hd : decode cc pc = .ok (.getfield index, 3))
    (kk : W p l e R s m args below meth c H locs cells slots Q (F0 m (pc + 3) ls (v :: rest))) : W p l e R s m args below meth c H locs cells slots Q (F0 m pc ls (.ref a :: rest)) :=
  va_get (D := D) (ci := ci) (v := v) (C := Cn) (T := T) (N := N) C.1 C.2.1 C.2.2.2.2 (fun w h9 => List.mem_cons_of_mem _ (hin w h9)) C.2.2.2.1 h.2.2.1 h.1 q0 he hc k hk (C.2.2.2.2 _ (List.mem_cons_of_mem _ hl)) (fun _ h9 => h9) hv hd kk
theorem sd_put (C : CallFix p m c cc nL s args (cw :: sd_all) own) (h : sd_w D A s tys ws H locs) (q0 k : Nat) {ci N index : Nat} {Cn : String} {T : u_T} {fs : List Value} {v : Value} {ty : FieldType} {ty0 : Nat → FieldType} (he : ws[q0]? = some (a, .inr (ci, fs))) (hc : vwCl[ci]? = some (Cn, T, N)) (hk : k < N) (hin : ∀ w ∈ u_ws Cn T N, w ∈ sd_all) (hty : ∀ k, k < N → parseFieldDescriptor (T k).2.2.1 = some (ty0 k)) (hnm : ∀ a, a < N → ∀ b, b < N → a ≠ b → (T a).2.1 ≠ (T b).2.1) (hl : Cond.fieldLink own index (T k).1 (T k).2.1 (T k).2.2.1 ∈ sd_all) (hfin : (T k).2.2.2 = false) (hpd : ty0 k = ty) (hn : narrow ty v = v) (hfit : fits ty v = true) (hlen : k < fs.length) (hws : ws.set q0 (a, .inr (ci, fs.set k v)) = ws') (hd : decode cc pc = .ok (.putfield index, 3))
    (kk : ∀ (H1 : Heap) (locs1 : List Loc), sd_w D A s tys ws' H1 locs1 → W p l e R s m args below meth c H1 locs1 cells slots Q (F0 m (pc + 3) ls rest)) : W p l e R s m args below meth c H locs cells slots Q (F0 m pc ls (v :: .ref a :: rest)) :=
  va_put (D := D) (ci := ci) (v := v) (ty := ty) (C := Cn) (T := T) (N := N) C.1 C.2.1 C.2.2.2.2 (fun w h9 => List.mem_cons_of_mem _ (hin w h9)) ty0 hty hnm C.2.2.2.1 h.2.2.1 h.1 h.2.1 h.2.2.2.1 q0 he hc k hk (C.2.2.2.2 _ (List.mem_cons_of_mem _ hl)) (fun _ h9 => h9) hfin (by rw [← hpd]; exact hty k hk) hn hfit hlen hd (fun H1 locs1 hP hD hS => kk H1 locs1 (hws ▸ ⟨hP, hD, h.2.2.1, hS, h.2.2.2.2⟩))
theorem sd_putF (C : CallFix p m c cc nL s args (cw :: sd_all) own) (h : sd_w D A s tys ws H locs) (hnm2 : meth.name = "<init>") (q0 k : Nat) {ci N index : Nat} {Cn : String} {T : u_T} {fs : List Value} {v : Value} {ty : FieldType} {ty0 : Nat → FieldType} (he : ws[q0]? = some (a, .inr (ci, fs))) (hc : vwCl[ci]? = some (Cn, T, N)) (hk : k < N) (hin : ∀ w ∈ u_ws Cn T N, w ∈ sd_all) (hty : ∀ k, k < N → parseFieldDescriptor (T k).2.2.1 = some (ty0 k)) (hnm : ∀ a, a < N → ∀ b, b < N → a ≠ b → (T a).2.1 ≠ (T b).2.1) (hl : Cond.fieldLink own index (T k).1 (T k).2.1 (T k).2.2.1 ∈ sd_all) (hfin : (T k).2.2.2 = true) (hdecl : (T k).1 = own) (hpd : ty0 k = ty) (hn : narrow ty v = v) (hfit : fits ty v = true) (hlen : k < fs.length) (hws : ws.set q0 (a, .inr (ci, fs.set k v)) = ws') (hd : decode cc pc = .ok (.putfield index, 3))
    (kk : ∀ (H1 : Heap) (locs1 : List Loc), sd_w D A s tys ws' H1 locs1 → W p l e R s m args below meth c H1 locs1 cells slots Q (F0 m (pc + 3) ls rest)) : W p l e R s m args below meth c H locs cells slots Q (F0 m pc ls (v :: .ref a :: rest)) :=
  va_putF (D := D) (ci := ci) (v := v) (ty := ty) (C := Cn) (T := T) (N := N) C.1 C.2.1 C.2.2.2.2 (fun w h9 => List.mem_cons_of_mem _ (hin w h9)) ty0 hty hnm C.2.2.2.1 h.2.2.1 h.1 h.2.1 h.2.2.2.1 q0 he hc k hk (C.2.2.2.2 _ (List.mem_cons_of_mem _ hl)) (fun _ h9 => h9) hfin hnm2 hdecl (by rw [← hpd]; exact hty k hk) hn hfit hlen hd (fun H1 locs1 hP hD hS => kk H1 locs1 (hws ▸ ⟨hP, hD, h.2.2.1, hS, h.2.2.2.2⟩))
theorem sd_getN (C : CallFix p m c cc nL s args (cw :: sd_all) own) (h : sd_w D A s tys ws H locs) (q0 k : Nat) {ci N index : Nat} {Cn host : String} {T : u_T} {fs : List Value} {v : Value} (he : ws[q0]? = some (a, .inr (ci, fs))) (hc : vwCl[ci]? = some (Cn, T, N)) (hk : k < N) (hin : ∀ w ∈ u_ws Cn T N, w ∈ sd_all) (hl : (Cond.fieldLinkNest own index (T k).1 (T k).2.1 (T k).2.2.1 host).before args s = true) (hv : fs[k]? = some v) (hd : decode cc pc = .ok (.getfield index, 3))
    (kk : W p l e R s m args below meth c H locs cells slots Q (F0 m (pc + 3) ls (v :: rest))) : W p l e R s m args below meth c H locs cells slots Q (F0 m pc ls (.ref a :: rest)) :=
  va_getN (D := D) (ci := ci) (v := v) (C := Cn) (T := T) (N := N) C.1 C.2.1 C.2.2.2.2 (fun w h9 => List.mem_cons_of_mem _ (hin w h9)) C.2.2.2.1 h.2.2.1 h.1 q0 he hc k hk hl (fun _ h9 => h9) hv hd kk
theorem sd_clamp {i n : Nat} (hi : i < n) (hn : n < 2 ^ 31) : (nI i).toNatClampNeg = i := nI_clamp (Nat.lt_trans hi hn)
theorem sd_iald (C : CallFix p m c cc nL s args (cw :: sd_all) own) (h : sd_w D A s tys ws H locs) (q0 t0 : Nat) {cA : ClassId} {n i : Nat} {f : Nat → Int32} (ha : ws[q0]? = some (a, .inl (cA, n, .inl f))) (ht : tys[t0]? = some (cA, .int)) (hi : i < n) (hn : n < 2 ^ 31) (hd : decode cc pc = .ok (.iaload, 1))
    (kk : W p l e R s m args below meth c H locs cells slots Q (F0 m (pc + 1) ls (.int (f i) :: rest))) : W p l e R s m args below meth c H locs cells slots Q (F0 m pc ls (.int (nI i) :: .ref a :: rest)) :=
  va_iald C.1 C.2.1 h.2.2.1 h.1 q0 t0 ha ht (vp_in_nI hi hn) hd (by rw [sd_clamp hi hn]; exact kk)
theorem sd_zald (C : CallFix p m c cc nL s args (cw :: sd_all) own) (h : sd_w D A s tys ws H locs) (q0 t0 : Nat) {cA : ClassId} {n i : Nat} {f : Nat → Int32} (ha : ws[q0]? = some (a, .inl (cA, n, .inl f))) (ht : tys[t0]? = some (cA, .boolean)) (hi : i < n) (hn : n < 2 ^ 31) (hd : decode cc pc = .ok (.baload, 1))
    (kk : W p l e R s m args below meth c H locs cells slots Q (F0 m (pc + 1) ls (.int (f i) :: rest))) : W p l e R s m args below meth c H locs cells slots Q (F0 m pc ls (.int (nI i) :: .ref a :: rest)) :=
  va_zald C.1 C.2.1 h.2.2.1 h.1 q0 t0 ha ht (vp_in_nI hi hn) hd (by rw [sd_clamp hi hn]; exact kk)
theorem sd_lald (C : CallFix p m c cc nL s args (cw :: sd_all) own) (h : sd_w D A s tys ws H locs) (q0 t0 : Nat) {cA : ClassId} {n i : Nat} {f : Nat → Int64} (ha : ws[q0]? = some (a, .inl (cA, n, .inr (.inl f)))) (ht : tys[t0]? = some (cA, .long)) (hi : i < n) (hn : n < 2 ^ 31) (hd : decode cc pc = .ok (.laload, 1))
    (kk : W p l e R s m args below meth c H locs cells slots Q (F0 m (pc + 1) ls (.long (f i) :: rest))) : W p l e R s m args below meth c H locs cells slots Q (F0 m pc ls (.int (nI i) :: .ref a :: rest)) :=
  va_lald C.1 C.2.1 h.2.2.1 h.1 q0 t0 ha ht (vp_in_nI hi hn) hd (by rw [sd_clamp hi hn]; exact kk)
theorem sd_iast (C : CallFix p m c cc nL s args (cw :: sd_all) own) (h : sd_w D A s tys ws H locs) (q0 t0 : Nat) {cA : ClassId} {n i : Nat} {f : Nat → Int32} {x : Int32} (ha : ws[q0]? = some (a, .inl (cA, n, .inl f))) (ht : tys[t0]? = some (cA, .int)) (hi : i < n) (hn : n < 2 ^ 31) (hws : ws.set q0 (a, .inl (cA, n, .inl (upd f i x))) = ws') (hd : decode cc pc = .ok (.iastore, 1))
    (kk : ∀ (H1 : Heap) (locs1 : List Loc), sd_w D A s tys ws' H1 locs1 → W p l e R s m args below meth c H1 locs1 cells slots Q (F0 m (pc + 1) ls rest)) : W p l e R s m args below meth c H locs cells slots Q (F0 m pc ls (.int x :: .int (nI i) :: .ref a :: rest)) :=
  va_iast C.1 C.2.1 h.2.2.1 h.1 h.2.1 h.2.2.2.1 q0 t0 ha ht (vp_in_nI hi hn) hd (fun H1 locs1 hP hD hS => kk H1 locs1 (by rw [sd_clamp hi hn] at hP hD; rw [hws] at hP hD; exact ⟨hP, hD, h.2.2.1, hS, h.2.2.2.2⟩))
theorem sd_zast (C : CallFix p m c cc nL s args (cw :: sd_all) own) (h : sd_w D A s tys ws H locs) (q0 t0 : Nat) {cA : ClassId} {n i : Nat} {f : Nat → Int32} {x : Int32} (ha : ws[q0]? = some (a, .inl (cA, n, .inl f))) (ht : tys[t0]? = some (cA, .boolean)) (hi : i < n) (hn : n < 2 ^ 31) (hx : vp_nar .boolean x = x) (hws : ws.set q0 (a, .inl (cA, n, .inl (upd f i x))) = ws') (hd : decode cc pc = .ok (.bastore, 1))
    (kk : ∀ (H1 : Heap) (locs1 : List Loc), sd_w D A s tys ws' H1 locs1 → W p l e R s m args below meth c H1 locs1 cells slots Q (F0 m (pc + 1) ls rest)) : W p l e R s m args below meth c H locs cells slots Q (F0 m pc ls (.int x :: .int (nI i) :: .ref a :: rest)) :=
  va_zast C.1 C.2.1 h.2.2.1 h.1 h.2.1 h.2.2.2.1 q0 t0 ha ht (vp_in_nI hi hn) hd (fun H1 locs1 hP hD hS => kk H1 locs1 (by rw [sd_clamp hi hn, hx] at hP hD; rw [hws] at hP hD; exact ⟨hP, hD, h.2.2.1, hS, h.2.2.2.2⟩))
theorem sd_last (C : CallFix p m c cc nL s args (cw :: sd_all) own) (h : sd_w D A s tys ws H locs) (q0 t0 : Nat) {cA : ClassId} {n i : Nat} {f : Nat → Int64} {x : Int64} (ha : ws[q0]? = some (a, .inl (cA, n, .inr (.inl f)))) (ht : tys[t0]? = some (cA, .long)) (hi : i < n) (hn : n < 2 ^ 31) (hws : ws.set q0 (a, .inl (cA, n, .inr (.inl (vp_updL f i x)))) = ws') (hd : decode cc pc = .ok (.lastore, 1))
    (kk : ∀ (H1 : Heap) (locs1 : List Loc), sd_w D A s tys ws' H1 locs1 → W p l e R s m args below meth c H1 locs1 cells slots Q (F0 m (pc + 1) ls rest)) : W p l e R s m args below meth c H locs cells slots Q (F0 m pc ls (.long x :: .int (nI i) :: .ref a :: rest)) :=
  va_last C.1 C.2.1 h.2.2.1 h.1 h.2.1 h.2.2.2.1 q0 t0 ha ht (vp_in_nI hi hn) hd (fun H1 locs1 hP hD hS => kk H1 locs1 (by rw [sd_clamp hi hn] at hP hD; rw [hws] at hP hD; exact ⟨hP, hD, h.2.2.1, hS, h.2.2.2.2⟩))
/-- a new array of numbers: its class is the tables' one -/
theorem sd_newa (C : CallFix p m c cc nL s args (cw :: sd_all) own) (h : sd_w D A s tys ws H locs) (t0 : Nat) {atype : ArrayType} {ty : FieldType} {cA : ClassId} {n : Int32} {N' : Nat} {a0 : vp_A} (hty : newarray.typeOf atype = ty) (ht : tys[t0]? = some (cA, ty)) (hra : ∀ cB : ClassId, va_RA s cB ty = (s.vm.findClass ("[" ++ ty.toString) = some cB)) (harr : Cond.arrayClass ty ∈ sd_all) (ha : ∀ cA : ClassId, vp_cell cA a0 = arrV cA N' (fun _ => defaultValue ty)) (hn : ¬ n < 0) (hN : n.toNatClampNeg = N') (hbytes : N' * componentBytes ty ≤ 536870912) (hcells : cells + 1 ≤ R.cells) (hslots : slots + N' ≤ R.slots) (hd : decode cc pc = .ok (.newarray atype, 2))
    (kk : ∀ (q : Nat) (H1 : Heap), sd_w D A s tys (ws ++ [(q, .inl (cA, a0))]) H1 locs → W p l e R s m args below meth c H1 locs (cells + 1) (slots + N') Q (F0 m (pc + 2) ls (.ref q :: rest))) : W p l e R s m args below meth c H locs cells slots Q (F0 m pc ls (.int n :: rest)) := by
  subst hty
  refine va_newa C.1 C.2.1 (C.2.2.2.2 _ (List.mem_cons_of_mem _ harr)) rfl h.2.2.1 h.1 h.2.1 h.2.2.2.1 h.2.2.2.2 ha hn hN hbytes hcells hslots hd (fun q cB H1 hK hP hD hS => ?_)
  have h1 := (h.2.2.1.2 t0 _ ht).2
  have h2 := (hK.2 tys.length (cB, newarray.typeOf atype) (by simp)).2
  rw [hra] at h1 h2
  cases Option.some.inj (h1.symm.trans h2)
  exact kk q H1 ⟨hP, hD, h.2.2.1, hS, h.2.2.2.2⟩
theorem sd_new {fs : List Value} (C : CallFix p m c cc nL s args (cw :: sd_all) own) (h : sd_w D A s tys ws H locs) {ci N index : Nat} {Cn : String} {T : u_T} {ty0 : Nat → FieldType} (hc : vwCl[ci]? = some (Cn, T, N)) (hin : ∀ w ∈ u_ws Cn T N, w ∈ sd_all) (hty : ∀ k, k < N → parseFieldDescriptor (T k).2.2.1 = some (ty0 k)) (hl : Cond.classLink own index Cn ∈ sd_all) (hi : Cond.instantiable Cn N ∈ sd_all) (hii : Cond.initialized Cn ∈ sd_all) (hfs : ∀ j, j < N → defaultValue (ty0 j) = vp_V fs j) (hcells : cells + 1 ≤ R.cells) (hslots : slots + N ≤ R.slots) (hd : decode cc pc = .ok (.new index, 3))
    (kk : ∀ (q : Nat) (H1 : Heap), sd_w D A s tys (ws ++ [(q, .inr (ci, fs))]) H1 locs → W p l e R s m args below meth c H1 locs (cells + 1) (slots + N) Q (F0 m (pc + 3) ls (.ref q :: rest))) : W p l e R s m args below meth c H locs cells slots Q (F0 m pc ls rest) :=
  va_new (ci := ci) (fs := fs) (C := Cn) (T := T) (N := N) C.1 C.2.1 C.2.2.2.2 (fun w h9 => List.mem_cons_of_mem _ (hin w h9)) ty0 hty C.2.2.2.1 (C.2.2.2.2 _ (List.mem_cons_of_mem _ hl)) (C.2.2.2.2 _ (List.mem_cons_of_mem _ hi)) (C.2.2.2.2 _ (List.mem_cons_of_mem _ hii)) h.2.2.1 h.1 h.2.1 h.2.2.2.1 h.2.2.2.2 hc hfs hcells hslots hd (fun q H1 hP hD hS => kk q H1 ⟨hP, hD, h.2.2.1, hS, h.2.2.2.2⟩)
/-- the same number under another name -/
theorem sd_top {v v' : Value} (he : v = v') (k : W p l e R s m args below meth c H locs cells slots Q (F0 m pc ls (v' :: rest))) : W p l e R s m args below meth c H locs cells slots Q (F0 m pc ls (v :: rest)) := he ▸ k
theorem sd_world (h : sd_w D A s tys ws H locs) (he : ws = ws') : sd_w D A s tys ws' H locs := he ▸ h
end SDK
end
section
/-! contracts in one form, and calls by them: the callee's cells are a piece of the caller's world -/
section SDJ
variable {D : va_G} {cl : List vw_C} {wa wc wb w1 : va_W} {H H1 : Heap} {A0 : Nat → Prop}
theorem sd_mid {q : Nat × va_E} (h : q ∈ wa ∨ q ∈ wb) : q ∈ wa ++ wc ++ wb := by
  rcases h with h | h
  · exact List.mem_append_left _ (List.mem_append_left _ h)
  · exact List.mem_append_right _ h
theorem sd_apart (hP : va_P D cl (wa ++ wc ++ wb) H) (hD : va_D A0 (wa ++ wc ++ wb)) {q : Nat × va_E} (hq : q ∈ wa ∨ q ∈ wb) : q.1 < H.size ∧ ¬ va_A wc H.size q.1 := by
  have hlt : q.1 < H.size := (sd_P_iff.mp hP q (sd_mid hq)).lt
  refine ⟨hlt, ?_⟩
  intro hA
  rcases hA with ⟨k, e, hk⟩ | hge
  · have hm : q.1 ∈ wc.map Prod.fst := List.mem_map.mpr ⟨(q.1, e), List.mem_of_getElem? hk, rfl⟩
    have hn := (sd_D_iff.mp hD).1
    rw [List.map_append, List.map_append] at hn
    obtain ⟨h1, -, h3⟩ := List.nodup_append.mp hn
    obtain ⟨-, -, h4⟩ := List.nodup_append.mp h1
    rcases hq with hq | hq
    · exact h4 q.1 (List.mem_map.mpr ⟨q, hq, rfl⟩) q.1 hm rfl
    · exact h3 q.1 (List.mem_append_right _ hm) q.1 (List.mem_map.mpr ⟨q, hq, rfl⟩) rfl
  · omega
theorem sd_join (hP : va_P D cl (wa ++ wc ++ wb) H) (hD : va_D A0 (wa ++ wc ++ wb)) (hk : ∀ q : Nat, q < H.size → ¬ va_A wc H.size q → H1[q]? = H[q]?) (hF : ∀ q, va_A wc H.size q → A0 q) (hP1 : va_P D cl w1 H1) (hD1 : va_D (va_A wc H.size) w1) : va_P D cl (wa ++ w1 ++ wb) H1 ∧ va_D A0 (wa ++ w1 ++ wb) := by
  have hP' := sd_P_iff.mp hP
  have hP1' := sd_P_iff.mp hP1
  have hD' := sd_D_iff.mp hD
  have hD1' := sd_D_iff.mp hD1
  refine ⟨sd_P_iff.mpr fun q hq => ?_, sd_D_iff.mpr ⟨?_, fun q hq => ?_⟩⟩
  · rcases List.mem_append.mp hq with hq | hq
    · rcases List.mem_append.mp hq with hq | hq
      · obtain ⟨h1, h2⟩ := sd_apart hP hD (Or.inl hq)
        exact (hP' q (sd_mid (Or.inl hq))).kept (hk _ h1 h2)
      · exact hP1' q hq
    · obtain ⟨h1, h2⟩ := sd_apart hP hD (Or.inr hq)
      exact (hP' q (sd_mid (Or.inr hq))).kept (hk _ h1 h2)
  · have hn := hD'.1
    rw [List.map_append, List.map_append] at hn ⊢
    obtain ⟨h1, h2, h3⟩ := List.nodup_append.mp hn
    obtain ⟨h4, -, -⟩ := List.nodup_append.mp h1
    have out : ∀ x ∈ w1.map Prod.fst, va_A wc H.size x := fun x hx => by
      obtain ⟨q, hq, rfl⟩ := List.mem_map.mp hx
      exact hD1'.2 q hq
    refine List.nodup_append.mpr ⟨List.nodup_append.mpr ⟨h4, hD1'.1, fun x hx y hy e => ?_⟩, h2, fun x hx y hy e => ?_⟩
    · obtain ⟨q, hq, rfl⟩ := List.mem_map.mp hx
      exact (sd_apart hP hD (Or.inl hq)).2 (e ▸ out y hy)
    · obtain ⟨q, hq, rfl⟩ := List.mem_map.mp hy
      rcases List.mem_append.mp hx with hx | hx
      · exact h3 x (List.mem_append_left _ hx) q.1 (List.mem_map.mpr ⟨q, hq, rfl⟩) e
      · exact (sd_apart hP hD (Or.inr hq)).2 (e ▸ out x hx)
  · rcases List.mem_append.mp hq with hq | hq
    · rcases List.mem_append.mp hq with hq | hq
      · exact hD'.2 q (sd_mid (Or.inl hq))
      · exact hF _ (hD1'.2 q hq)
    · exact hD'.2 q (sd_mid (Or.inr hq))
theorem sd_piece (hP : va_P D cl (wa ++ wc ++ wb) H) : va_P D cl wc H := sd_P_iff.mpr fun q hq => sd_P_iff.mp hP q (List.mem_append_left _ (List.mem_append_right _ hq))
theorem sd_pieceD (hD : va_D A0 (wa ++ wc ++ wb)) : va_D (fun _ => True) wc := by
  have h := (sd_D_iff.mp hD).1
  rw [List.map_append, List.map_append] at h
  exact sd_D_iff.mpr ⟨(List.nodup_append.mp (List.nodup_append.mp h).1).2.1, fun _ _ => trivial⟩
theorem sd_pieceF {s : State} {locs : List Loc} (hD : va_D A0 (wa ++ wc ++ wb)) (hS : va_S A0 s.heap H locs) (hA : ∀ q, s.heap.size ≤ q → A0 q) : ∀ q, va_A wc H.size q → A0 q := by
  intro q h
  rcases h with ⟨k, e, h⟩ | h
  · exact (sd_D_iff.mp hD).2 (q, e) (List.mem_append_left _ (List.mem_append_right _ (List.mem_of_getElem? h)))
  · exact hA q (Nat.le_trans hS.1 h)
end SDJ
/-- the words of a method: its own code, and the tables' good words -/
abbrev sd_ws (y : MethodName) (c : ByteArray) (n : Nat) (r : Option FieldType) : List Cond := Cond.code y c n r :: sd_all
theorem sd_gi {cw cy : Cond} (hc : cy ∈ sd_all) : GoodIn (cw :: sd_all) (cy :: sd_all) := fun w hw => by
  have h : w ∈ sd_all := by
    rcases List.mem_cons.mp hw with e | e
    · rw [e]; exact hc
    · exact e
  exact ⟨List.mem_cons_of_mem _ h, good_of_word (List.mem_filter.mp h).2⟩
theorem sd_gig {cw : Cond} {a b : List Cond} (ha : ∀ w ∈ a, w ∈ sd_all) (hb : GoodIn (cw :: sd_all) b) : GoodIn (cw :: sd_all) (a ++ b) := fun w hw => by
  rcases List.mem_append.mp hw with h | h
  · exact ⟨List.mem_cons_of_mem _ (ha w h), good_of_word (List.mem_filter.mp (ha w h)).2⟩
  · exact hb w h
section SDW
variable {R : Room} {s : State} {args : Array Value} {own C : String} {index maxL mc ms : Nat} {y : MethodName} {bytes : ByteArray} {ret : Option FieldType} {cw : Cond} {rm : Room}
theorem sd_cwV (n : Nat) (ht : ∀ w ∈ cw :: sd_all, w.before args s = true) (h1 : Cond.methodLink own index y ∈ sd_all) (h2 : Cond.instanceMethod y ∈ sd_all) (h3 : Cond.selects C y y ∈ sd_all) (h4 : Cond.initialized C ∈ sd_all) (h5 : Cond.code y bytes maxL ret ∈ sd_all) (hrc : rm.cells = mc) (hrs : rm.slots = ms)
    (hd : y.cls = C ∧ y.cls ≠ "java/lang/invoke/MethodHandle" ∧ y.cls ≠ "java/lang/invoke/VarHandle" ∧ (parseMethodDescriptor y.desc).map (fun d => d.parameters.length) = some n) (hR : rm.frames + 1 ≤ R.frames ∧ 8 + (maxL + 11) + rm.locals ≤ R.locals) : CallW R s args own C index y bytes maxL ret (sd_ws y bytes maxL ret) rm mc ms n :=
  cwV n ht (sd_gig (fun w hw => by
    simp only [List.mem_cons, List.not_mem_nil, or_false] at hw
    rcases hw with rfl | rfl | rfl | rfl
    · exact h1
    · exact h2
    · exact h3
    · exact h4) (sd_gi h5)) rfl hrc hrs hd hR
theorem sd_cwS (n : Nat) (ht : ∀ w ∈ cw :: sd_all, w.before args s = true) (h1 : Cond.methodLink own index y ∈ sd_all) (h2 : Cond.static y ∈ sd_all) (h4 : Cond.initialized y.cls ∈ sd_all) (h5 : Cond.code y bytes maxL ret ∈ sd_all) (hrc : rm.cells = mc) (hrs : rm.slots = ms)
    (hd : y.cls ≠ "java/lang/invoke/MethodHandle" ∧ y.cls ≠ "java/lang/invoke/VarHandle" ∧ (parseMethodDescriptor y.desc).map (fun d => d.parameters.length) = some n) (hR : rm.frames + 1 ≤ R.frames ∧ 8 + (maxL + 11) + rm.locals ≤ R.locals) : CallB R s args own index y bytes maxL ret (sd_ws y bytes maxL ret) rm mc ms n ∧ (Cond.static y).before args s = true :=
  va_cwS n ht (sd_gig (fun w hw => by
    simp only [List.mem_cons, List.not_mem_nil, or_false] at hw
    rcases hw with rfl | rfl | rfl
    · exact h1
    · exact h2
    · exact h4) (sd_gi h5)) rfl hrc hrs hd hR
theorem sd_cwI (n : Nat) (ht : ∀ w ∈ cw :: sd_all, w.before args s = true) (h1 : Cond.methodLink own index y ∈ sd_all) (h2 : Cond.instanceMethod y ∈ sd_all) (h4 : Cond.initialized y.cls ∈ sd_all) (h5 : Cond.code y bytes maxL none ∈ sd_all) (hrc : rm.cells = mc) (hrs : rm.slots = ms) (hy1 : y.name = "<init>")
    (hd : y.cls ≠ "java/lang/invoke/MethodHandle" ∧ y.cls ≠ "java/lang/invoke/VarHandle" ∧ (parseMethodDescriptor y.desc).map (fun d => d.parameters.length) = some n) (hR : rm.frames + 1 ≤ R.frames ∧ 8 + (maxL + 11) + rm.locals ≤ R.locals) : CallB R s args own index y bytes maxL none (sd_ws y bytes maxL none) rm mc ms n ∧ y.name = "<init>" ∧ (Cond.instanceMethod y).before args s = true :=
  cwI n ht (sd_gi h5) rfl hrc hrs (ht _ (List.mem_cons_of_mem _ h4)) (ht _ (List.mem_cons_of_mem _ h1)) (ht _ (List.mem_cons_of_mem _ h2)) hy1 hd hR
end SDW
/-- a contract's start -/
def sd_Pc (D : va_G) (tys : List (ClassId × FieldType)) (av : List Value) (sz : Nat) (wc : va_W) : Array Value → State → Prop := va_Pc av (fun U => U.heap.size = sz ∧ va_P D vwCl wc U.heap ∧ va_K D vwCl tys U ∧ va_D (fun _ => True) wc)
/-- the world behind it -/
def sd_B (D : va_G) (tys : List (ClassId × FieldType)) (A : Nat → Prop) (w : va_W) (t : State) : Prop := va_P D vwCl w t.heap ∧ va_K D vwCl tys t ∧ va_D A w
def sd_Qi (D : va_G) (tys : List (ClassId × FieldType)) (A : Nat → Prop) (PR : Int32 → va_W → Prop) : Array Value → State → Outcome → State → Prop := va_Qi PR (sd_B D tys A) A
def sd_Ql (D : va_G) (tys : List (ClassId × FieldType)) (A : Nat → Prop) (PR : Int64 → va_W → Prop) : Array Value → State → Outcome → State → Prop := va_Ql PR (sd_B D tys A) A
def sd_Qv (D : va_G) (tys : List (ClassId × FieldType)) (A : Nat → Prop) (PR : va_W → Prop) : Array Value → State → Outcome → State → Prop := va_Qv PR (sd_B D tys A) A
theorem sd_blind {D : va_G} {tys : List (ClassId × FieldType)} {av : List Value} {sz : Nat} {wc : va_W} : FrameBlind (sd_Pc D tys av sz wc) := by
  intro a U g mk h
  obtain ⟨h0, h1, h2, h3, h4⟩ := h
  exact ⟨h0, h1, h2, va_K.moved (u := U) (U := U.calling g mk a) (Vm.Alike.refl U.vm) h3, h4⟩
section SDE
variable {l : Launch} {y : MethodName} {ws' : List Cond} {rm : Room} {Qc : Array Value → State → Outcome → State → Prop} {mc ms sz maxL : Nat} {cc : ByteArray} {ret : Option FieldType} {D : va_G} {tys : List (ClassId × FieldType)} {av : List Value} {wc : va_W}
/-- a contract out of a walk -/
theorem sd_met (hy : plainName y.cls = true) (hav : (lg_sl av).length ≤ maxL)
    (body : ∀ (p : Program) (e : Env) (s : State) (m : MethodId) (below : List Frame) (meth : Method) (c : Code), CallFix p m c cc maxL s av.toArray (Cond.code y cc maxL ret :: sd_all) y.cls → meth.sig.returnType = ret → meth.locks = false → meth.name = y.name → s.heap.size = sz → sd_w D (va_A wc sz) s tys wc s.heap [] → ∀ ls : Array Slot, lv_has ls maxL (lv_args 0 av) → W p l e rm s m av.toArray below meth c s.heap [] 0 0 (MQ below Qc av.toArray s mc ms (va_A wc sz)) (F0 m 0 ls [])) :
    Met l y (sd_ws y cc maxL ret) rm (sd_Pc D tys av sz wc) Qc mc ms (va_A wc sz) := by
  refine Met.ofW (cc := cc) (maxL := maxL) (ret := ret) (ws' := sd_all) hy rfl ?_
  intro p e s m args below meth c s₁ B hml hv
  obtain ⟨rfl, hsz, hP, hK, hD0⟩ := hv
  have hl := lv_entry av (n := maxL) hav
  rw [lg_entry_eq]
  refine body p e s m below meth c ⟨B.exec, B.bytes, hml, findClass_of_methodNamed B.named, atoms_spec (ws := sd_ws y cc maxL ret) B.pre⟩ B.returns B.notSynchronized (name_of_methodNamed B.named B.method).1 hsz ⟨hP, hD0.self, hK, va_S.rf, ?_⟩ _ hl
  intro q h
  exact Or.inr (by omega)
end SDE
section SDR
variable {p : Program} {l : Launch} {e : Env} {R : Room} {s : State} {m : MethodId} {args : Array Value} {below : List Frame} {meth : Method} {c : Code} {H : Heap} {locs : List Loc} {cells slots : Nat} {Q : State → Prop}
variable {cc : ByteArray} {nL pc : Nat} {ls : Array Slot} {st0 rest : List Value} {D : va_G} {A : Nat → Prop} {w : va_W} {tys : List (ClassId × FieldType)} {cw : Cond} {own : String}
theorem sd_iret {v : Int32} {PR : Int32 → va_W → Prop} (C : CallFix p m c cc nL s args (cw :: sd_all) own) (hr : meth.sig.returnType = some .int) (hlk : meth.locks = false) (h : sd_w D A s tys w H locs) (hq : PR v w) (hd : decode cc pc = .ok (.ireturn, 1)) :
    W p l e R s m args below meth c H locs cells slots (MQ below (sd_Qi D tys A PR) args s cells slots A) (F0 m pc ls [.int v]) :=
  W.iret (v := v) C.1 C.2.1 hr (fun t ht hW => ⟨⟨v, w, rfl, hq, by rw [ht]; exact h.1, va_K.moved hW.alike h.2.2.1, h.2.1⟩, h.2.2.2.1.F ht⟩) h.2.2.2.1.2.2 hd hlk
theorem sd_zret {v : Int32} {ty : FieldType} {PR : Int32 → va_W → Prop} (C : CallFix p m c cc nL s args (cw :: sd_all) own) (hr : meth.sig.returnType = some ty) (hn : narrow ty (.int v) = .int v) (hlk : meth.locks = false) (h : sd_w D A s tys w H locs) (hq : PR v w) (hd : decode cc pc = .ok (.ireturn, 1)) :
    W p l e R s m args below meth c H locs cells slots (MQ below (sd_Qi D tys A PR) args s cells slots A) (F0 m pc ls [.int v]) :=
  W.zret (v := v) C.1 C.2.1 hr hn (fun t ht hW => ⟨⟨v, w, rfl, hq, by rw [ht]; exact h.1, va_K.moved hW.alike h.2.2.1, h.2.1⟩, h.2.2.2.1.F ht⟩) h.2.2.2.1.2.2 hd hlk
theorem sd_lret {v : Int64} {PR : Int64 → va_W → Prop} (C : CallFix p m c cc nL s args (cw :: sd_all) own) (hr : meth.sig.returnType = some .long) (hlk : meth.locks = false) (h : sd_w D A s tys w H locs) (hq : PR v w) (hd : decode cc pc = .ok (.lreturn, 1)) :
    W p l e R s m args below meth c H locs cells slots (MQ below (sd_Ql D tys A PR) args s cells slots A) (F0 m pc ls [.long v]) :=
  W.lret (v := v) C.1 C.2.1 hr (fun t ht hW => ⟨⟨v, w, rfl, hq, by rw [ht]; exact h.1, va_K.moved hW.alike h.2.2.1, h.2.1⟩, h.2.2.2.1.F ht⟩) h.2.2.2.1.2.2 hd hlk
theorem sd_vret {PR : va_W → Prop} (C : CallFix p m c cc nL s args (cw :: sd_all) own) (hr : meth.sig.returnType = none) (hlk : meth.locks = false) (h : sd_w D A s tys w H locs) (hq : PR w) (hd : decode cc pc = .ok (.return_, 1)) :
    W p l e R s m args below meth c H locs cells slots (MQ below (sd_Qv D tys A PR) args s cells slots A) (F0 m pc ls []) :=
  W.vret C.1 C.2.1 hr (fun t ht hW => ⟨⟨w, rfl, hq, by rw [ht]; exact h.1, va_K.moved hW.alike h.2.2.1, h.2.1⟩, h.2.2.2.1.F ht⟩) h.2.2.2.1.2.2 hd hlk
variable {wa wc wb : va_W} {mc ms : Nat} {aa : Array Value} {As : List Value}
theorem sd_preS (h : sd_w D A s tys (wa ++ wc ++ wb) H locs) : PreS s H (sd_Pc D tys As H.size wc) As :=
  ⟨sd_blind, fun U hU hW => ⟨rfl, by rw [hU], by rw [hU]; exact sd_piece h.1, va_K.moved hW.alike h.2.2.1, sd_pieceD h.2.1⟩⟩
theorem sd_preV {b q0 ci N : Nat} {Cn : String} {T : u_T} {fs : List Value} (h : sd_w D A s tys (wa ++ wc ++ wb) H locs) (he : (wa ++ wc ++ wb)[q0]? = some (b, .inr (ci, fs))) (hc : vwCl[ci]? = some (Cn, T, N)) : PreV s H Cn b (sd_Pc D tys (.ref b :: As) H.size wc) As :=
  ⟨sd_blind, va_recv h.2.2.1 h.1 hc he, fun U hU hW => ⟨rfl, by rw [hU], by rw [hU]; exact sd_piece h.1, va_K.moved hW.alike h.2.2.1, sd_pieceD h.2.1⟩⟩
theorem sd_after {w1 : va_W} {t : State} {H1 : Heap} {locs1 : List Loc} (h : sd_w D A s tys (wa ++ wc ++ wb) H locs) (ht : t.heap = H1) (hvm : s.vm.Alike t.vm) (hB : sd_B D tys (va_A wc H.size) w1 t) (hk : ∀ q : Nat, q < H.size → ¬ va_A wc H.size q → H1[q]? = H[q]?) (hS : va_S A s.heap H1 locs1) : sd_w D A s tys (wa ++ w1 ++ wb) H1 locs1 := by
  obtain ⟨hP1, hK1, hD1⟩ := hB
  rw [ht] at hP1
  obtain ⟨hP, hD⟩ := sd_join h.1 h.2.1 hk (sd_pieceF h.2.1 h.2.2.2.1 h.2.2.2.2) hP1 hD1
  exact ⟨hP, hD, h.2.2.1, hS, h.2.2.2.2⟩
theorem sd_calli {PR : Int32 → va_W → Prop} (h : sd_w D A s tys (wa ++ wc ++ wb) H locs) (hr : va_Run p l e R s m args below meth c H locs cells slots mc ms (F0 m pc ls st0) rest (sd_Qi D tys (va_A wc H.size) PR aa) (va_A wc H.size))
    (kk : ∀ (r : Int32) (w1 : va_W) (H1 : Heap) (locs1 : List Loc), PR r w1 → sd_w D A s tys (wa ++ w1 ++ wb) H1 locs1 → W p l e R s m args below meth c H1 locs1 (cells + mc) (slots + ms) Q (F0 m (pc + 3) ls (.int r :: rest))) : W p l e R s m args below meth c H locs cells slots Q (F0 m pc ls st0) :=
  va_calli hr h.2.2.2.1 (fun q _ z => sd_pieceF h.2.1 h.2.2.2.1 h.2.2.2.2 q z) (sd_pieceF h.2.1 h.2.2.2.1 h.2.2.2.2) (fun r u t H1 locs1 ht hvm hw hB _ hk hS => kk r u H1 locs1 hw (sd_after h ht hvm hB hk hS))
theorem sd_calll {PR : Int64 → va_W → Prop} (h : sd_w D A s tys (wa ++ wc ++ wb) H locs) (hr : va_Run p l e R s m args below meth c H locs cells slots mc ms (F0 m pc ls st0) rest (sd_Ql D tys (va_A wc H.size) PR aa) (va_A wc H.size))
    (kk : ∀ (r : Int64) (w1 : va_W) (H1 : Heap) (locs1 : List Loc), PR r w1 → sd_w D A s tys (wa ++ w1 ++ wb) H1 locs1 → W p l e R s m args below meth c H1 locs1 (cells + mc) (slots + ms) Q (F0 m (pc + 3) ls (.long r :: rest))) : W p l e R s m args below meth c H locs cells slots Q (F0 m pc ls st0) :=
  va_calll hr h.2.2.2.1 (fun q _ z => sd_pieceF h.2.1 h.2.2.2.1 h.2.2.2.2 q z) (sd_pieceF h.2.1 h.2.2.2.1 h.2.2.2.2) (fun r u t H1 locs1 ht hvm hw hB _ hk hS => kk r u H1 locs1 hw (sd_after h ht hvm hB hk hS))
theorem sd_callv {PR : va_W → Prop} (h : sd_w D A s tys (wa ++ wc ++ wb) H locs) (hr : va_Run p l e R s m args below meth c H locs cells slots mc ms (F0 m pc ls st0) rest (sd_Qv D tys (va_A wc H.size) PR aa) (va_A wc H.size))
    (kk : ∀ (w1 : va_W) (H1 : Heap) (locs1 : List Loc), PR w1 → sd_w D A s tys (wa ++ w1 ++ wb) H1 locs1 → W p l e R s m args below meth c H1 locs1 (cells + mc) (slots + ms) Q (F0 m (pc + 3) ls rest)) : W p l e R s m args below meth c H locs cells slots Q (F0 m pc ls st0) :=
  va_callv hr h.2.2.2.1 (fun q _ z => sd_pieceF h.2.1 h.2.2.2.1 h.2.2.2.2 q z) (sd_pieceF h.2.1 h.2.2.2.1 h.2.2.2.2) (fun u t H1 locs1 ht hvm hw hB _ hk hS => kk u H1 locs1 hw (sd_after h ht hvm hB hk hS))
/-- two pieces change places -/
theorem sd_swap {wd : va_W} (h : sd_w D A s tys (wa ++ wb ++ wc ++ wd) H locs) : sd_w D A s tys (wa ++ wc ++ wb ++ wd) H locs := by
  have hp : (wa ++ wb ++ wc ++ wd).Perm (wa ++ wc ++ wb ++ wd) := by
    refine List.Perm.append_right _ ?_
    rw [List.append_assoc, List.append_assoc]
    exact List.Perm.append_left _ List.perm_append_comm
  obtain ⟨h1, h2, h3⟩ := h
  refine ⟨sd_P_iff.mpr fun q hq => sd_P_iff.mp h1 q (hp.mem_iff.mpr hq), sd_D_iff.mpr ⟨(hp.map Prod.fst).nodup (sd_D_iff.mp h2).1, fun q hq => (sd_D_iff.mp h2).2 q (hp.mem_iff.mpr hq)⟩, h3⟩
end SDR
end
section
/-! what a house is: sixteen things; what its cells are -/
abbrev sd_HS : Type := (Nat → Int32) × (Nat → Int32) × (Nat → Int32) × (Nat → Int32) × (Nat → Int32) × (Nat → Int32) × (Nat → Int32) × (Nat → Int64) × Int32 × Int32 × Int32 × Int32 × Int32 × Int32 × Int32 × Int32
def hf_md (u : sd_HS) : (Nat → Int32) := u.1
def hf_th (u : sd_HS) : (Nat → Int32) := u.2.1
def hf_us (u : sd_HS) : (Nat → Int32) := u.2.2.1
def hf_pk (u : sd_HS) : (Nat → Int32) := u.2.2.2.1
def hf_pb (u : sd_HS) : (Nat → Int32) := u.2.2.2.2.1
def hf_pf (u : sd_HS) : (Nat → Int32) := u.2.2.2.2.2.1
def hf_pw (u : sd_HS) : (Nat → Int32) := u.2.2.2.2.2.2.1
def hf_wt (u : sd_HS) : (Nat → Int64) := u.2.2.2.2.2.2.2.1
def hf_fl (u : sd_HS) : Int32 := u.2.2.2.2.2.2.2.2.1
def hf_tw (u : sd_HS) : Int32 := u.2.2.2.2.2.2.2.2.2.1
def hf_tp (u : sd_HS) : Int32 := u.2.2.2.2.2.2.2.2.2.2.1
def hf_tn (u : sd_HS) : Int32 := u.2.2.2.2.2.2.2.2.2.2.2.1
def hf_an (u : sd_HS) : Int32 := u.2.2.2.2.2.2.2.2.2.2.2.2.1
def hf_co (u : sd_HS) : Int32 := u.2.2.2.2.2.2.2.2.2.2.2.2.2.1
def hf_s1 (u : sd_HS) : Int32 := u.2.2.2.2.2.2.2.2.2.2.2.2.2.2.1
def hf_s2 (u : sd_HS) : Int32 := u.2.2.2.2.2.2.2.2.2.2.2.2.2.2.2
def sd_t3 (k3 : ClassId × ClassId × ClassId) : List (ClassId × FieldType) := [(k3.1, .int), (k3.2.1, .boolean), (k3.2.2, .long)]
def sd_Hx (k3 : ClassId × ClassId × ClassId) (q : Nat → Nat) (md : (Nat → Int32)) (th : (Nat → Int32)) (us : (Nat → Int32)) (pk : (Nat → Int32)) (pb : (Nat → Int32)) (pf : (Nat → Int32)) (pw : (Nat → Int32)) (wt : (Nat → Int64)) (fl : Int32) (tw : Int32) (tp : Int32) (tn : Int32) (an : Int32) (co : Int32) (s1 : Int32) (s2 : Int32) : va_W := [((q 0), .inr (1, [.ref (q 1), .ref (q 2), .ref (q 3), .ref (q 4), .ref (q 5), .ref (q 6), .ref (q 7), .ref (q 8), .int fl, .int tw, .int tp, .int tn, .int an, .int co, .int s1, .int s2])), ((q 1), .inl (k3.1, 5, .inl md)), ((q 2), .inl (k3.2.1, 45, .inl th)), ((q 3), .inl (k3.1, 45, .inl us)), ((q 4), .inl (k3.1, 6, .inl pk)), ((q 5), .inl (k3.1, 6, .inl pb)), ((q 6), .inl (k3.1, 6, .inl pf)), ((q 7), .inl (k3.1, 6, .inl pw)), ((q 8), .inl (k3.2.2, 6, .inr (.inl wt)))]
def sd_H (k3 : ClassId × ClassId × ClassId) (q : Nat → Nat) (u : sd_HS) : va_W := sd_Hx k3 q (hf_md u) (hf_th u) (hf_us u) (hf_pk u) (hf_pb u) (hf_pf u) (hf_pw u) (hf_wt u) (hf_fl u) (hf_tw u) (hf_tp u) (hf_tn u) (hf_an u) (hf_co u) (hf_s1 u) (hf_s2 u)
def sd_A (k3 : ClassId × ClassId × ClassId) (q : Nat → Nat) (n : Int32) (f0 f1 f2 f3 : Nat → Int32) : va_W := [((q 0), .inr (0, [.ref (q 1), .ref (q 2), .ref (q 3), .ref (q 4), .int n])), ((q 1), .inl (k3.1, 60, .inl f0)), ((q 2), .inl (k3.1, 60, .inl f1)), ((q 3), .inl (k3.1, 60, .inl f2)), ((q 4), .inl (k3.1, 60, .inl f3))]
/-- the same house as far as its cells go -/
def sd_heq (u v : sd_HS) : Prop := (∀ i, i < 5 → hf_md u i = hf_md v i) ∧ (∀ i, i < 45 → hf_th u i = hf_th v i) ∧ (∀ i, i < 45 → hf_us u i = hf_us v i) ∧ (∀ i, i < 6 → hf_pk u i = hf_pk v i) ∧ (∀ i, i < 6 → hf_pb u i = hf_pb v i) ∧ (∀ i, i < 6 → hf_pf u i = hf_pf v i) ∧ (∀ i, i < 6 → hf_pw u i = hf_pw v i) ∧ (∀ i, i < 6 → hf_wt u i = hf_wt v i) ∧ hf_fl u = hf_fl v ∧ hf_tw u = hf_tw v ∧ hf_tp u = hf_tp v ∧ hf_tn u = hf_tn v ∧ hf_an u = hf_an v ∧ hf_co u = hf_co v ∧ hf_s1 u = hf_s1 v ∧ hf_s2 u = hf_s2 v
theorem sd_arr {cA : ClassId} {n : Nat} {f g : Nat → Value} (h : ∀ i, i < n → f i = g i) : arrV cA n f = arrV cA n g := by
  unfold arrV
  congr 1
  apply Array.ext
  · simp
  · intro i h1 h2
    simp only [Array.getElem_ofFn]
    exact h i (by simpa using h1)
theorem sd_ari {D : va_G} {cl : List vw_C} {a : Nat} {cA : ClassId} {n : Nat} {f g : Nat → Int32} {H : Heap} (h : ∀ i, i < n → f i = g i) (hp : va_at D cl (a, .inl (cA, n, .inl f)) H) : va_at D cl (a, .inl (cA, n, .inl g)) H := by
  have e : vp_cell cA (n, .inl f) = vp_cell cA (n, .inl g) := sd_arr fun i hi => congrArg Value.int (h i hi)
  have h1 : H[a]? = some (vp_cell cA (n, .inl f)) := hp
  rw [e] at h1
  exact h1
theorem sd_arl {D : va_G} {cl : List vw_C} {a : Nat} {cA : ClassId} {n : Nat} {f g : Nat → Int64} {H : Heap} (h : ∀ i, i < n → f i = g i) (hp : va_at D cl (a, .inl (cA, n, .inr (.inl f))) H) : va_at D cl (a, .inl (cA, n, .inr (.inl g))) H := by
  have e : vp_cell cA (n, .inr (.inl f)) = vp_cell cA (n, .inr (.inl g)) := sd_arr fun i hi => congrArg Value.long (h i hi)
  have h1 : H[a]? = some (vp_cell cA (n, .inr (.inl f))) := hp
  rw [e] at h1
  exact h1
theorem sd_H_P {D : va_G} {k3 : ClassId × ClassId × ClassId} {q : Nat → Nat} {u v : sd_HS} {H : Heap} (e : sd_heq u v) (h : va_P D vwCl (sd_H k3 q u) H) : va_P D vwCl (sd_H k3 q v) H := by
  obtain ⟨emd, eth, eus, epk, epb, epf, epw, ewt, efl, etw, etp, etn, ean, eco, es1, es2⟩ := e
  have h0 := h 0 _ rfl
  have h1 := h 1 _ rfl
  have h2 := h 2 _ rfl
  have h3 := h 3 _ rfl
  have h4 := h 4 _ rfl
  have h5 := h 5 _ rfl
  have h6 := h 6 _ rfl
  have h7 := h 7 _ rfl
  have h8 := h 8 _ rfl
  rw [efl, etw, etp, etn, ean, eco, es1, es2] at h0
  have g1 := sd_ari emd h1
  have g2 := sd_ari eth h2
  have g3 := sd_ari eus h3
  have g4 := sd_ari epk h4
  have g5 := sd_ari epb h5
  have g6 := sd_ari epf h6
  have g7 := sd_ari epw h7
  have g8 := sd_arl ewt h8
  intro k x hk
  match k, hk with
  | 0, hk => cases hk; exact h0
  | 1, hk => cases hk; exact g1
  | 2, hk => cases hk; exact g2
  | 3, hk => cases hk; exact g3
  | 4, hk => cases hk; exact g4
  | 5, hk => cases hk; exact g5
  | 6, hk => cases hk; exact g6
  | 7, hk => cases hk; exact g7
  | 8, hk => cases hk; exact g8
  | k + 9, hk => simp [sd_H, sd_Hx] at hk
theorem sd_H_w {D : va_G} {A : Nat → Prop} {s : State} {tys : List (ClassId × FieldType)} {k3 : ClassId × ClassId × ClassId} {q : Nat → Nat} {u v : sd_HS} {wa wb : va_W} {H : Heap} {locs : List Loc} (h : sd_w D A s tys (wa ++ sd_H k3 q u ++ wb) H locs) (e : sd_heq u v) : sd_w D A s tys (wa ++ sd_H k3 q v ++ wb) H locs := by
  obtain ⟨hP, hD, h3⟩ := h
  refine ⟨sd_P_iff.mpr fun x hx => ?_, sd_D_iff.mpr ⟨?_, fun x hx => ?_⟩, h3⟩
  · rcases List.mem_append.mp hx with hx | hx
    · rcases List.mem_append.mp hx with hx | hx
      · exact sd_P_iff.mp hP x (List.mem_append_left _ (List.mem_append_left _ hx))
      · exact sd_P_iff.mp (sd_H_P e (sd_piece hP)) x hx
    · exact sd_P_iff.mp hP x (List.mem_append_right _ hx)
  · have hn := (sd_D_iff.mp hD).1
    rw [List.map_append, List.map_append] at hn ⊢
    exact hn
  · have hm : ∀ y ∈ sd_H k3 q v, ∃ z ∈ sd_H k3 q u, z.1 = y.1 := by
      intro y hy
      have h1 : y.1 ∈ (sd_H k3 q v).map Prod.fst := List.mem_map.mpr ⟨y, hy, rfl⟩
      have h2 : y.1 ∈ (sd_H k3 q u).map Prod.fst := h1
      obtain ⟨z, hz, e1⟩ := List.mem_map.mp h2
      exact ⟨z, hz, e1⟩
    rcases List.mem_append.mp hx with hx | hx
    · rcases List.mem_append.mp hx with hx | hx
      · exact (sd_D_iff.mp hD).2 x (List.mem_append_left _ (List.mem_append_left _ hx))
      · obtain ⟨z, hz, e1⟩ := hm x hx
        rw [← e1]
        exact (sd_D_iff.mp hD).2 z (List.mem_append_left _ (List.mem_append_right _ hz))
    · exact (sd_D_iff.mp hD).2 x (List.mem_append_right _ hx)
end
section
/-! decode rows -/
theorem d_H_init_0 : decode c_H_init 0 = .ok (.aload_n 0, 1) := by decide +kernel
theorem d_H_init_1 : decode c_H_init 1 = .ok (.invokespecial 3, 3) := by decide +kernel
theorem d_H_init_4 : decode c_H_init 4 = .ok (.aload_n 0, 1) := by decide +kernel
theorem d_H_init_5 : decode c_H_init 5 = .ok (.iconst 5, 1) := by decide +kernel
theorem d_H_init_6 : decode c_H_init 6 = .ok (.newarray .int, 2) := by decide +kernel
theorem d_H_init_8 : decode c_H_init 8 = .ok (.putfield 9, 3) := by decide +kernel
theorem d_H_init_11 : decode c_H_init 11 = .ok (.aload_n 0, 1) := by decide +kernel
theorem d_H_init_12 : decode c_H_init 12 = .ok (.bipush 45, 2) := by decide +kernel
theorem d_H_init_14 : decode c_H_init 14 = .ok (.newarray .boolean, 2) := by decide +kernel
theorem d_H_init_16 : decode c_H_init 16 = .ok (.putfield 15, 3) := by decide +kernel
theorem d_H_init_19 : decode c_H_init 19 = .ok (.aload_n 0, 1) := by decide +kernel
theorem d_H_init_20 : decode c_H_init 20 = .ok (.bipush 45, 2) := by decide +kernel
theorem d_H_init_22 : decode c_H_init 22 = .ok (.newarray .int, 2) := by decide +kernel
theorem d_H_init_24 : decode c_H_init 24 = .ok (.putfield 19, 3) := by decide +kernel
theorem d_H_init_27 : decode c_H_init 27 = .ok (.aload_n 0, 1) := by decide +kernel
theorem d_H_init_28 : decode c_H_init 28 = .ok (.bipush 6, 2) := by decide +kernel
theorem d_H_init_30 : decode c_H_init 30 = .ok (.newarray .int, 2) := by decide +kernel
theorem d_H_init_32 : decode c_H_init 32 = .ok (.putfield 22, 3) := by decide +kernel
theorem d_H_init_35 : decode c_H_init 35 = .ok (.aload_n 0, 1) := by decide +kernel
theorem d_H_init_36 : decode c_H_init 36 = .ok (.bipush 6, 2) := by decide +kernel
theorem d_H_init_38 : decode c_H_init 38 = .ok (.newarray .int, 2) := by decide +kernel
theorem d_H_init_40 : decode c_H_init 40 = .ok (.putfield 25, 3) := by decide +kernel
theorem d_H_init_43 : decode c_H_init 43 = .ok (.aload_n 0, 1) := by decide +kernel
theorem d_H_init_44 : decode c_H_init 44 = .ok (.bipush 6, 2) := by decide +kernel
theorem d_H_init_46 : decode c_H_init 46 = .ok (.newarray .int, 2) := by decide +kernel
theorem d_H_init_48 : decode c_H_init 48 = .ok (.putfield 28, 3) := by decide +kernel
theorem d_H_init_51 : decode c_H_init 51 = .ok (.aload_n 0, 1) := by decide +kernel
theorem d_H_init_52 : decode c_H_init 52 = .ok (.bipush 6, 2) := by decide +kernel
theorem d_H_init_54 : decode c_H_init 54 = .ok (.newarray .int, 2) := by decide +kernel
theorem d_H_init_56 : decode c_H_init 56 = .ok (.putfield 31, 3) := by decide +kernel
theorem d_H_init_59 : decode c_H_init 59 = .ok (.aload_n 0, 1) := by decide +kernel
theorem d_H_init_60 : decode c_H_init 60 = .ok (.bipush 6, 2) := by decide +kernel
theorem d_H_init_62 : decode c_H_init 62 = .ok (.newarray .long, 2) := by decide +kernel
theorem d_H_init_64 : decode c_H_init 64 = .ok (.putfield 34, 3) := by decide +kernel
theorem d_H_init_67 : decode c_H_init 67 = .ok (.aload_n 0, 1) := by decide +kernel
theorem d_H_init_68 : decode c_H_init 68 = .ok (.invokevirtual 38, 3) := by decide +kernel
theorem d_H_init_71 : decode c_H_init 71 = .ok (.return_, 1) := by decide +kernel
theorem d_H_clear_0 : decode c_H_clear 0 = .ok (.aload_n 0, 1) := by decide +kernel
theorem d_H_clear_1 : decode c_H_clear 1 = .ok (.invokevirtual 41, 3) := by decide +kernel
theorem d_H_clear_4 : decode c_H_clear 4 = .ok (.aload_n 0, 1) := by decide +kernel
theorem d_H_clear_5 : decode c_H_clear 5 = .ok (.invokevirtual 44, 3) := by decide +kernel
theorem d_H_clear_8 : decode c_H_clear 8 = .ok (.aload_n 0, 1) := by decide +kernel
theorem d_H_clear_9 : decode c_H_clear 9 = .ok (.iconst 0, 1) := by decide +kernel
theorem d_H_clear_10 : decode c_H_clear 10 = .ok (.putfield 47, 3) := by decide +kernel
theorem d_H_clear_13 : decode c_H_clear 13 = .ok (.aload_n 0, 1) := by decide +kernel
theorem d_H_clear_14 : decode c_H_clear 14 = .ok (.iconst 0, 1) := by decide +kernel
theorem d_H_clear_15 : decode c_H_clear 15 = .ok (.putfield 51, 3) := by decide +kernel
theorem d_H_clear_18 : decode c_H_clear 18 = .ok (.aload_n 0, 1) := by decide +kernel
theorem d_H_clear_19 : decode c_H_clear 19 = .ok (.iconst (-1), 1) := by decide +kernel
theorem d_H_clear_20 : decode c_H_clear 20 = .ok (.putfield 54, 3) := by decide +kernel
theorem d_H_clear_23 : decode c_H_clear 23 = .ok (.aload_n 0, 1) := by decide +kernel
theorem d_H_clear_24 : decode c_H_clear 24 = .ok (.iconst (-1), 1) := by decide +kernel
theorem d_H_clear_25 : decode c_H_clear 25 = .ok (.putfield 57, 3) := by decide +kernel
theorem d_H_clear_28 : decode c_H_clear 28 = .ok (.aload_n 0, 1) := by decide +kernel
theorem d_H_clear_29 : decode c_H_clear 29 = .ok (.iconst 0, 1) := by decide +kernel
theorem d_H_clear_30 : decode c_H_clear 30 = .ok (.putfield 60, 3) := by decide +kernel
theorem d_H_clear_33 : decode c_H_clear 33 = .ok (.aload_n 0, 1) := by decide +kernel
theorem d_H_clear_34 : decode c_H_clear 34 = .ok (.iconst 0, 1) := by decide +kernel
theorem d_H_clear_35 : decode c_H_clear 35 = .ok (.putfield 63, 3) := by decide +kernel
theorem d_H_clear_38 : decode c_H_clear 38 = .ok (.aload_n 0, 1) := by decide +kernel
theorem d_H_clear_39 : decode c_H_clear 39 = .ok (.iconst 1, 1) := by decide +kernel
theorem d_H_clear_40 : decode c_H_clear 40 = .ok (.putfield 66, 3) := by decide +kernel
theorem d_H_clear_43 : decode c_H_clear 43 = .ok (.aload_n 0, 1) := by decide +kernel
theorem d_H_clear_44 : decode c_H_clear 44 = .ok (.iconst 0, 1) := by decide +kernel
theorem d_H_clear_45 : decode c_H_clear 45 = .ok (.putfield 69, 3) := by decide +kernel
theorem d_H_clear_48 : decode c_H_clear 48 = .ok (.return_, 1) := by decide +kernel
theorem d_H_clearThings_0 : decode c_H_clearThings 0 = .ok (.iconst 0, 1) := by decide +kernel
theorem d_H_clearThings_1 : decode c_H_clearThings 1 = .ok (.istore_n 1, 1) := by decide +kernel
theorem d_H_clearThings_2 : decode c_H_clearThings 2 = .ok (.iload_n 1, 1) := by decide +kernel
theorem d_H_clearThings_3 : decode c_H_clearThings 3 = .ok (.iconst 5, 1) := by decide +kernel
theorem d_H_clearThings_4 : decode c_H_clearThings 4 = .ok (.if_icmp .ge 16, 3) := by decide +kernel
theorem d_H_clearThings_7 : decode c_H_clearThings 7 = .ok (.aload_n 0, 1) := by decide +kernel
theorem d_H_clearThings_8 : decode c_H_clearThings 8 = .ok (.getfield 9, 3) := by decide +kernel
theorem d_H_clearThings_11 : decode c_H_clearThings 11 = .ok (.iload_n 1, 1) := by decide +kernel
theorem d_H_clearThings_12 : decode c_H_clearThings 12 = .ok (.iconst 0, 1) := by decide +kernel
theorem d_H_clearThings_13 : decode c_H_clearThings 13 = .ok (.iastore, 1) := by decide +kernel
theorem d_H_clearThings_14 : decode c_H_clearThings 14 = .ok (.iinc 1 1, 3) := by decide +kernel
theorem d_H_clearThings_17 : decode c_H_clearThings 17 = .ok (.goto (-15), 3) := by decide +kernel
theorem d_H_clearThings_20 : decode c_H_clearThings 20 = .ok (.iconst 0, 1) := by decide +kernel
theorem d_H_clearThings_21 : decode c_H_clearThings 21 = .ok (.istore_n 1, 1) := by decide +kernel
theorem d_H_clearThings_22 : decode c_H_clearThings 22 = .ok (.iload_n 1, 1) := by decide +kernel
theorem d_H_clearThings_23 : decode c_H_clearThings 23 = .ok (.bipush 45, 2) := by decide +kernel
theorem d_H_clearThings_25 : decode c_H_clearThings 25 = .ok (.if_icmp .ge 23, 3) := by decide +kernel
theorem d_H_clearThings_28 : decode c_H_clearThings 28 = .ok (.aload_n 0, 1) := by decide +kernel
theorem d_H_clearThings_29 : decode c_H_clearThings 29 = .ok (.getfield 15, 3) := by decide +kernel
theorem d_H_clearThings_32 : decode c_H_clearThings 32 = .ok (.iload_n 1, 1) := by decide +kernel
theorem d_H_clearThings_33 : decode c_H_clearThings 33 = .ok (.iconst 0, 1) := by decide +kernel
theorem d_H_clearThings_34 : decode c_H_clearThings 34 = .ok (.bastore, 1) := by decide +kernel
theorem d_H_clearThings_35 : decode c_H_clearThings 35 = .ok (.aload_n 0, 1) := by decide +kernel
theorem d_H_clearThings_36 : decode c_H_clearThings 36 = .ok (.getfield 19, 3) := by decide +kernel
theorem d_H_clearThings_39 : decode c_H_clearThings 39 = .ok (.iload_n 1, 1) := by decide +kernel
theorem d_H_clearThings_40 : decode c_H_clearThings 40 = .ok (.iconst 0, 1) := by decide +kernel
theorem d_H_clearThings_41 : decode c_H_clearThings 41 = .ok (.iastore, 1) := by decide +kernel
theorem d_H_clearThings_42 : decode c_H_clearThings 42 = .ok (.iinc 1 1, 3) := by decide +kernel
theorem d_H_clearThings_45 : decode c_H_clearThings 45 = .ok (.goto (-23), 3) := by decide +kernel
theorem d_H_clearThings_48 : decode c_H_clearThings 48 = .ok (.return_, 1) := by decide +kernel
theorem d_H_clearParts_0 : decode c_H_clearParts 0 = .ok (.iconst 0, 1) := by decide +kernel
theorem d_H_clearParts_1 : decode c_H_clearParts 1 = .ok (.istore_n 1, 1) := by decide +kernel
theorem d_H_clearParts_2 : decode c_H_clearParts 2 = .ok (.iload_n 1, 1) := by decide +kernel
theorem d_H_clearParts_3 : decode c_H_clearParts 3 = .ok (.bipush 6, 2) := by decide +kernel
theorem d_H_clearParts_5 : decode c_H_clearParts 5 = .ok (.if_icmp .ge 46, 3) := by decide +kernel
theorem d_H_clearParts_8 : decode c_H_clearParts 8 = .ok (.aload_n 0, 1) := by decide +kernel
theorem d_H_clearParts_9 : decode c_H_clearParts 9 = .ok (.getfield 22, 3) := by decide +kernel
theorem d_H_clearParts_12 : decode c_H_clearParts 12 = .ok (.iload_n 1, 1) := by decide +kernel
theorem d_H_clearParts_13 : decode c_H_clearParts 13 = .ok (.iload_n 1, 1) := by decide +kernel
theorem d_H_clearParts_14 : decode c_H_clearParts 14 = .ok (.iconst 5, 1) := by decide +kernel
theorem d_H_clearParts_15 : decode c_H_clearParts 15 = .ok (.irem, 1) := by decide +kernel
theorem d_H_clearParts_16 : decode c_H_clearParts 16 = .ok (.iastore, 1) := by decide +kernel
theorem d_H_clearParts_17 : decode c_H_clearParts 17 = .ok (.aload_n 0, 1) := by decide +kernel
theorem d_H_clearParts_18 : decode c_H_clearParts 18 = .ok (.getfield 25, 3) := by decide +kernel
theorem d_H_clearParts_21 : decode c_H_clearParts 21 = .ok (.iload_n 1, 1) := by decide +kernel
theorem d_H_clearParts_22 : decode c_H_clearParts 22 = .ok (.iconst 0, 1) := by decide +kernel
theorem d_H_clearParts_23 : decode c_H_clearParts 23 = .ok (.iastore, 1) := by decide +kernel
theorem d_H_clearParts_24 : decode c_H_clearParts 24 = .ok (.aload_n 0, 1) := by decide +kernel
theorem d_H_clearParts_25 : decode c_H_clearParts 25 = .ok (.getfield 28, 3) := by decide +kernel
theorem d_H_clearParts_28 : decode c_H_clearParts 28 = .ok (.iload_n 1, 1) := by decide +kernel
theorem d_H_clearParts_29 : decode c_H_clearParts 29 = .ok (.iconst 0, 1) := by decide +kernel
theorem d_H_clearParts_30 : decode c_H_clearParts 30 = .ok (.iastore, 1) := by decide +kernel
theorem d_H_clearParts_31 : decode c_H_clearParts 31 = .ok (.aload_n 0, 1) := by decide +kernel
theorem d_H_clearParts_32 : decode c_H_clearParts 32 = .ok (.getfield 31, 3) := by decide +kernel
theorem d_H_clearParts_35 : decode c_H_clearParts 35 = .ok (.iload_n 1, 1) := by decide +kernel
theorem d_H_clearParts_36 : decode c_H_clearParts 36 = .ok (.iconst 0, 1) := by decide +kernel
theorem d_H_clearParts_37 : decode c_H_clearParts 37 = .ok (.iastore, 1) := by decide +kernel
theorem d_H_clearParts_38 : decode c_H_clearParts 38 = .ok (.aload_n 0, 1) := by decide +kernel
theorem d_H_clearParts_39 : decode c_H_clearParts 39 = .ok (.getfield 34, 3) := by decide +kernel
theorem d_H_clearParts_42 : decode c_H_clearParts 42 = .ok (.iload_n 1, 1) := by decide +kernel
theorem d_H_clearParts_43 : decode c_H_clearParts 43 = .ok (.lconst 0, 1) := by decide +kernel
theorem d_H_clearParts_44 : decode c_H_clearParts 44 = .ok (.lastore, 1) := by decide +kernel
theorem d_H_clearParts_45 : decode c_H_clearParts 45 = .ok (.iinc 1 1, 3) := by decide +kernel
theorem d_H_clearParts_48 : decode c_H_clearParts 48 = .ok (.goto (-46), 3) := by decide +kernel
theorem d_H_clearParts_51 : decode c_H_clearParts 51 = .ok (.return_, 1) := by decide +kernel
theorem d_H_perform_0 : decode c_H_perform 0 = .ok (.iload_n 1, 1) := by decide +kernel
theorem d_H_perform_1 : decode c_H_perform 1 = .ok (.tableswitch 100 0 6 #[43, 50, 58, 66, 76, 84, 93], 43) := by decide +kernel
theorem d_H_perform_44 : decode c_H_perform 44 = .ok (.aload_n 0, 1) := by decide +kernel
theorem d_H_perform_45 : decode c_H_perform 45 = .ok (.iload_n 2, 1) := by decide +kernel
theorem d_H_perform_46 : decode c_H_perform 46 = .ok (.invokevirtual 72, 3) := by decide +kernel
theorem d_H_perform_49 : decode c_H_perform 49 = .ok (.i2l, 1) := by decide +kernel
theorem d_H_perform_50 : decode c_H_perform 50 = .ok (.lreturn, 1) := by decide +kernel
theorem d_H_perform_51 : decode c_H_perform 51 = .ok (.aload_n 0, 1) := by decide +kernel
theorem d_H_perform_52 : decode c_H_perform 52 = .ok (.iload_n 2, 1) := by decide +kernel
theorem d_H_perform_53 : decode c_H_perform 53 = .ok (.iload_n 3, 1) := by decide +kernel
theorem d_H_perform_54 : decode c_H_perform 54 = .ok (.invokevirtual 76, 3) := by decide +kernel
theorem d_H_perform_57 : decode c_H_perform 57 = .ok (.i2l, 1) := by decide +kernel
theorem d_H_perform_58 : decode c_H_perform 58 = .ok (.lreturn, 1) := by decide +kernel
theorem d_H_perform_59 : decode c_H_perform 59 = .ok (.aload_n 0, 1) := by decide +kernel
theorem d_H_perform_60 : decode c_H_perform 60 = .ok (.iload_n 2, 1) := by decide +kernel
theorem d_H_perform_61 : decode c_H_perform 61 = .ok (.iload_n 3, 1) := by decide +kernel
theorem d_H_perform_62 : decode c_H_perform 62 = .ok (.invokevirtual 80, 3) := by decide +kernel
theorem d_H_perform_65 : decode c_H_perform 65 = .ok (.i2l, 1) := by decide +kernel
theorem d_H_perform_66 : decode c_H_perform 66 = .ok (.lreturn, 1) := by decide +kernel
theorem d_H_perform_67 : decode c_H_perform 67 = .ok (.aload_n 0, 1) := by decide +kernel
theorem d_H_perform_68 : decode c_H_perform 68 = .ok (.iload_n 2, 1) := by decide +kernel
theorem d_H_perform_69 : decode c_H_perform 69 = .ok (.iload_n 3, 1) := by decide +kernel
theorem d_H_perform_70 : decode c_H_perform 70 = .ok (.iload 4, 2) := by decide +kernel
theorem d_H_perform_72 : decode c_H_perform 72 = .ok (.invokevirtual 83, 3) := by decide +kernel
theorem d_H_perform_75 : decode c_H_perform 75 = .ok (.i2l, 1) := by decide +kernel
theorem d_H_perform_76 : decode c_H_perform 76 = .ok (.lreturn, 1) := by decide +kernel
theorem d_H_perform_77 : decode c_H_perform 77 = .ok (.aload_n 0, 1) := by decide +kernel
theorem d_H_perform_78 : decode c_H_perform 78 = .ok (.iload_n 2, 1) := by decide +kernel
theorem d_H_perform_79 : decode c_H_perform 79 = .ok (.iload_n 3, 1) := by decide +kernel
theorem d_H_perform_80 : decode c_H_perform 80 = .ok (.invokevirtual 87, 3) := by decide +kernel
theorem d_H_perform_83 : decode c_H_perform 83 = .ok (.i2l, 1) := by decide +kernel
theorem d_H_perform_84 : decode c_H_perform 84 = .ok (.lreturn, 1) := by decide +kernel
theorem d_H_perform_85 : decode c_H_perform 85 = .ok (.aload_n 0, 1) := by decide +kernel
theorem d_H_perform_86 : decode c_H_perform 86 = .ok (.iload_n 2, 1) := by decide +kernel
theorem d_H_perform_87 : decode c_H_perform 87 = .ok (.iload_n 3, 1) := by decide +kernel
theorem d_H_perform_88 : decode c_H_perform 88 = .ok (.iload 4, 2) := by decide +kernel
theorem d_H_perform_90 : decode c_H_perform 90 = .ok (.invokevirtual 90, 3) := by decide +kernel
theorem d_H_perform_93 : decode c_H_perform 93 = .ok (.lreturn, 1) := by decide +kernel
theorem d_H_perform_94 : decode c_H_perform 94 = .ok (.aload_n 0, 1) := by decide +kernel
theorem d_H_perform_95 : decode c_H_perform 95 = .ok (.iload_n 2, 1) := by decide +kernel
theorem d_H_perform_96 : decode c_H_perform 96 = .ok (.invokevirtual 94, 3) := by decide +kernel
theorem d_H_perform_99 : decode c_H_perform 99 = .ok (.i2l, 1) := by decide +kernel
theorem d_H_perform_100 : decode c_H_perform 100 = .ok (.lreturn, 1) := by decide +kernel
theorem d_H_perform_101 : decode c_H_perform 101 = .ok (.lconst 0, 1) := by decide +kernel
theorem d_H_perform_102 : decode c_H_perform 102 = .ok (.lreturn, 1) := by decide +kernel
theorem d_H_addThing_0 : decode c_H_addThing 0 = .ok (.aload_n 0, 1) := by decide +kernel
theorem d_H_addThing_1 : decode c_H_addThing 1 = .ok (.getfield 9, 3) := by decide +kernel
theorem d_H_addThing_4 : decode c_H_addThing 4 = .ok (.iload_n 1, 1) := by decide +kernel
theorem d_H_addThing_5 : decode c_H_addThing 5 = .ok (.dup2, 1) := by decide +kernel
theorem d_H_addThing_6 : decode c_H_addThing 6 = .ok (.iaload, 1) := by decide +kernel
theorem d_H_addThing_7 : decode c_H_addThing 7 = .ok (.iconst 1, 1) := by decide +kernel
theorem d_H_addThing_8 : decode c_H_addThing 8 = .ok (.iadd, 1) := by decide +kernel
theorem d_H_addThing_9 : decode c_H_addThing 9 = .ok (.iastore, 1) := by decide +kernel
theorem d_H_addThing_10 : decode c_H_addThing 10 = .ok (.aload_n 0, 1) := by decide +kernel
theorem d_H_addThing_11 : decode c_H_addThing 11 = .ok (.getfield 15, 3) := by decide +kernel
theorem d_H_addThing_14 : decode c_H_addThing 14 = .ok (.iload_n 1, 1) := by decide +kernel
theorem d_H_addThing_15 : decode c_H_addThing 15 = .ok (.aload_n 0, 1) := by decide +kernel
theorem d_H_addThing_16 : decode c_H_addThing 16 = .ok (.getfield 9, 3) := by decide +kernel
theorem d_H_addThing_19 : decode c_H_addThing 19 = .ok (.iload_n 1, 1) := by decide +kernel
theorem d_H_addThing_20 : decode c_H_addThing 20 = .ok (.iaload, 1) := by decide +kernel
theorem d_H_addThing_21 : decode c_H_addThing 21 = .ok (.invokestatic 97, 3) := by decide +kernel
theorem d_H_addThing_24 : decode c_H_addThing 24 = .ok (.iconst 1, 1) := by decide +kernel
theorem d_H_addThing_25 : decode c_H_addThing 25 = .ok (.bastore, 1) := by decide +kernel
theorem d_H_addThing_26 : decode c_H_addThing 26 = .ok (.aload_n 0, 1) := by decide +kernel
theorem d_H_addThing_27 : decode c_H_addThing 27 = .ok (.getfield 9, 3) := by decide +kernel
theorem d_H_addThing_30 : decode c_H_addThing 30 = .ok (.iload_n 1, 1) := by decide +kernel
theorem d_H_addThing_31 : decode c_H_addThing 31 = .ok (.iaload, 1) := by decide +kernel
theorem d_H_addThing_32 : decode c_H_addThing 32 = .ok (.ireturn, 1) := by decide +kernel
theorem d_H_removeThing_0 : decode c_H_removeThing 0 = .ok (.aload_n 0, 1) := by decide +kernel
theorem d_H_removeThing_1 : decode c_H_removeThing 1 = .ok (.getfield 15, 3) := by decide +kernel
theorem d_H_removeThing_4 : decode c_H_removeThing 4 = .ok (.iload_n 1, 1) := by decide +kernel
theorem d_H_removeThing_5 : decode c_H_removeThing 5 = .ok (.iload_n 2, 1) := by decide +kernel
theorem d_H_removeThing_6 : decode c_H_removeThing 6 = .ok (.invokestatic 97, 3) := by decide +kernel
theorem d_H_removeThing_9 : decode c_H_removeThing 9 = .ok (.iconst 0, 1) := by decide +kernel
theorem d_H_removeThing_10 : decode c_H_removeThing 10 = .ok (.bastore, 1) := by decide +kernel
theorem d_H_removeThing_11 : decode c_H_removeThing 11 = .ok (.aload_n 0, 1) := by decide +kernel
theorem d_H_removeThing_12 : decode c_H_removeThing 12 = .ok (.getfield 19, 3) := by decide +kernel
theorem d_H_removeThing_15 : decode c_H_removeThing 15 = .ok (.iload_n 1, 1) := by decide +kernel
theorem d_H_removeThing_16 : decode c_H_removeThing 16 = .ok (.iload_n 2, 1) := by decide +kernel
theorem d_H_removeThing_17 : decode c_H_removeThing 17 = .ok (.invokestatic 97, 3) := by decide +kernel
theorem d_H_removeThing_20 : decode c_H_removeThing 20 = .ok (.iaload, 1) := by decide +kernel
theorem d_H_removeThing_21 : decode c_H_removeThing 21 = .ok (.ireturn, 1) := by decide +kernel
theorem d_H_setKind_0 : decode c_H_setKind 0 = .ok (.aload_n 0, 1) := by decide +kernel
theorem d_H_setKind_1 : decode c_H_setKind 1 = .ok (.getfield 22, 3) := by decide +kernel
theorem d_H_setKind_4 : decode c_H_setKind 4 = .ok (.iload_n 1, 1) := by decide +kernel
theorem d_H_setKind_5 : decode c_H_setKind 5 = .ok (.iaload, 1) := by decide +kernel
theorem d_H_setKind_6 : decode c_H_setKind 6 = .ok (.istore_n 3, 1) := by decide +kernel
theorem d_H_setKind_7 : decode c_H_setKind 7 = .ok (.aload_n 0, 1) := by decide +kernel
theorem d_H_setKind_8 : decode c_H_setKind 8 = .ok (.getfield 22, 3) := by decide +kernel
theorem d_H_setKind_11 : decode c_H_setKind 11 = .ok (.iload_n 1, 1) := by decide +kernel
theorem d_H_setKind_12 : decode c_H_setKind 12 = .ok (.iload_n 2, 1) := by decide +kernel
theorem d_H_setKind_13 : decode c_H_setKind 13 = .ok (.iastore, 1) := by decide +kernel
theorem d_H_setKind_14 : decode c_H_setKind 14 = .ok (.iload_n 3, 1) := by decide +kernel
theorem d_H_setKind_15 : decode c_H_setKind 15 = .ok (.ireturn, 1) := by decide +kernel
theorem d_H_setAnswer_0 : decode c_H_setAnswer 0 = .ok (.aload_n 0, 1) := by decide +kernel
theorem d_H_setAnswer_1 : decode c_H_setAnswer 1 = .ok (.getfield 25, 3) := by decide +kernel
theorem d_H_setAnswer_4 : decode c_H_setAnswer 4 = .ok (.iload_n 1, 1) := by decide +kernel
theorem d_H_setAnswer_5 : decode c_H_setAnswer 5 = .ok (.iload_n 2, 1) := by decide +kernel
theorem d_H_setAnswer_6 : decode c_H_setAnswer 6 = .ok (.iastore, 1) := by decide +kernel
theorem d_H_setAnswer_7 : decode c_H_setAnswer 7 = .ok (.aload_n 0, 1) := by decide +kernel
theorem d_H_setAnswer_8 : decode c_H_setAnswer 8 = .ok (.getfield 28, 3) := by decide +kernel
theorem d_H_setAnswer_11 : decode c_H_setAnswer 11 = .ok (.iload_n 1, 1) := by decide +kernel
theorem d_H_setAnswer_12 : decode c_H_setAnswer 12 = .ok (.iload_n 3, 1) := by decide +kernel
theorem d_H_setAnswer_13 : decode c_H_setAnswer 13 = .ok (.iastore, 1) := by decide +kernel
theorem d_H_setAnswer_14 : decode c_H_setAnswer 14 = .ok (.iconst 0, 1) := by decide +kernel
theorem d_H_setAnswer_15 : decode c_H_setAnswer 15 = .ok (.ireturn, 1) := by decide +kernel
theorem d_H_setWay_0 : decode c_H_setWay 0 = .ok (.aload_n 0, 1) := by decide +kernel
theorem d_H_setWay_1 : decode c_H_setWay 1 = .ok (.getfield 31, 3) := by decide +kernel
theorem d_H_setWay_4 : decode c_H_setWay 4 = .ok (.iload_n 1, 1) := by decide +kernel
theorem d_H_setWay_5 : decode c_H_setWay 5 = .ok (.iaload, 1) := by decide +kernel
theorem d_H_setWay_6 : decode c_H_setWay 6 = .ok (.istore_n 3, 1) := by decide +kernel
theorem d_H_setWay_7 : decode c_H_setWay 7 = .ok (.aload_n 0, 1) := by decide +kernel
theorem d_H_setWay_8 : decode c_H_setWay 8 = .ok (.getfield 31, 3) := by decide +kernel
theorem d_H_setWay_11 : decode c_H_setWay 11 = .ok (.iload_n 1, 1) := by decide +kernel
theorem d_H_setWay_12 : decode c_H_setWay 12 = .ok (.iload_n 2, 1) := by decide +kernel
theorem d_H_setWay_13 : decode c_H_setWay 13 = .ok (.iastore, 1) := by decide +kernel
theorem d_H_setWay_14 : decode c_H_setWay 14 = .ok (.iload_n 3, 1) := by decide +kernel
theorem d_H_setWay_15 : decode c_H_setWay 15 = .ok (.ireturn, 1) := by decide +kernel
theorem d_H_answerCall_0 : decode c_H_answerCall 0 = .ok (.aload_n 0, 1) := by decide +kernel
theorem d_H_answerCall_1 : decode c_H_answerCall 1 = .ok (.iload_n 1, 1) := by decide +kernel
theorem d_H_answerCall_2 : decode c_H_answerCall 2 = .ok (.invokevirtual 100, 3) := by decide +kernel
theorem d_H_answerCall_5 : decode c_H_answerCall 5 = .ok (.ifCond .eq 11, 3) := by decide +kernel
theorem d_H_answerCall_8 : decode c_H_answerCall 8 = .ok (.aload_n 0, 1) := by decide +kernel
theorem d_H_answerCall_9 : decode c_H_answerCall 9 = .ok (.iload_n 1, 1) := by decide +kernel
theorem d_H_answerCall_10 : decode c_H_answerCall 10 = .ok (.iload_n 2, 1) := by decide +kernel
theorem d_H_answerCall_11 : decode c_H_answerCall 11 = .ok (.invokevirtual 104, 3) := by decide +kernel
theorem d_H_answerCall_14 : decode c_H_answerCall 14 = .ok (.lconst 0, 1) := by decide +kernel
theorem d_H_answerCall_15 : decode c_H_answerCall 15 = .ok (.lreturn, 1) := by decide +kernel
theorem d_H_answerCall_16 : decode c_H_answerCall 16 = .ok (.aload_n 0, 1) := by decide +kernel
theorem d_H_answerCall_17 : decode c_H_answerCall 17 = .ok (.iload_n 1, 1) := by decide +kernel
theorem d_H_answerCall_18 : decode c_H_answerCall 18 = .ok (.iload_n 2, 1) := by decide +kernel
theorem d_H_answerCall_19 : decode c_H_answerCall 19 = .ok (.iload_n 3, 1) := by decide +kernel
theorem d_H_answerCall_20 : decode c_H_answerCall 20 = .ok (.invokevirtual 108, 3) := by decide +kernel
theorem d_H_answerCall_23 : decode c_H_answerCall 23 = .ok (.lstore 4, 2) := by decide +kernel
theorem d_H_answerCall_25 : decode c_H_answerCall 25 = .ok (.aload_n 0, 1) := by decide +kernel
theorem d_H_answerCall_26 : decode c_H_answerCall 26 = .ok (.getfield 19, 3) := by decide +kernel
theorem d_H_answerCall_29 : decode c_H_answerCall 29 = .ok (.aload_n 0, 1) := by decide +kernel
theorem d_H_answerCall_30 : decode c_H_answerCall 30 = .ok (.getfield 22, 3) := by decide +kernel
theorem d_H_answerCall_33 : decode c_H_answerCall 33 = .ok (.iload_n 1, 1) := by decide +kernel
theorem d_H_answerCall_34 : decode c_H_answerCall 34 = .ok (.iaload, 1) := by decide +kernel
theorem d_H_answerCall_35 : decode c_H_answerCall 35 = .ok (.iload_n 2, 1) := by decide +kernel
theorem d_H_answerCall_36 : decode c_H_answerCall 36 = .ok (.invokestatic 97, 3) := by decide +kernel
theorem d_H_answerCall_39 : decode c_H_answerCall 39 = .ok (.dup2, 1) := by decide +kernel
theorem d_H_answerCall_40 : decode c_H_answerCall 40 = .ok (.iaload, 1) := by decide +kernel
theorem d_H_answerCall_41 : decode c_H_answerCall 41 = .ok (.iconst 1, 1) := by decide +kernel
theorem d_H_answerCall_42 : decode c_H_answerCall 42 = .ok (.iadd, 1) := by decide +kernel
theorem d_H_answerCall_43 : decode c_H_answerCall 43 = .ok (.iastore, 1) := by decide +kernel
theorem d_H_answerCall_44 : decode c_H_answerCall 44 = .ok (.aload_n 0, 1) := by decide +kernel
theorem d_H_answerCall_45 : decode c_H_answerCall 45 = .ok (.getfield 34, 3) := by decide +kernel
theorem d_H_answerCall_48 : decode c_H_answerCall 48 = .ok (.iload_n 1, 1) := by decide +kernel
theorem d_H_answerCall_49 : decode c_H_answerCall 49 = .ok (.dup2, 1) := by decide +kernel
theorem d_H_answerCall_50 : decode c_H_answerCall 50 = .ok (.laload, 1) := by decide +kernel
theorem d_H_answerCall_51 : decode c_H_answerCall 51 = .ok (.iload_n 3, 1) := by decide +kernel
theorem d_H_answerCall_52 : decode c_H_answerCall 52 = .ok (.i2l, 1) := by decide +kernel
theorem d_H_answerCall_53 : decode c_H_answerCall 53 = .ok (.ladd, 1) := by decide +kernel
theorem d_H_answerCall_54 : decode c_H_answerCall 54 = .ok (.lastore, 1) := by decide +kernel
theorem d_H_answerCall_55 : decode c_H_answerCall 55 = .ok (.aload_n 0, 1) := by decide +kernel
theorem d_H_answerCall_56 : decode c_H_answerCall 56 = .ok (.dup, 1) := by decide +kernel
theorem d_H_answerCall_57 : decode c_H_answerCall 57 = .ok (.getfield 60, 3) := by decide +kernel
theorem d_H_answerCall_60 : decode c_H_answerCall 60 = .ok (.iconst 1, 1) := by decide +kernel
theorem d_H_answerCall_61 : decode c_H_answerCall 61 = .ok (.iadd, 1) := by decide +kernel
theorem d_H_answerCall_62 : decode c_H_answerCall 62 = .ok (.putfield 60, 3) := by decide +kernel
theorem d_H_answerCall_65 : decode c_H_answerCall 65 = .ok (.lload 4, 2) := by decide +kernel
theorem d_H_answerCall_67 : decode c_H_answerCall 67 = .ok (.lreturn, 1) := by decide +kernel
theorem d_H_tellFailure_0 : decode c_H_tellFailure 0 = .ok (.aload_n 0, 1) := by decide +kernel
theorem d_H_tellFailure_1 : decode c_H_tellFailure 1 = .ok (.dup, 1) := by decide +kernel
theorem d_H_tellFailure_2 : decode c_H_tellFailure 2 = .ok (.getfield 47, 3) := by decide +kernel
theorem d_H_tellFailure_5 : decode c_H_tellFailure 5 = .ok (.iconst 1, 1) := by decide +kernel
theorem d_H_tellFailure_6 : decode c_H_tellFailure 6 = .ok (.iadd, 1) := by decide +kernel
theorem d_H_tellFailure_7 : decode c_H_tellFailure 7 = .ok (.putfield 47, 3) := by decide +kernel
theorem d_H_tellFailure_10 : decode c_H_tellFailure 10 = .ok (.aload_n 0, 1) := by decide +kernel
theorem d_H_tellFailure_11 : decode c_H_tellFailure 11 = .ok (.aload_n 0, 1) := by decide +kernel
theorem d_H_tellFailure_12 : decode c_H_tellFailure 12 = .ok (.getfield 31, 3) := by decide +kernel
theorem d_H_tellFailure_15 : decode c_H_tellFailure 15 = .ok (.iload_n 1, 1) := by decide +kernel
theorem d_H_tellFailure_16 : decode c_H_tellFailure 16 = .ok (.iaload, 1) := by decide +kernel
theorem d_H_tellFailure_17 : decode c_H_tellFailure 17 = .ok (.putfield 51, 3) := by decide +kernel
theorem d_H_tellFailure_20 : decode c_H_tellFailure 20 = .ok (.aload_n 0, 1) := by decide +kernel
theorem d_H_tellFailure_21 : decode c_H_tellFailure 21 = .ok (.iload_n 1, 1) := by decide +kernel
theorem d_H_tellFailure_22 : decode c_H_tellFailure 22 = .ok (.putfield 54, 3) := by decide +kernel
theorem d_H_tellFailure_25 : decode c_H_tellFailure 25 = .ok (.aload_n 0, 1) := by decide +kernel
theorem d_H_tellFailure_26 : decode c_H_tellFailure 26 = .ok (.iload_n 2, 1) := by decide +kernel
theorem d_H_tellFailure_27 : decode c_H_tellFailure 27 = .ok (.putfield 57, 3) := by decide +kernel
theorem d_H_tellFailure_30 : decode c_H_tellFailure 30 = .ok (.return_, 1) := by decide +kernel
theorem d_H_addByte_0 : decode c_H_addByte 0 = .ok (.aload_n 0, 1) := by decide +kernel
theorem d_H_addByte_1 : decode c_H_addByte 1 = .ok (.aload_n 0, 1) := by decide +kernel
theorem d_H_addByte_2 : decode c_H_addByte 2 = .ok (.getfield 66, 3) := by decide +kernel
theorem d_H_addByte_5 : decode c_H_addByte 5 = .ok (.iload_n 1, 1) := by decide +kernel
theorem d_H_addByte_6 : decode c_H_addByte 6 = .ok (.iadd, 1) := by decide +kernel
theorem d_H_addByte_7 : decode c_H_addByte 7 = .ok (.ldc 111, 2) := by decide +kernel
theorem d_H_addByte_9 : decode c_H_addByte 9 = .ok (.irem, 1) := by decide +kernel
theorem d_H_addByte_10 : decode c_H_addByte 10 = .ok (.putfield 66, 3) := by decide +kernel
theorem d_H_addByte_13 : decode c_H_addByte 13 = .ok (.aload_n 0, 1) := by decide +kernel
theorem d_H_addByte_14 : decode c_H_addByte 14 = .ok (.aload_n 0, 1) := by decide +kernel
theorem d_H_addByte_15 : decode c_H_addByte 15 = .ok (.getfield 69, 3) := by decide +kernel
theorem d_H_addByte_18 : decode c_H_addByte 18 = .ok (.aload_n 0, 1) := by decide +kernel
theorem d_H_addByte_19 : decode c_H_addByte 19 = .ok (.getfield 66, 3) := by decide +kernel
theorem d_H_addByte_22 : decode c_H_addByte 22 = .ok (.iadd, 1) := by decide +kernel
theorem d_H_addByte_23 : decode c_H_addByte 23 = .ok (.ldc 111, 2) := by decide +kernel
theorem d_H_addByte_25 : decode c_H_addByte 25 = .ok (.irem, 1) := by decide +kernel
theorem d_H_addByte_26 : decode c_H_addByte 26 = .ok (.putfield 69, 3) := by decide +kernel
theorem d_H_addByte_29 : decode c_H_addByte 29 = .ok (.aload_n 0, 1) := by decide +kernel
theorem d_H_addByte_30 : decode c_H_addByte 30 = .ok (.dup, 1) := by decide +kernel
theorem d_H_addByte_31 : decode c_H_addByte 31 = .ok (.getfield 63, 3) := by decide +kernel
theorem d_H_addByte_34 : decode c_H_addByte 34 = .ok (.iconst 1, 1) := by decide +kernel
theorem d_H_addByte_35 : decode c_H_addByte 35 = .ok (.iadd, 1) := by decide +kernel
theorem d_H_addByte_36 : decode c_H_addByte 36 = .ok (.putfield 63, 3) := by decide +kernel
theorem d_H_addByte_39 : decode c_H_addByte 39 = .ok (.aload_n 0, 1) := by decide +kernel
theorem d_H_addByte_40 : decode c_H_addByte 40 = .ok (.getfield 63, 3) := by decide +kernel
theorem d_H_addByte_43 : decode c_H_addByte 43 = .ok (.ireturn, 1) := by decide +kernel
theorem d_H_answerOf_0 : decode c_H_answerOf 0 = .ok (.aload_n 0, 1) := by decide +kernel
theorem d_H_answerOf_1 : decode c_H_answerOf 1 = .ok (.getfield 25, 3) := by decide +kernel
theorem d_H_answerOf_4 : decode c_H_answerOf 4 = .ok (.iload_n 1, 1) := by decide +kernel
theorem d_H_answerOf_5 : decode c_H_answerOf 5 = .ok (.iaload, 1) := by decide +kernel
theorem d_H_answerOf_6 : decode c_H_answerOf 6 = .ok (.i2l, 1) := by decide +kernel
theorem d_H_answerOf_7 : decode c_H_answerOf 7 = .ok (.aload_n 0, 1) := by decide +kernel
theorem d_H_answerOf_8 : decode c_H_answerOf 8 = .ok (.getfield 28, 3) := by decide +kernel
theorem d_H_answerOf_11 : decode c_H_answerOf 11 = .ok (.iload_n 1, 1) := by decide +kernel
theorem d_H_answerOf_12 : decode c_H_answerOf 12 = .ok (.iaload, 1) := by decide +kernel
theorem d_H_answerOf_13 : decode c_H_answerOf 13 = .ok (.i2l, 1) := by decide +kernel
theorem d_H_answerOf_14 : decode c_H_answerOf 14 = .ok (.iload_n 3, 1) := by decide +kernel
theorem d_H_answerOf_15 : decode c_H_answerOf 15 = .ok (.i2l, 1) := by decide +kernel
theorem d_H_answerOf_16 : decode c_H_answerOf 16 = .ok (.lmul, 1) := by decide +kernel
theorem d_H_answerOf_17 : decode c_H_answerOf 17 = .ok (.ladd, 1) := by decide +kernel
theorem d_H_answerOf_18 : decode c_H_answerOf 18 = .ok (.iload_n 2, 1) := by decide +kernel
theorem d_H_answerOf_19 : decode c_H_answerOf 19 = .ok (.i2l, 1) := by decide +kernel
theorem d_H_answerOf_20 : decode c_H_answerOf 20 = .ok (.ladd, 1) := by decide +kernel
theorem d_H_answerOf_21 : decode c_H_answerOf 21 = .ok (.aload_n 0, 1) := by decide +kernel
theorem d_H_answerOf_22 : decode c_H_answerOf 22 = .ok (.getfield 34, 3) := by decide +kernel
theorem d_H_answerOf_25 : decode c_H_answerOf 25 = .ok (.iload_n 1, 1) := by decide +kernel
theorem d_H_answerOf_26 : decode c_H_answerOf 26 = .ok (.laload, 1) := by decide +kernel
theorem d_H_answerOf_27 : decode c_H_answerOf 27 = .ok (.ladd, 1) := by decide +kernel
theorem d_H_answerOf_28 : decode c_H_answerOf 28 = .ok (.lreturn, 1) := by decide +kernel
theorem d_H_isFailing_0 : decode c_H_isFailing 0 = .ok (.aload_n 0, 1) := by decide +kernel
theorem d_H_isFailing_1 : decode c_H_isFailing 1 = .ok (.getfield 31, 3) := by decide +kernel
theorem d_H_isFailing_4 : decode c_H_isFailing 4 = .ok (.iload_n 1, 1) := by decide +kernel
theorem d_H_isFailing_5 : decode c_H_isFailing 5 = .ok (.iaload, 1) := by decide +kernel
theorem d_H_isFailing_6 : decode c_H_isFailing 6 = .ok (.ifCond .eq 7, 3) := by decide +kernel
theorem d_H_isFailing_9 : decode c_H_isFailing 9 = .ok (.iconst 1, 1) := by decide +kernel
theorem d_H_isFailing_10 : decode c_H_isFailing 10 = .ok (.goto 4, 3) := by decide +kernel
theorem d_H_isFailing_13 : decode c_H_isFailing 13 = .ok (.iconst 0, 1) := by decide +kernel
theorem d_H_isFailing_14 : decode c_H_isFailing 14 = .ok (.ireturn, 1) := by decide +kernel
theorem d_H_kindOf_0 : decode c_H_kindOf 0 = .ok (.aload_n 0, 1) := by decide +kernel
theorem d_H_kindOf_1 : decode c_H_kindOf 1 = .ok (.getfield 22, 3) := by decide +kernel
theorem d_H_kindOf_4 : decode c_H_kindOf 4 = .ok (.iload_n 1, 1) := by decide +kernel
theorem d_H_kindOf_5 : decode c_H_kindOf 5 = .ok (.iaload, 1) := by decide +kernel
theorem d_H_kindOf_6 : decode c_H_kindOf 6 = .ok (.ireturn, 1) := by decide +kernel
theorem d_H_worthOf_0 : decode c_H_worthOf 0 = .ok (.aload_n 0, 1) := by decide +kernel
theorem d_H_worthOf_1 : decode c_H_worthOf 1 = .ok (.getfield 34, 3) := by decide +kernel
theorem d_H_worthOf_4 : decode c_H_worthOf 4 = .ok (.iload_n 1, 1) := by decide +kernel
theorem d_H_worthOf_5 : decode c_H_worthOf 5 = .ok (.laload, 1) := by decide +kernel
theorem d_H_worthOf_6 : decode c_H_worthOf 6 = .ok (.lreturn, 1) := by decide +kernel
theorem d_H_hasThing_0 : decode c_H_hasThing 0 = .ok (.iload_n 2, 1) := by decide +kernel
theorem d_H_hasThing_1 : decode c_H_hasThing 1 = .ok (.iconst 1, 1) := by decide +kernel
theorem d_H_hasThing_2 : decode c_H_hasThing 2 = .ok (.if_icmp .lt 26, 3) := by decide +kernel
theorem d_H_hasThing_5 : decode c_H_hasThing 5 = .ok (.iload_n 2, 1) := by decide +kernel
theorem d_H_hasThing_6 : decode c_H_hasThing 6 = .ok (.bipush 9, 2) := by decide +kernel
theorem d_H_hasThing_8 : decode c_H_hasThing 8 = .ok (.if_icmp .gt 20, 3) := by decide +kernel
theorem d_H_hasThing_11 : decode c_H_hasThing 11 = .ok (.aload_n 0, 1) := by decide +kernel
theorem d_H_hasThing_12 : decode c_H_hasThing 12 = .ok (.getfield 15, 3) := by decide +kernel
theorem d_H_hasThing_15 : decode c_H_hasThing 15 = .ok (.iload_n 1, 1) := by decide +kernel
theorem d_H_hasThing_16 : decode c_H_hasThing 16 = .ok (.iload_n 2, 1) := by decide +kernel
theorem d_H_hasThing_17 : decode c_H_hasThing 17 = .ok (.invokestatic 97, 3) := by decide +kernel
theorem d_H_hasThing_20 : decode c_H_hasThing 20 = .ok (.baload, 1) := by decide +kernel
theorem d_H_hasThing_21 : decode c_H_hasThing 21 = .ok (.ifCond .eq 7, 3) := by decide +kernel
theorem d_H_hasThing_24 : decode c_H_hasThing 24 = .ok (.iconst 1, 1) := by decide +kernel
theorem d_H_hasThing_25 : decode c_H_hasThing 25 = .ok (.goto 4, 3) := by decide +kernel
theorem d_H_hasThing_28 : decode c_H_hasThing 28 = .ok (.iconst 0, 1) := by decide +kernel
theorem d_H_hasThing_29 : decode c_H_hasThing 29 = .ok (.ireturn, 1) := by decide +kernel
theorem d_H_usesOf_0 : decode c_H_usesOf 0 = .ok (.aload_n 0, 1) := by decide +kernel
theorem d_H_usesOf_1 : decode c_H_usesOf 1 = .ok (.getfield 19, 3) := by decide +kernel
theorem d_H_usesOf_4 : decode c_H_usesOf 4 = .ok (.iload_n 1, 1) := by decide +kernel
theorem d_H_usesOf_5 : decode c_H_usesOf 5 = .ok (.iload_n 2, 1) := by decide +kernel
theorem d_H_usesOf_6 : decode c_H_usesOf 6 = .ok (.invokestatic 97, 3) := by decide +kernel
theorem d_H_usesOf_9 : decode c_H_usesOf 9 = .ok (.iaload, 1) := by decide +kernel
theorem d_H_usesOf_10 : decode c_H_usesOf 10 = .ok (.ireturn, 1) := by decide +kernel
theorem d_H_madeOf_0 : decode c_H_madeOf 0 = .ok (.aload_n 0, 1) := by decide +kernel
theorem d_H_madeOf_1 : decode c_H_madeOf 1 = .ok (.getfield 9, 3) := by decide +kernel
theorem d_H_madeOf_4 : decode c_H_madeOf 4 = .ok (.iload_n 1, 1) := by decide +kernel
theorem d_H_madeOf_5 : decode c_H_madeOf 5 = .ok (.iaload, 1) := by decide +kernel
theorem d_H_madeOf_6 : decode c_H_madeOf 6 = .ok (.ireturn, 1) := by decide +kernel
theorem d_H_thereOf_0 : decode c_H_thereOf 0 = .ok (.iconst 0, 1) := by decide +kernel
theorem d_H_thereOf_1 : decode c_H_thereOf 1 = .ok (.istore_n 2, 1) := by decide +kernel
theorem d_H_thereOf_2 : decode c_H_thereOf 2 = .ok (.iconst 1, 1) := by decide +kernel
theorem d_H_thereOf_3 : decode c_H_thereOf 3 = .ok (.istore_n 3, 1) := by decide +kernel
theorem d_H_thereOf_4 : decode c_H_thereOf 4 = .ok (.iload_n 3, 1) := by decide +kernel
theorem d_H_thereOf_5 : decode c_H_thereOf 5 = .ok (.aload_n 0, 1) := by decide +kernel
theorem d_H_thereOf_6 : decode c_H_thereOf 6 = .ok (.getfield 9, 3) := by decide +kernel
theorem d_H_thereOf_9 : decode c_H_thereOf 9 = .ok (.iload_n 1, 1) := by decide +kernel
theorem d_H_thereOf_10 : decode c_H_thereOf 10 = .ok (.iaload, 1) := by decide +kernel
theorem d_H_thereOf_11 : decode c_H_thereOf 11 = .ok (.if_icmp .gt 25, 3) := by decide +kernel
theorem d_H_thereOf_14 : decode c_H_thereOf 14 = .ok (.aload_n 0, 1) := by decide +kernel
theorem d_H_thereOf_15 : decode c_H_thereOf 15 = .ok (.getfield 15, 3) := by decide +kernel
theorem d_H_thereOf_18 : decode c_H_thereOf 18 = .ok (.iload_n 1, 1) := by decide +kernel
theorem d_H_thereOf_19 : decode c_H_thereOf 19 = .ok (.iload_n 3, 1) := by decide +kernel
theorem d_H_thereOf_20 : decode c_H_thereOf 20 = .ok (.invokestatic 97, 3) := by decide +kernel
theorem d_H_thereOf_23 : decode c_H_thereOf 23 = .ok (.baload, 1) := by decide +kernel
theorem d_H_thereOf_24 : decode c_H_thereOf 24 = .ok (.ifCond .eq 6, 3) := by decide +kernel
theorem d_H_thereOf_27 : decode c_H_thereOf 27 = .ok (.iinc 2 1, 3) := by decide +kernel
theorem d_H_thereOf_30 : decode c_H_thereOf 30 = .ok (.iinc 3 1, 3) := by decide +kernel
theorem d_H_thereOf_33 : decode c_H_thereOf 33 = .ok (.goto (-29), 3) := by decide +kernel
theorem d_H_thereOf_36 : decode c_H_thereOf 36 = .ok (.iload_n 2, 1) := by decide +kernel
theorem d_H_thereOf_37 : decode c_H_thereOf 37 = .ok (.ireturn, 1) := by decide +kernel
theorem d_H_thereOfAll_0 : decode c_H_thereOfAll 0 = .ok (.iconst 0, 1) := by decide +kernel
theorem d_H_thereOfAll_1 : decode c_H_thereOfAll 1 = .ok (.istore_n 1, 1) := by decide +kernel
theorem d_H_thereOfAll_2 : decode c_H_thereOfAll 2 = .ok (.iconst 0, 1) := by decide +kernel
theorem d_H_thereOfAll_3 : decode c_H_thereOfAll 3 = .ok (.istore_n 2, 1) := by decide +kernel
theorem d_H_thereOfAll_4 : decode c_H_thereOfAll 4 = .ok (.iload_n 2, 1) := by decide +kernel
theorem d_H_thereOfAll_5 : decode c_H_thereOfAll 5 = .ok (.iconst 5, 1) := by decide +kernel
theorem d_H_thereOfAll_6 : decode c_H_thereOfAll 6 = .ok (.if_icmp .ge 17, 3) := by decide +kernel
theorem d_H_thereOfAll_9 : decode c_H_thereOfAll 9 = .ok (.iload_n 1, 1) := by decide +kernel
theorem d_H_thereOfAll_10 : decode c_H_thereOfAll 10 = .ok (.aload_n 0, 1) := by decide +kernel
theorem d_H_thereOfAll_11 : decode c_H_thereOfAll 11 = .ok (.iload_n 2, 1) := by decide +kernel
theorem d_H_thereOfAll_12 : decode c_H_thereOfAll 12 = .ok (.invokevirtual 112, 3) := by decide +kernel
theorem d_H_thereOfAll_15 : decode c_H_thereOfAll 15 = .ok (.iadd, 1) := by decide +kernel
theorem d_H_thereOfAll_16 : decode c_H_thereOfAll 16 = .ok (.istore_n 1, 1) := by decide +kernel
theorem d_H_thereOfAll_17 : decode c_H_thereOfAll 17 = .ok (.iinc 2 1, 3) := by decide +kernel
theorem d_H_thereOfAll_20 : decode c_H_thereOfAll 20 = .ok (.goto (-16), 3) := by decide +kernel
theorem d_H_thereOfAll_23 : decode c_H_thereOfAll 23 = .ok (.iload_n 1, 1) := by decide +kernel
theorem d_H_thereOfAll_24 : decode c_H_thereOfAll 24 = .ok (.ireturn, 1) := by decide +kernel
theorem d_H_bothSums_0 : decode c_H_bothSums 0 = .ok (.aload_n 0, 1) := by decide +kernel
theorem d_H_bothSums_1 : decode c_H_bothSums 1 = .ok (.getfield 69, 3) := by decide +kernel
theorem d_H_bothSums_4 : decode c_H_bothSums 4 = .ok (.i2l, 1) := by decide +kernel
theorem d_H_bothSums_5 : decode c_H_bothSums 5 = .ok (.ldc2_w 115, 3) := by decide +kernel
theorem d_H_bothSums_8 : decode c_H_bothSums 8 = .ok (.lmul, 1) := by decide +kernel
theorem d_H_bothSums_9 : decode c_H_bothSums 9 = .ok (.aload_n 0, 1) := by decide +kernel
theorem d_H_bothSums_10 : decode c_H_bothSums 10 = .ok (.getfield 66, 3) := by decide +kernel
theorem d_H_bothSums_13 : decode c_H_bothSums 13 = .ok (.i2l, 1) := by decide +kernel
theorem d_H_bothSums_14 : decode c_H_bothSums 14 = .ok (.ladd, 1) := by decide +kernel
theorem d_H_bothSums_15 : decode c_H_bothSums 15 = .ok (.lreturn, 1) := by decide +kernel
theorem d_H_slotOf_0 : decode c_H_slotOf 0 = .ok (.iload_n 0, 1) := by decide +kernel
theorem d_H_slotOf_1 : decode c_H_slotOf 1 = .ok (.bipush 9, 2) := by decide +kernel
theorem d_H_slotOf_3 : decode c_H_slotOf 3 = .ok (.imul, 1) := by decide +kernel
theorem d_H_slotOf_4 : decode c_H_slotOf 4 = .ok (.iload_n 1, 1) := by decide +kernel
theorem d_H_slotOf_5 : decode c_H_slotOf 5 = .ok (.iadd, 1) := by decide +kernel
theorem d_H_slotOf_6 : decode c_H_slotOf 6 = .ok (.iconst 1, 1) := by decide +kernel
theorem d_H_slotOf_7 : decode c_H_slotOf 7 = .ok (.isub, 1) := by decide +kernel
theorem d_H_slotOf_8 : decode c_H_slotOf 8 = .ok (.ireturn, 1) := by decide +kernel
theorem d_A_init_0 : decode c_A_init 0 = .ok (.aload_n 0, 1) := by decide +kernel
theorem d_A_init_1 : decode c_A_init 1 = .ok (.invokespecial 3, 3) := by decide +kernel
theorem d_A_init_4 : decode c_A_init 4 = .ok (.aload_n 0, 1) := by decide +kernel
theorem d_A_init_5 : decode c_A_init 5 = .ok (.bipush 60, 2) := by decide +kernel
theorem d_A_init_7 : decode c_A_init 7 = .ok (.newarray .int, 2) := by decide +kernel
theorem d_A_init_9 : decode c_A_init 9 = .ok (.putfield 9, 3) := by decide +kernel
theorem d_A_init_12 : decode c_A_init 12 = .ok (.aload_n 0, 1) := by decide +kernel
theorem d_A_init_13 : decode c_A_init 13 = .ok (.bipush 60, 2) := by decide +kernel
theorem d_A_init_15 : decode c_A_init 15 = .ok (.newarray .int, 2) := by decide +kernel
theorem d_A_init_17 : decode c_A_init 17 = .ok (.putfield 15, 3) := by decide +kernel
theorem d_A_init_20 : decode c_A_init 20 = .ok (.aload_n 0, 1) := by decide +kernel
theorem d_A_init_21 : decode c_A_init 21 = .ok (.bipush 60, 2) := by decide +kernel
theorem d_A_init_23 : decode c_A_init 23 = .ok (.newarray .int, 2) := by decide +kernel
theorem d_A_init_25 : decode c_A_init 25 = .ok (.putfield 18, 3) := by decide +kernel
theorem d_A_init_28 : decode c_A_init 28 = .ok (.aload_n 0, 1) := by decide +kernel
theorem d_A_init_29 : decode c_A_init 29 = .ok (.bipush 60, 2) := by decide +kernel
theorem d_A_init_31 : decode c_A_init 31 = .ok (.newarray .int, 2) := by decide +kernel
theorem d_A_init_33 : decode c_A_init 33 = .ok (.putfield 21, 3) := by decide +kernel
theorem d_A_init_36 : decode c_A_init 36 = .ok (.return_, 1) := by decide +kernel
theorem d_A_size_0 : decode c_A_size 0 = .ok (.aload_n 0, 1) := by decide +kernel
theorem d_A_size_1 : decode c_A_size 1 = .ok (.getfield 24, 3) := by decide +kernel
theorem d_A_size_4 : decode c_A_size 4 = .ok (.ireturn, 1) := by decide +kernel
theorem d_A_keep_0 : decode c_A_keep 0 = .ok (.aload_n 0, 1) := by decide +kernel
theorem d_A_keep_1 : decode c_A_keep 1 = .ok (.getfield 24, 3) := by decide +kernel
theorem d_A_keep_4 : decode c_A_keep 4 = .ok (.bipush 60, 2) := by decide +kernel
theorem d_A_keep_6 : decode c_A_keep 6 = .ok (.if_icmp .lt 4, 3) := by decide +kernel
theorem d_A_keep_9 : decode c_A_keep 9 = .ok (.return_, 1) := by decide +kernel
theorem d_A_keep_10 : decode c_A_keep 10 = .ok (.aload_n 0, 1) := by decide +kernel
theorem d_A_keep_11 : decode c_A_keep 11 = .ok (.getfield 9, 3) := by decide +kernel
theorem d_A_keep_14 : decode c_A_keep 14 = .ok (.aload_n 0, 1) := by decide +kernel
theorem d_A_keep_15 : decode c_A_keep 15 = .ok (.getfield 24, 3) := by decide +kernel
theorem d_A_keep_18 : decode c_A_keep 18 = .ok (.iload_n 1, 1) := by decide +kernel
theorem d_A_keep_19 : decode c_A_keep 19 = .ok (.iastore, 1) := by decide +kernel
theorem d_A_keep_20 : decode c_A_keep 20 = .ok (.aload_n 0, 1) := by decide +kernel
theorem d_A_keep_21 : decode c_A_keep 21 = .ok (.getfield 15, 3) := by decide +kernel
theorem d_A_keep_24 : decode c_A_keep 24 = .ok (.aload_n 0, 1) := by decide +kernel
theorem d_A_keep_25 : decode c_A_keep 25 = .ok (.getfield 24, 3) := by decide +kernel
theorem d_A_keep_28 : decode c_A_keep 28 = .ok (.iload_n 2, 1) := by decide +kernel
theorem d_A_keep_29 : decode c_A_keep 29 = .ok (.iastore, 1) := by decide +kernel
theorem d_A_keep_30 : decode c_A_keep 30 = .ok (.aload_n 0, 1) := by decide +kernel
theorem d_A_keep_31 : decode c_A_keep 31 = .ok (.getfield 18, 3) := by decide +kernel
theorem d_A_keep_34 : decode c_A_keep 34 = .ok (.aload_n 0, 1) := by decide +kernel
theorem d_A_keep_35 : decode c_A_keep 35 = .ok (.getfield 24, 3) := by decide +kernel
theorem d_A_keep_38 : decode c_A_keep 38 = .ok (.iload_n 3, 1) := by decide +kernel
theorem d_A_keep_39 : decode c_A_keep 39 = .ok (.iastore, 1) := by decide +kernel
theorem d_A_keep_40 : decode c_A_keep 40 = .ok (.aload_n 0, 1) := by decide +kernel
theorem d_A_keep_41 : decode c_A_keep 41 = .ok (.getfield 21, 3) := by decide +kernel
theorem d_A_keep_44 : decode c_A_keep 44 = .ok (.aload_n 0, 1) := by decide +kernel
theorem d_A_keep_45 : decode c_A_keep 45 = .ok (.getfield 24, 3) := by decide +kernel
theorem d_A_keep_48 : decode c_A_keep 48 = .ok (.iload 4, 2) := by decide +kernel
theorem d_A_keep_50 : decode c_A_keep 50 = .ok (.iastore, 1) := by decide +kernel
theorem d_A_keep_51 : decode c_A_keep 51 = .ok (.aload_n 0, 1) := by decide +kernel
theorem d_A_keep_52 : decode c_A_keep 52 = .ok (.dup, 1) := by decide +kernel
theorem d_A_keep_53 : decode c_A_keep 53 = .ok (.getfield 24, 3) := by decide +kernel
theorem d_A_keep_56 : decode c_A_keep 56 = .ok (.iconst 1, 1) := by decide +kernel
theorem d_A_keep_57 : decode c_A_keep 57 = .ok (.iadd, 1) := by decide +kernel
theorem d_A_keep_58 : decode c_A_keep 58 = .ok (.putfield 24, 3) := by decide +kernel
theorem d_A_keep_61 : decode c_A_keep 61 = .ok (.return_, 1) := by decide +kernel
theorem d_A_removeLatest_0 : decode c_A_removeLatest 0 = .ok (.aload_n 0, 1) := by decide +kernel
theorem d_A_removeLatest_1 : decode c_A_removeLatest 1 = .ok (.getfield 24, 3) := by decide +kernel
theorem d_A_removeLatest_4 : decode c_A_removeLatest 4 = .ok (.ifCond .le 13, 3) := by decide +kernel
theorem d_A_removeLatest_7 : decode c_A_removeLatest 7 = .ok (.aload_n 0, 1) := by decide +kernel
theorem d_A_removeLatest_8 : decode c_A_removeLatest 8 = .ok (.dup, 1) := by decide +kernel
theorem d_A_removeLatest_9 : decode c_A_removeLatest 9 = .ok (.getfield 24, 3) := by decide +kernel
theorem d_A_removeLatest_12 : decode c_A_removeLatest 12 = .ok (.iconst 1, 1) := by decide +kernel
theorem d_A_removeLatest_13 : decode c_A_removeLatest 13 = .ok (.isub, 1) := by decide +kernel
theorem d_A_removeLatest_14 : decode c_A_removeLatest 14 = .ok (.putfield 24, 3) := by decide +kernel
theorem d_A_removeLatest_17 : decode c_A_removeLatest 17 = .ok (.return_, 1) := by decide +kernel
theorem d_A_doAllOn_0 : decode c_A_doAllOn 0 = .ok (.aload_n 1, 1) := by decide +kernel
theorem d_A_doAllOn_1 : decode c_A_doAllOn 1 = .ok (.invokevirtual 28, 3) := by decide +kernel
theorem d_A_doAllOn_4 : decode c_A_doAllOn 4 = .ok (.iconst 0, 1) := by decide +kernel
theorem d_A_doAllOn_5 : decode c_A_doAllOn 5 = .ok (.istore_n 2, 1) := by decide +kernel
theorem d_A_doAllOn_6 : decode c_A_doAllOn 6 = .ok (.iload_n 2, 1) := by decide +kernel
theorem d_A_doAllOn_7 : decode c_A_doAllOn 7 = .ok (.aload_n 0, 1) := by decide +kernel
theorem d_A_doAllOn_8 : decode c_A_doAllOn 8 = .ok (.getfield 24, 3) := by decide +kernel
theorem d_A_doAllOn_11 : decode c_A_doAllOn 11 = .ok (.if_icmp .ge 38, 3) := by decide +kernel
theorem d_A_doAllOn_14 : decode c_A_doAllOn 14 = .ok (.aload_n 1, 1) := by decide +kernel
theorem d_A_doAllOn_15 : decode c_A_doAllOn 15 = .ok (.aload_n 0, 1) := by decide +kernel
theorem d_A_doAllOn_16 : decode c_A_doAllOn 16 = .ok (.getfield 9, 3) := by decide +kernel
theorem d_A_doAllOn_19 : decode c_A_doAllOn 19 = .ok (.iload_n 2, 1) := by decide +kernel
theorem d_A_doAllOn_20 : decode c_A_doAllOn 20 = .ok (.iaload, 1) := by decide +kernel
theorem d_A_doAllOn_21 : decode c_A_doAllOn 21 = .ok (.aload_n 0, 1) := by decide +kernel
theorem d_A_doAllOn_22 : decode c_A_doAllOn 22 = .ok (.getfield 15, 3) := by decide +kernel
theorem d_A_doAllOn_25 : decode c_A_doAllOn 25 = .ok (.iload_n 2, 1) := by decide +kernel
theorem d_A_doAllOn_26 : decode c_A_doAllOn 26 = .ok (.iaload, 1) := by decide +kernel
theorem d_A_doAllOn_27 : decode c_A_doAllOn 27 = .ok (.aload_n 0, 1) := by decide +kernel
theorem d_A_doAllOn_28 : decode c_A_doAllOn 28 = .ok (.getfield 18, 3) := by decide +kernel
theorem d_A_doAllOn_31 : decode c_A_doAllOn 31 = .ok (.iload_n 2, 1) := by decide +kernel
theorem d_A_doAllOn_32 : decode c_A_doAllOn 32 = .ok (.iaload, 1) := by decide +kernel
theorem d_A_doAllOn_33 : decode c_A_doAllOn 33 = .ok (.aload_n 0, 1) := by decide +kernel
theorem d_A_doAllOn_34 : decode c_A_doAllOn 34 = .ok (.getfield 21, 3) := by decide +kernel
theorem d_A_doAllOn_37 : decode c_A_doAllOn 37 = .ok (.iload_n 2, 1) := by decide +kernel
theorem d_A_doAllOn_38 : decode c_A_doAllOn 38 = .ok (.iaload, 1) := by decide +kernel
theorem d_A_doAllOn_39 : decode c_A_doAllOn 39 = .ok (.invokevirtual 33, 3) := by decide +kernel
theorem d_A_doAllOn_42 : decode c_A_doAllOn 42 = .ok (.pop2, 1) := by decide +kernel
theorem d_A_doAllOn_43 : decode c_A_doAllOn 43 = .ok (.iinc 2 1, 3) := by decide +kernel
theorem d_A_doAllOn_46 : decode c_A_doAllOn 46 = .ok (.goto (-40), 3) := by decide +kernel
theorem d_A_doAllOn_49 : decode c_A_doAllOn 49 = .ok (.return_, 1) := by decide +kernel
end
section
/-! what the acts do to a house -/
theorem sd_slot {k j : Nat} (hj : 1 ≤ j) : nI k * 9 + nI j - 1 = nI (k * 9 + j - 1) := by
  have h9 : (9 : Int32) = nI 9 := rfl
  have h1 : (1 : Int32) = nI 1 := rfl
  rw [h9, h1, pk_mul, nI_add, pk_sub (by omega)]
def hd_make (u : sd_HS) (k n : Nat) : sd_HS := (upd (hf_md u) k (hf_md u k + 1), upd (hf_th u) (k * 9 + (n + 1) - 1) 1, hf_us u, hf_pk u, hf_pb u, hf_pf u, hf_pw u, hf_wt u, hf_fl u, hf_tw u, hf_tp u, hf_tn u, hf_an u, hf_co u, hf_s1 u, hf_s2 u)
def hd_drop (u : sd_HS) (k j : Nat) : sd_HS := (hf_md u, upd (hf_th u) (k * 9 + j - 1) 0, hf_us u, hf_pk u, hf_pb u, hf_pf u, hf_pw u, hf_wt u, hf_fl u, hf_tw u, hf_tp u, hf_tn u, hf_an u, hf_co u, hf_s1 u, hf_s2 u)
def hd_kind (u : sd_HS) (p : Nat) (x : Int32) : sd_HS := (hf_md u, hf_th u, hf_us u, upd (hf_pk u) p x, hf_pb u, hf_pf u, hf_pw u, hf_wt u, hf_fl u, hf_tw u, hf_tp u, hf_tn u, hf_an u, hf_co u, hf_s1 u, hf_s2 u)
def hd_answer (u : sd_HS) (p : Nat) (b f : Int32) : sd_HS := (hf_md u, hf_th u, hf_us u, hf_pk u, upd (hf_pb u) p b, upd (hf_pf u) p f, hf_pw u, hf_wt u, hf_fl u, hf_tw u, hf_tp u, hf_tn u, hf_an u, hf_co u, hf_s1 u, hf_s2 u)
def hd_way (u : sd_HS) (p : Nat) (x : Int32) : sd_HS := (hf_md u, hf_th u, hf_us u, hf_pk u, hf_pb u, hf_pf u, upd (hf_pw u) p x, hf_wt u, hf_fl u, hf_tw u, hf_tp u, hf_tn u, hf_an u, hf_co u, hf_s1 u, hf_s2 u)
def hd_tell (u : sd_HS) (p : Nat) (y : Int32) : sd_HS := (hf_md u, hf_th u, hf_us u, hf_pk u, hf_pb u, hf_pf u, hf_pw u, hf_wt u, hf_fl u + 1, hf_pw u p, nI p, y, hf_an u, hf_co u, hf_s1 u, hf_s2 u)
def hd_work (u : sd_HS) (p k j : Nat) (a : Int32) : sd_HS := (hf_md u, hf_th u, upd (hf_us u) (k * 9 + j - 1) (hf_us u (k * 9 + j - 1) + 1), hf_pk u, hf_pb u, hf_pf u, hf_pw u, vp_updL (hf_wt u) p (hf_wt u p + a.toInt64), hf_fl u, hf_tw u, hf_tp u, hf_tn u, hf_an u + 1, hf_co u, hf_s1 u, hf_s2 u)
def hd_ans (u : sd_HS) (p : Nat) (y a : Int32) : Int64 := (hf_pb u p).toInt64 + (hf_pf u p).toInt64 * a.toInt64 + y.toInt64 + hf_wt u p
def hd_m (x : Int32) : Int32 := x - x / 65521 * 65521
def hd_byte (u : sd_HS) (b : Int32) : sd_HS := (hf_md u, hf_th u, hf_us u, hf_pk u, hf_pb u, hf_pf u, hf_pw u, hf_wt u, hf_fl u, hf_tw u, hf_tp u, hf_tn u, hf_an u, hf_co u + 1, hd_m (hf_s1 u + b), hd_m (hf_s2 u + hd_m (hf_s1 u + b)))
abbrev hd_has (u : sd_HS) (k : Nat) (y : Int32) : Prop := ¬ y < 1 ∧ ¬ (9 : Int32) < y ∧ ¬ hf_th u (k * 9 + y.toNatClampNeg - 1) = 0
/-- how many of the first n things of a kind are there -/
def hd_cnt (f : Nat → Int32) (k : Nat) : Nat → Nat
  | 0 => 0
  | n + 1 => hd_cnt f k n + (if f (k * 9 + (n + 1) - 1) = 0 then 0 else 1)
theorem hd_cnt_le (f : Nat → Int32) (k n : Nat) : hd_cnt f k n ≤ n := by
  induction n with
  | zero => exact Nat.le_refl 0
  | succ n ih => simp only [hd_cnt]; split <;> omega
theorem sd_rng {y : Int32} (h1 : ¬ y < 1) (h9 : ¬ (9 : Int32) < y) : ∃ j, 1 ≤ j ∧ j ≤ 9 ∧ y = nI j := by
  have h0 : ¬ y < 0 := fun h => h1 (by rw [Int32.lt_iff_toInt_lt] at h ⊢; have : (0 : Int32).toInt = 0 := rfl; have : (1 : Int32).toInt = 1 := rfl; omega)
  obtain ⟨j, hj, e⟩ := nI_of h0
  subst e
  refine ⟨j, ?_, ?_, rfl⟩
  · rcases Nat.lt_or_ge j 1 with h | h
    · exact absurd ((nI_ltI (a := j) (b := 1) hj (by decide)).mpr h) h1
    · exact h
  · rcases Nat.lt_or_ge 9 j with h | h
    · exact absurd ((nI_ltI (a := 9) (b := j) (by decide) hj).mpr h) h9
    · exact h
set_option maxHeartbeats 4000000 in
set_option maxRecDepth 100000 in
theorem k_H_slotOf (l : Launch) (D : va_G) (k3 : ClassId × ClassId × ClassId) (sz : Nat) (k : Nat) (j : Nat) (hj : 1 ≤ j) : Met l y_H_slotOf (sd_ws y_H_slotOf c_H_slotOf 2 (some FieldType.int)) ({ frames := 0, cells := 0, slots := 0, locals := 0 }) (sd_Pc D (sd_t3 k3) [.int (nI k), .int (nI j)] sz ([])) (sd_Qi D (sd_t3 k3) (va_A ([]) sz) (fun r w => r = nI (k * 9 + j - 1) ∧ w = [])) 0 0 (va_A ([]) sz) := by
  refine sd_met (cc := c_H_slotOf) (maxL := 2) (ret := some .int) (by decide) (Nat.le_of_ble_eq_true rfl) (fun p e s m below meth c C hr hlk hnm hsz h ls hl => ?_)
  generalize va_A ([]) sz = A at h ⊢
  have hl : lv_has ls 2 [(0, .int (nI k)), (1, .int (nI j))] := hl
  generalize hH : s.heap = H at h ⊢
  refine lv_iload_n C.1 C.2.1 d_H_slotOf_0 rfl (lv_at hl 0 rfl) ?_
  refine lv_bipush (v := 9) C.1 C.2.1 d_H_slotOf_1 (by decide) ?_
  refine lv_imul C.1 C.2.1 d_H_slotOf_3 ?_
  refine lv_iload_n C.1 C.2.1 d_H_slotOf_4 rfl (lv_at hl 1 rfl) ?_
  refine lv_iadd C.1 C.2.1 d_H_slotOf_5 ?_
  refine lv_iconst (v := 1) C.1 C.2.1 d_H_slotOf_6 (by decide) ?_
  refine lv_isub C.1 C.2.1 d_H_slotOf_7 ?_
  exact sd_iret (v := (((nI k) * 9) + (nI j)) - 1) C hr hlk h ⟨sd_slot hj, rfl⟩ d_H_slotOf_8

set_option maxHeartbeats 4000000 in
set_option maxRecDepth 100000 in
theorem k_H_kindOf (l : Launch) (D : va_G) (k3 : ClassId × ClassId × ClassId) (sz : Nat) (q : Nat → Nat) (u : sd_HS) (pt : Nat) (hp : pt < 6) : Met l y_H_kindOf (sd_ws y_H_kindOf c_H_kindOf 2 (some FieldType.int)) ({ frames := 0, cells := 0, slots := 0, locals := 0 }) (sd_Pc D (sd_t3 k3) [.ref (q 0), .int (nI pt)] sz (sd_H k3 q u)) (sd_Qi D (sd_t3 k3) (va_A (sd_H k3 q u) sz) (fun r w => r = hf_pk u pt ∧ w = sd_H k3 q u)) 0 0 (va_A (sd_H k3 q u) sz) := by
  refine sd_met (cc := c_H_kindOf) (maxL := 2) (ret := some .int) (by decide) (Nat.le_of_ble_eq_true rfl) (fun p e s m below meth c C hr hlk hnm hsz h ls hl => ?_)
  generalize va_A (sd_H k3 q u) sz = A at h ⊢
  have hl : lv_has ls 2 [(0, .ref (q 0)), (1, .int (nI pt))] := hl
  generalize hH : s.heap = H at h ⊢
  refine lv_aload_n C.1 C.2.1 d_H_kindOf_0 rfl (lv_at hl 0 rfl) ?_
  refine sd_get C h 0 3 (v := .ref (q 4)) (ci := 1) (Cn := "StockDesk$House") (T := T_H) (N := 16) rfl rfl (by decide) in_H tb_84 rfl d_H_kindOf_1 ?_
  refine lv_iload_n C.1 C.2.1 d_H_kindOf_4 rfl (lv_at hl 1 rfl) ?_
  refine sd_iald C h 4 0 (i := pt) rfl rfl (by omega) (by decide) d_H_kindOf_5 ?_
  exact sd_iret (v := (hf_pk u) pt) C hr hlk h ⟨rfl, rfl⟩ d_H_kindOf_6

set_option maxHeartbeats 4000000 in
set_option maxRecDepth 100000 in
theorem k_H_worthOf (l : Launch) (D : va_G) (k3 : ClassId × ClassId × ClassId) (sz : Nat) (q : Nat → Nat) (u : sd_HS) (pt : Nat) (hp : pt < 6) : Met l y_H_worthOf (sd_ws y_H_worthOf c_H_worthOf 2 (some FieldType.long)) ({ frames := 0, cells := 0, slots := 0, locals := 0 }) (sd_Pc D (sd_t3 k3) [.ref (q 0), .int (nI pt)] sz (sd_H k3 q u)) (sd_Ql D (sd_t3 k3) (va_A (sd_H k3 q u) sz) (fun r w => r = hf_wt u pt ∧ w = sd_H k3 q u)) 0 0 (va_A (sd_H k3 q u) sz) := by
  refine sd_met (cc := c_H_worthOf) (maxL := 2) (ret := some .long) (by decide) (Nat.le_of_ble_eq_true rfl) (fun p e s m below meth c C hr hlk hnm hsz h ls hl => ?_)
  generalize va_A (sd_H k3 q u) sz = A at h ⊢
  have hl : lv_has ls 2 [(0, .ref (q 0)), (1, .int (nI pt))] := hl
  generalize hH : s.heap = H at h ⊢
  refine lv_aload_n C.1 C.2.1 d_H_worthOf_0 rfl (lv_at hl 0 rfl) ?_
  refine sd_get C h 0 7 (v := .ref (q 8)) (ci := 1) (Cn := "StockDesk$House") (T := T_H) (N := 16) rfl rfl (by decide) in_H tb_88 rfl d_H_worthOf_1 ?_
  refine lv_iload_n C.1 C.2.1 d_H_worthOf_4 rfl (lv_at hl 1 rfl) ?_
  refine sd_lald C h 8 2 (i := pt) rfl rfl (by omega) (by decide) d_H_worthOf_5 ?_
  exact sd_lret (v := (hf_wt u) pt) C hr hlk h ⟨rfl, rfl⟩ d_H_worthOf_6

set_option maxHeartbeats 4000000 in
set_option maxRecDepth 100000 in
theorem k_H_madeOf (l : Launch) (D : va_G) (k3 : ClassId × ClassId × ClassId) (sz : Nat) (q : Nat → Nat) (u : sd_HS) (k : Nat) (hk : k < 5) : Met l y_H_madeOf (sd_ws y_H_madeOf c_H_madeOf 2 (some FieldType.int)) ({ frames := 0, cells := 0, slots := 0, locals := 0 }) (sd_Pc D (sd_t3 k3) [.ref (q 0), .int (nI k)] sz (sd_H k3 q u)) (sd_Qi D (sd_t3 k3) (va_A (sd_H k3 q u) sz) (fun r w => r = hf_md u k ∧ w = sd_H k3 q u)) 0 0 (va_A (sd_H k3 q u) sz) := by
  refine sd_met (cc := c_H_madeOf) (maxL := 2) (ret := some .int) (by decide) (Nat.le_of_ble_eq_true rfl) (fun p e s m below meth c C hr hlk hnm hsz h ls hl => ?_)
  generalize va_A (sd_H k3 q u) sz = A at h ⊢
  have hl : lv_has ls 2 [(0, .ref (q 0)), (1, .int (nI k))] := hl
  generalize hH : s.heap = H at h ⊢
  refine lv_aload_n C.1 C.2.1 d_H_madeOf_0 rfl (lv_at hl 0 rfl) ?_
  refine sd_get C h 0 0 (v := .ref (q 1)) (ci := 1) (Cn := "StockDesk$House") (T := T_H) (N := 16) rfl rfl (by decide) in_H tb_81 rfl d_H_madeOf_1 ?_
  refine lv_iload_n C.1 C.2.1 d_H_madeOf_4 rfl (lv_at hl 1 rfl) ?_
  refine sd_iald C h 1 0 (i := k) rfl rfl (by omega) (by decide) d_H_madeOf_5 ?_
  exact sd_iret (v := (hf_md u) k) C hr hlk h ⟨rfl, rfl⟩ d_H_madeOf_6

set_option maxHeartbeats 4000000 in
set_option maxRecDepth 100000 in
theorem k_H_usesOf (l : Launch) (D : va_G) (k3 : ClassId × ClassId × ClassId) (sz : Nat) (q : Nat → Nat) (u : sd_HS) (k : Nat) (j : Nat) (hk : k < 5) (h1 : 1 ≤ j) (h9 : j ≤ 9) : Met l y_H_usesOf (sd_ws y_H_usesOf c_H_usesOf 3 (some FieldType.int)) ({ frames := 1, cells := 0, slots := 0, locals := 21 }) (sd_Pc D (sd_t3 k3) [.ref (q 0), .int (nI k), .int (nI j)] sz (sd_H k3 q u)) (sd_Qi D (sd_t3 k3) (va_A (sd_H k3 q u) sz) (fun r w => r = hf_us u (k * 9 + j - 1) ∧ w = sd_H k3 q u)) 0 0 (va_A (sd_H k3 q u) sz) := by
  refine sd_met (cc := c_H_usesOf) (maxL := 3) (ret := some .int) (by decide) (Nat.le_of_ble_eq_true rfl) (fun p e s m below meth c C hr hlk hnm hsz h ls hl => ?_)
  generalize va_A (sd_H k3 q u) sz = A at h ⊢
  have hl : lv_has ls 3 [(0, .ref (q 0)), (1, .int (nI k)), (2, .int (nI j))] := hl
  generalize hH : s.heap = H at h ⊢
  refine lv_aload_n C.1 C.2.1 d_H_usesOf_0 rfl (lv_at hl 0 rfl) ?_
  refine sd_get C h 0 2 (v := .ref (q 3)) (ci := 1) (Cn := "StockDesk$House") (T := T_H) (N := 16) rfl rfl (by decide) in_H tb_83 rfl d_H_usesOf_1 ?_
  refine lv_iload_n C.1 C.2.1 d_H_usesOf_4 rfl (lv_at hl 1 rfl) ?_
  refine lv_iload_n C.1 C.2.1 d_H_usesOf_5 rfl (lv_at hl 2 rfl) ?_
  have h := sd_world h (ws' := ([]) ++ ([]) ++ (sd_H k3 q u)) (by simp only [List.append_assoc, List.nil_append, List.append_nil])
  refine sd_calli h (va_runS (As := [.int (nI k), .int (nI j)]) (rest := [.ref (q 3)]) C (k_H_slotOf l D k3 H.size k j h1) (sd_cwS 2 C.2.2.2.2 tb_173 tb_174 tb_23 tb_175 rfl rfl (by decide +kernel) ⟨Nat.le_of_ble_eq_true rfl, Nat.le_of_ble_eq_true rfl⟩) (sd_preS h) rfl rfl hl.1 rfl (lv_room (Nat.le_of_ble_eq_true rfl)) d_H_usesOf_6 ⟨Nat.le_of_ble_eq_true rfl, Nat.le_of_ble_eq_true rfl⟩) (fun r w1 H locs hq h => ?_)
  obtain ⟨rfl, rfl⟩ := hq
  have h := sd_world h (ws' := sd_H k3 q u) (by simp only [List.append_assoc, List.nil_append, List.append_nil])
  refine sd_iald C h 3 0 (i := (k * 9 + j - 1)) rfl rfl (by omega) (by decide) d_H_usesOf_9 ?_
  exact sd_iret (v := (hf_us u) (k * 9 + j - 1)) C hr hlk h ⟨rfl, rfl⟩ d_H_usesOf_10

set_option maxHeartbeats 4000000 in
set_option maxRecDepth 100000 in
theorem k_H_isFailing (l : Launch) (D : va_G) (k3 : ClassId × ClassId × ClassId) (sz : Nat) (q : Nat → Nat) (u : sd_HS) (pt : Nat) (hp : pt < 6) : Met l y_H_isFailing (sd_ws y_H_isFailing c_H_isFailing 2 (some FieldType.boolean)) ({ frames := 0, cells := 0, slots := 0, locals := 0 }) (sd_Pc D (sd_t3 k3) [.ref (q 0), .int (nI pt)] sz (sd_H k3 q u)) (sd_Qi D (sd_t3 k3) (va_A (sd_H k3 q u) sz) (fun r w => r = (if hf_pw u pt = 0 then 0 else 1) ∧ w = sd_H k3 q u)) 0 0 (va_A (sd_H k3 q u) sz) := by
  refine sd_met (cc := c_H_isFailing) (maxL := 2) (ret := some .boolean) (by decide) (Nat.le_of_ble_eq_true rfl) (fun p e s m below meth c C hr hlk hnm hsz h ls hl => ?_)
  generalize va_A (sd_H k3 q u) sz = A at h ⊢
  have hl : lv_has ls 2 [(0, .ref (q 0)), (1, .int (nI pt))] := hl
  generalize hH : s.heap = H at h ⊢
  refine lv_aload_n C.1 C.2.1 d_H_isFailing_0 rfl (lv_at hl 0 rfl) ?_
  refine sd_get C h 0 6 (v := .ref (q 7)) (ci := 1) (Cn := "StockDesk$House") (T := T_H) (N := 16) rfl rfl (by decide) in_H tb_87 rfl d_H_isFailing_1 ?_
  refine lv_iload_n C.1 C.2.1 d_H_isFailing_4 rfl (lv_at hl 1 rfl) ?_
  refine sd_iald C h 7 0 (i := pt) rfl rfl (by omega) (by decide) d_H_isFailing_5 ?_
  refine lv_if_eq (tgt := 13) C.1 C.2.1 d_H_isFailing_6 (by decide) (fun c6 => ?_) (fun c6 => ?_)
  · refine lv_iconst (v := 0) C.1 C.2.1 d_H_isFailing_13 (by decide) ?_
    exact sd_zret (v := 0) C hr rfl hlk h ⟨(if_pos c6).symm, rfl⟩ d_H_isFailing_14
  · refine lv_iconst (v := 1) C.1 C.2.1 d_H_isFailing_9 (by decide) ?_
    refine lv_goto (tgt := 14) C.1 C.2.1 d_H_isFailing_10 (by decide) ?_
    exact sd_zret (v := 1) C hr rfl hlk h ⟨(if_neg c6).symm, rfl⟩ d_H_isFailing_14

set_option maxHeartbeats 4000000 in
set_option maxRecDepth 100000 in
theorem k_H_hasThing (l : Launch) (D : va_G) (k3 : ClassId × ClassId × ClassId) (sz : Nat) (q : Nat → Nat) (u : sd_HS) (k : Nat) (y : Int32) (hk : k < 5) : Met l y_H_hasThing (sd_ws y_H_hasThing c_H_hasThing 3 (some FieldType.boolean)) ({ frames := 1, cells := 0, slots := 0, locals := 21 }) (sd_Pc D (sd_t3 k3) [.ref (q 0), .int (nI k), .int y] sz (sd_H k3 q u)) (sd_Qi D (sd_t3 k3) (va_A (sd_H k3 q u) sz) (fun r w => ((r = 1 ∧ hd_has u k y) ∨ (r = 0 ∧ ¬ hd_has u k y)) ∧ w = sd_H k3 q u)) 0 0 (va_A (sd_H k3 q u) sz) := by
  refine sd_met (cc := c_H_hasThing) (maxL := 3) (ret := some .boolean) (by decide) (Nat.le_of_ble_eq_true rfl) (fun p e s m below meth c C hr hlk hnm hsz h ls hl => ?_)
  generalize va_A (sd_H k3 q u) sz = A at h ⊢
  have hl : lv_has ls 3 [(0, .ref (q 0)), (1, .int (nI k)), (2, .int y)] := hl
  generalize hH : s.heap = H at h ⊢
  refine lv_iload_n C.1 C.2.1 d_H_hasThing_0 rfl (lv_at hl 2 rfl) ?_
  refine lv_iconst (v := 1) C.1 C.2.1 d_H_hasThing_1 (by decide) ?_
  refine lv_icmp_lt (tgt := 28) C.1 C.2.1 d_H_hasThing_2 (by decide) (fun c2 => ?_) (fun c2 => ?_)
  · refine lv_iconst (v := 0) C.1 C.2.1 d_H_hasThing_28 (by decide) ?_
    exact sd_zret (v := 0) C hr rfl hlk h ⟨Or.inr ⟨rfl, fun z => z.1 c2⟩, rfl⟩ d_H_hasThing_29
  · refine lv_iload_n C.1 C.2.1 d_H_hasThing_5 rfl (lv_at hl 2 rfl) ?_
    refine lv_bipush (v := 9) C.1 C.2.1 d_H_hasThing_6 (by decide) ?_
    refine lv_icmp_gt (tgt := 28) C.1 C.2.1 d_H_hasThing_8 (by decide) (fun c8 => ?_) (fun c8 => ?_)
    · refine lv_iconst (v := 0) C.1 C.2.1 d_H_hasThing_28 (by decide) ?_
      exact sd_zret (v := 0) C hr rfl hlk h ⟨Or.inr ⟨rfl, fun z => z.2.1 c8⟩, rfl⟩ d_H_hasThing_29
    · obtain ⟨j, h1, h9, rfl⟩ := sd_rng c2 c8
      refine lv_aload_n C.1 C.2.1 d_H_hasThing_11 rfl (lv_at hl 0 rfl) ?_
      refine sd_get C h 0 1 (v := .ref (q 2)) (ci := 1) (Cn := "StockDesk$House") (T := T_H) (N := 16) rfl rfl (by decide) in_H tb_82 rfl d_H_hasThing_12 ?_
      refine lv_iload_n C.1 C.2.1 d_H_hasThing_15 rfl (lv_at hl 1 rfl) ?_
      refine lv_iload_n C.1 C.2.1 d_H_hasThing_16 rfl (lv_at hl 2 rfl) ?_
      have h := sd_world h (ws' := ([]) ++ ([]) ++ (sd_H k3 q u)) (by simp only [List.append_assoc, List.nil_append, List.append_nil])
      refine sd_calli h (va_runS (As := [.int (nI k), .int (nI j)]) (rest := [.ref (q 2)]) C (k_H_slotOf l D k3 H.size k j h1) (sd_cwS 2 C.2.2.2.2 tb_173 tb_174 tb_23 tb_175 rfl rfl (by decide +kernel) ⟨Nat.le_of_ble_eq_true rfl, Nat.le_of_ble_eq_true rfl⟩) (sd_preS h) rfl rfl hl.1 rfl (lv_room (Nat.le_of_ble_eq_true rfl)) d_H_hasThing_17 ⟨Nat.le_of_ble_eq_true rfl, Nat.le_of_ble_eq_true rfl⟩) (fun r w1 H locs hq h => ?_)
      obtain ⟨rfl, rfl⟩ := hq
      have h := sd_world h (ws' := sd_H k3 q u) (by simp only [List.append_assoc, List.nil_append, List.append_nil])
      refine sd_zald C h 2 1 (i := (k * 9 + j - 1)) rfl rfl (by omega) (by decide) d_H_hasThing_20 ?_
      refine lv_if_eq (tgt := 28) C.1 C.2.1 d_H_hasThing_21 (by decide) (fun c21 => ?_) (fun c21 => ?_)
      · refine lv_iconst (v := 0) C.1 C.2.1 d_H_hasThing_28 (by decide) ?_
        exact sd_zret (v := 0) C hr rfl hlk h ⟨Or.inr ⟨rfl, fun z => z.2.2 (by rw [nI_clamp (by omega)]; exact c21)⟩, rfl⟩ d_H_hasThing_29
      · refine lv_iconst (v := 1) C.1 C.2.1 d_H_hasThing_24 (by decide) ?_
        refine lv_goto (tgt := 29) C.1 C.2.1 d_H_hasThing_25 (by decide) ?_
        exact sd_zret (v := 1) C hr rfl hlk h ⟨Or.inl ⟨rfl, c2, c8, by rw [nI_clamp (by omega)]; exact c21⟩, rfl⟩ d_H_hasThing_29

set_option maxHeartbeats 4000000 in
set_option maxRecDepth 100000 in
theorem k_H_bothSums (l : Launch) (D : va_G) (k3 : ClassId × ClassId × ClassId) (sz : Nat) (q : Nat → Nat) (u : sd_HS) : Met l y_H_bothSums (sd_ws y_H_bothSums c_H_bothSums 1 (some FieldType.long)) ({ frames := 0, cells := 0, slots := 0, locals := 0 }) (sd_Pc D (sd_t3 k3) [.ref (q 0)] sz (sd_H k3 q u)) (sd_Ql D (sd_t3 k3) (va_A (sd_H k3 q u) sz) (fun r w => r = (hf_s2 u).toInt64 * 65536 + (hf_s1 u).toInt64 ∧ w = sd_H k3 q u)) 0 0 (va_A (sd_H k3 q u) sz) := by
  refine sd_met (cc := c_H_bothSums) (maxL := 1) (ret := some .long) (by decide) (Nat.le_of_ble_eq_true rfl) (fun p e s m below meth c C hr hlk hnm hsz h ls hl => ?_)
  generalize va_A (sd_H k3 q u) sz = A at h ⊢
  have hl : lv_has ls 1 [(0, .ref (q 0))] := hl
  generalize hH : s.heap = H at h ⊢
  refine lv_aload_n C.1 C.2.1 d_H_bothSums_0 rfl (lv_at hl 0 rfl) ?_
  refine sd_get C h 0 15 (v := .int (hf_s2 u)) (ci := 1) (Cn := "StockDesk$House") (T := T_H) (N := 16) rfl rfl (by decide) in_H tb_102 rfl d_H_bothSums_1 ?_
  refine lv_i2l (v := (hf_s2 u).toInt64) C.1 C.2.1 d_H_bothSums_4 rfl ?_
  refine lv_ldc2 (v := 65536) C.1 C.2.1 C.2.2.2.1 (C.2.2.2.2 _ (List.mem_cons_of_mem _ tb_156)) d_H_bothSums_5 ?_
  refine lv_lmul C.1 C.2.1 d_H_bothSums_8 ?_
  refine lv_aload_n C.1 C.2.1 d_H_bothSums_9 rfl (lv_at hl 0 rfl) ?_
  refine sd_get C h 0 14 (v := .int (hf_s1 u)) (ci := 1) (Cn := "StockDesk$House") (T := T_H) (N := 16) rfl rfl (by decide) in_H tb_101 rfl d_H_bothSums_10 ?_
  refine lv_i2l (v := (hf_s1 u).toInt64) C.1 C.2.1 d_H_bothSums_13 rfl ?_
  refine lv_ladd C.1 C.2.1 d_H_bothSums_14 ?_
  exact sd_lret (v := (((hf_s2 u).toInt64) * 65536) + ((hf_s1 u).toInt64)) C hr hlk h ⟨rfl, rfl⟩ d_H_bothSums_15

set_option maxHeartbeats 4000000 in
set_option maxRecDepth 100000 in
theorem k_H_answerOf (l : Launch) (D : va_G) (k3 : ClassId × ClassId × ClassId) (sz : Nat) (q : Nat → Nat) (u : sd_HS) (pt : Nat) (y : Int32) (a : Int32) (hp : pt < 6) : Met l y_H_answerOf (sd_ws y_H_answerOf c_H_answerOf 4 (some FieldType.long)) ({ frames := 0, cells := 0, slots := 0, locals := 0 }) (sd_Pc D (sd_t3 k3) [.ref (q 0), .int (nI pt), .int y, .int a] sz (sd_H k3 q u)) (sd_Ql D (sd_t3 k3) (va_A (sd_H k3 q u) sz) (fun r w => r = hd_ans u pt y a ∧ w = sd_H k3 q u)) 0 0 (va_A (sd_H k3 q u) sz) := by
  refine sd_met (cc := c_H_answerOf) (maxL := 4) (ret := some .long) (by decide) (Nat.le_of_ble_eq_true rfl) (fun p e s m below meth c C hr hlk hnm hsz h ls hl => ?_)
  generalize va_A (sd_H k3 q u) sz = A at h ⊢
  have hl : lv_has ls 4 [(0, .ref (q 0)), (1, .int (nI pt)), (2, .int y), (3, .int a)] := hl
  generalize hH : s.heap = H at h ⊢
  refine lv_aload_n C.1 C.2.1 d_H_answerOf_0 rfl (lv_at hl 0 rfl) ?_
  refine sd_get C h 0 4 (v := .ref (q 5)) (ci := 1) (Cn := "StockDesk$House") (T := T_H) (N := 16) rfl rfl (by decide) in_H tb_85 rfl d_H_answerOf_1 ?_
  refine lv_iload_n C.1 C.2.1 d_H_answerOf_4 rfl (lv_at hl 1 rfl) ?_
  refine sd_iald C h 5 0 (i := pt) rfl rfl (by omega) (by decide) d_H_answerOf_5 ?_
  refine lv_i2l (v := ((hf_pb u) pt).toInt64) C.1 C.2.1 d_H_answerOf_6 rfl ?_
  refine lv_aload_n C.1 C.2.1 d_H_answerOf_7 rfl (lv_at hl 0 rfl) ?_
  refine sd_get C h 0 5 (v := .ref (q 6)) (ci := 1) (Cn := "StockDesk$House") (T := T_H) (N := 16) rfl rfl (by decide) in_H tb_86 rfl d_H_answerOf_8 ?_
  refine lv_iload_n C.1 C.2.1 d_H_answerOf_11 rfl (lv_at hl 1 rfl) ?_
  refine sd_iald C h 6 0 (i := pt) rfl rfl (by omega) (by decide) d_H_answerOf_12 ?_
  refine lv_i2l (v := ((hf_pf u) pt).toInt64) C.1 C.2.1 d_H_answerOf_13 rfl ?_
  refine lv_iload_n C.1 C.2.1 d_H_answerOf_14 rfl (lv_at hl 3 rfl) ?_
  refine lv_i2l (v := a.toInt64) C.1 C.2.1 d_H_answerOf_15 rfl ?_
  refine lv_lmul C.1 C.2.1 d_H_answerOf_16 ?_
  refine lv_ladd C.1 C.2.1 d_H_answerOf_17 ?_
  refine lv_iload_n C.1 C.2.1 d_H_answerOf_18 rfl (lv_at hl 2 rfl) ?_
  refine lv_i2l (v := y.toInt64) C.1 C.2.1 d_H_answerOf_19 rfl ?_
  refine lv_ladd C.1 C.2.1 d_H_answerOf_20 ?_
  refine lv_aload_n C.1 C.2.1 d_H_answerOf_21 rfl (lv_at hl 0 rfl) ?_
  refine sd_get C h 0 7 (v := .ref (q 8)) (ci := 1) (Cn := "StockDesk$House") (T := T_H) (N := 16) rfl rfl (by decide) in_H tb_88 rfl d_H_answerOf_22 ?_
  refine lv_iload_n C.1 C.2.1 d_H_answerOf_25 rfl (lv_at hl 1 rfl) ?_
  refine sd_lald C h 8 2 (i := pt) rfl rfl (by omega) (by decide) d_H_answerOf_26 ?_
  refine lv_ladd C.1 C.2.1 d_H_answerOf_27 ?_
  exact sd_lret (v := (((((hf_pb u) pt).toInt64) + ((((hf_pf u) pt).toInt64) * a.toInt64)) + y.toInt64) + ((hf_wt u) pt)) C hr hlk h ⟨rfl, rfl⟩ d_H_answerOf_28

set_option maxHeartbeats 4000000 in
set_option maxRecDepth 100000 in
theorem k_H_setKind (l : Launch) (D : va_G) (k3 : ClassId × ClassId × ClassId) (sz : Nat) (q : Nat → Nat) (u : sd_HS) (pt : Nat) (x : Int32) (hp : pt < 6) : Met l y_H_setKind (sd_ws y_H_setKind c_H_setKind 4 (some FieldType.int)) ({ frames := 0, cells := 0, slots := 0, locals := 0 }) (sd_Pc D (sd_t3 k3) [.ref (q 0), .int (nI pt), .int x] sz (sd_H k3 q u)) (sd_Qi D (sd_t3 k3) (va_A (sd_H k3 q u) sz) (fun r w => r = hf_pk u pt ∧ w = sd_H k3 q (hd_kind u pt x))) 0 0 (va_A (sd_H k3 q u) sz) := by
  refine sd_met (cc := c_H_setKind) (maxL := 4) (ret := some .int) (by decide) (Nat.le_of_ble_eq_true rfl) (fun p e s m below meth c C hr hlk hnm hsz h ls hl => ?_)
  generalize va_A (sd_H k3 q u) sz = A at h ⊢
  have hl : lv_has ls 4 [(0, .ref (q 0)), (1, .int (nI pt)), (2, .int x)] := hl
  generalize hH : s.heap = H at h ⊢
  refine lv_aload_n C.1 C.2.1 d_H_setKind_0 rfl (lv_at hl 0 rfl) ?_
  refine sd_get C h 0 3 (v := .ref (q 4)) (ci := 1) (Cn := "StockDesk$House") (T := T_H) (N := 16) rfl rfl (by decide) in_H tb_84 rfl d_H_setKind_1 ?_
  refine lv_iload_n C.1 C.2.1 d_H_setKind_4 rfl (lv_at hl 1 rfl) ?_
  refine sd_iald C h 4 0 (i := pt) rfl rfl (by omega) (by decide) d_H_setKind_5 ?_
  refine lv_istore_n (lv' := [(3, .int ((hf_pk u) pt)), (0, .ref (q 0)), (1, .int (nI pt)), (2, .int x)]) C.1 C.2.1 d_H_setKind_6 rfl hl (by decide) rfl (fun ls hl => ?_)
  refine lv_aload_n C.1 C.2.1 d_H_setKind_7 rfl (lv_at hl 1 rfl) ?_
  refine sd_get C h 0 3 (v := .ref (q 4)) (ci := 1) (Cn := "StockDesk$House") (T := T_H) (N := 16) rfl rfl (by decide) in_H tb_84 rfl d_H_setKind_8 ?_
  refine lv_iload_n C.1 C.2.1 d_H_setKind_11 rfl (lv_at hl 2 rfl) ?_
  refine lv_iload_n C.1 C.2.1 d_H_setKind_12 rfl (lv_at hl 3 rfl) ?_
  refine sd_iast C h 4 0 (i := pt) (ws' := sd_Hx k3 q (hf_md u) (hf_th u) (hf_us u) (upd (hf_pk u) pt x) (hf_pb u) (hf_pf u) (hf_pw u) (hf_wt u) (hf_fl u) (hf_tw u) (hf_tp u) (hf_tn u) (hf_an u) (hf_co u) (hf_s1 u) (hf_s2 u)) rfl rfl (by omega) (by decide) rfl d_H_setKind_13 (fun H locs h => ?_)
  refine lv_iload_n C.1 C.2.1 d_H_setKind_14 rfl (lv_at hl 0 rfl) ?_
  have h := sd_world h (ws' := sd_H k3 q (hd_kind u pt x)) (by simp only [sd_H, hd_make, hd_drop, hd_kind, hd_answer, hd_way, hd_tell, hd_work, hd_byte, hd_m, hd_ans, hf_md, hf_th, hf_us, hf_pk, hf_pb, hf_pf, hf_pw, hf_wt, hf_fl, hf_tw, hf_tp, hf_tn, hf_an, hf_co, hf_s1, hf_s2])
  exact sd_iret (v := (hf_pk u) pt) C hr hlk h ⟨rfl, rfl⟩ d_H_setKind_15

set_option maxHeartbeats 4000000 in
set_option maxRecDepth 100000 in
theorem k_H_setAnswer (l : Launch) (D : va_G) (k3 : ClassId × ClassId × ClassId) (sz : Nat) (q : Nat → Nat) (u : sd_HS) (pt : Nat) (b : Int32) (f : Int32) (hp : pt < 6) : Met l y_H_setAnswer (sd_ws y_H_setAnswer c_H_setAnswer 4 (some FieldType.int)) ({ frames := 0, cells := 0, slots := 0, locals := 0 }) (sd_Pc D (sd_t3 k3) [.ref (q 0), .int (nI pt), .int b, .int f] sz (sd_H k3 q u)) (sd_Qi D (sd_t3 k3) (va_A (sd_H k3 q u) sz) (fun r w => r = 0 ∧ w = sd_H k3 q (hd_answer u pt b f))) 0 0 (va_A (sd_H k3 q u) sz) := by
  refine sd_met (cc := c_H_setAnswer) (maxL := 4) (ret := some .int) (by decide) (Nat.le_of_ble_eq_true rfl) (fun p e s m below meth c C hr hlk hnm hsz h ls hl => ?_)
  generalize va_A (sd_H k3 q u) sz = A at h ⊢
  have hl : lv_has ls 4 [(0, .ref (q 0)), (1, .int (nI pt)), (2, .int b), (3, .int f)] := hl
  generalize hH : s.heap = H at h ⊢
  refine lv_aload_n C.1 C.2.1 d_H_setAnswer_0 rfl (lv_at hl 0 rfl) ?_
  refine sd_get C h 0 4 (v := .ref (q 5)) (ci := 1) (Cn := "StockDesk$House") (T := T_H) (N := 16) rfl rfl (by decide) in_H tb_85 rfl d_H_setAnswer_1 ?_
  refine lv_iload_n C.1 C.2.1 d_H_setAnswer_4 rfl (lv_at hl 1 rfl) ?_
  refine lv_iload_n C.1 C.2.1 d_H_setAnswer_5 rfl (lv_at hl 2 rfl) ?_
  refine sd_iast C h 5 0 (i := pt) (ws' := sd_Hx k3 q (hf_md u) (hf_th u) (hf_us u) (hf_pk u) (upd (hf_pb u) pt b) (hf_pf u) (hf_pw u) (hf_wt u) (hf_fl u) (hf_tw u) (hf_tp u) (hf_tn u) (hf_an u) (hf_co u) (hf_s1 u) (hf_s2 u)) rfl rfl (by omega) (by decide) rfl d_H_setAnswer_6 (fun H locs h => ?_)
  refine lv_aload_n C.1 C.2.1 d_H_setAnswer_7 rfl (lv_at hl 0 rfl) ?_
  refine sd_get C h 0 5 (v := .ref (q 6)) (ci := 1) (Cn := "StockDesk$House") (T := T_H) (N := 16) rfl rfl (by decide) in_H tb_86 rfl d_H_setAnswer_8 ?_
  refine lv_iload_n C.1 C.2.1 d_H_setAnswer_11 rfl (lv_at hl 1 rfl) ?_
  refine lv_iload_n C.1 C.2.1 d_H_setAnswer_12 rfl (lv_at hl 3 rfl) ?_
  refine sd_iast C h 6 0 (i := pt) (ws' := sd_Hx k3 q (hf_md u) (hf_th u) (hf_us u) (hf_pk u) (upd (hf_pb u) pt b) (upd (hf_pf u) pt f) (hf_pw u) (hf_wt u) (hf_fl u) (hf_tw u) (hf_tp u) (hf_tn u) (hf_an u) (hf_co u) (hf_s1 u) (hf_s2 u)) rfl rfl (by omega) (by decide) rfl d_H_setAnswer_13 (fun H locs h => ?_)
  refine lv_iconst (v := 0) C.1 C.2.1 d_H_setAnswer_14 (by decide) ?_
  have h := sd_world h (ws' := sd_H k3 q (hd_answer u pt b f)) (by simp only [sd_H, hd_make, hd_drop, hd_kind, hd_answer, hd_way, hd_tell, hd_work, hd_byte, hd_m, hd_ans, hf_md, hf_th, hf_us, hf_pk, hf_pb, hf_pf, hf_pw, hf_wt, hf_fl, hf_tw, hf_tp, hf_tn, hf_an, hf_co, hf_s1, hf_s2])
  exact sd_iret (v := 0) C hr hlk h ⟨rfl, rfl⟩ d_H_setAnswer_15

set_option maxHeartbeats 4000000 in
set_option maxRecDepth 100000 in
theorem k_H_setWay (l : Launch) (D : va_G) (k3 : ClassId × ClassId × ClassId) (sz : Nat) (q : Nat → Nat) (u : sd_HS) (pt : Nat) (x : Int32) (hp : pt < 6) : Met l y_H_setWay (sd_ws y_H_setWay c_H_setWay 4 (some FieldType.int)) ({ frames := 0, cells := 0, slots := 0, locals := 0 }) (sd_Pc D (sd_t3 k3) [.ref (q 0), .int (nI pt), .int x] sz (sd_H k3 q u)) (sd_Qi D (sd_t3 k3) (va_A (sd_H k3 q u) sz) (fun r w => r = hf_pw u pt ∧ w = sd_H k3 q (hd_way u pt x))) 0 0 (va_A (sd_H k3 q u) sz) := by
  refine sd_met (cc := c_H_setWay) (maxL := 4) (ret := some .int) (by decide) (Nat.le_of_ble_eq_true rfl) (fun p e s m below meth c C hr hlk hnm hsz h ls hl => ?_)
  generalize va_A (sd_H k3 q u) sz = A at h ⊢
  have hl : lv_has ls 4 [(0, .ref (q 0)), (1, .int (nI pt)), (2, .int x)] := hl
  generalize hH : s.heap = H at h ⊢
  refine lv_aload_n C.1 C.2.1 d_H_setWay_0 rfl (lv_at hl 0 rfl) ?_
  refine sd_get C h 0 6 (v := .ref (q 7)) (ci := 1) (Cn := "StockDesk$House") (T := T_H) (N := 16) rfl rfl (by decide) in_H tb_87 rfl d_H_setWay_1 ?_
  refine lv_iload_n C.1 C.2.1 d_H_setWay_4 rfl (lv_at hl 1 rfl) ?_
  refine sd_iald C h 7 0 (i := pt) rfl rfl (by omega) (by decide) d_H_setWay_5 ?_
  refine lv_istore_n (lv' := [(3, .int ((hf_pw u) pt)), (0, .ref (q 0)), (1, .int (nI pt)), (2, .int x)]) C.1 C.2.1 d_H_setWay_6 rfl hl (by decide) rfl (fun ls hl => ?_)
  refine lv_aload_n C.1 C.2.1 d_H_setWay_7 rfl (lv_at hl 1 rfl) ?_
  refine sd_get C h 0 6 (v := .ref (q 7)) (ci := 1) (Cn := "StockDesk$House") (T := T_H) (N := 16) rfl rfl (by decide) in_H tb_87 rfl d_H_setWay_8 ?_
  refine lv_iload_n C.1 C.2.1 d_H_setWay_11 rfl (lv_at hl 2 rfl) ?_
  refine lv_iload_n C.1 C.2.1 d_H_setWay_12 rfl (lv_at hl 3 rfl) ?_
  refine sd_iast C h 7 0 (i := pt) (ws' := sd_Hx k3 q (hf_md u) (hf_th u) (hf_us u) (hf_pk u) (hf_pb u) (hf_pf u) (upd (hf_pw u) pt x) (hf_wt u) (hf_fl u) (hf_tw u) (hf_tp u) (hf_tn u) (hf_an u) (hf_co u) (hf_s1 u) (hf_s2 u)) rfl rfl (by omega) (by decide) rfl d_H_setWay_13 (fun H locs h => ?_)
  refine lv_iload_n C.1 C.2.1 d_H_setWay_14 rfl (lv_at hl 0 rfl) ?_
  have h := sd_world h (ws' := sd_H k3 q (hd_way u pt x)) (by simp only [sd_H, hd_make, hd_drop, hd_kind, hd_answer, hd_way, hd_tell, hd_work, hd_byte, hd_m, hd_ans, hf_md, hf_th, hf_us, hf_pk, hf_pb, hf_pf, hf_pw, hf_wt, hf_fl, hf_tw, hf_tp, hf_tn, hf_an, hf_co, hf_s1, hf_s2])
  exact sd_iret (v := (hf_pw u) pt) C hr hlk h ⟨rfl, rfl⟩ d_H_setWay_15

set_option maxHeartbeats 4000000 in
set_option maxRecDepth 100000 in
theorem k_H_tellFailure (l : Launch) (D : va_G) (k3 : ClassId × ClassId × ClassId) (sz : Nat) (q : Nat → Nat) (u : sd_HS) (pt : Nat) (y : Int32) (hp : pt < 6) : Met l y_H_tellFailure (sd_ws y_H_tellFailure c_H_tellFailure 3 none) ({ frames := 0, cells := 0, slots := 0, locals := 0 }) (sd_Pc D (sd_t3 k3) [.ref (q 0), .int (nI pt), .int y] sz (sd_H k3 q u)) (sd_Qv D (sd_t3 k3) (va_A (sd_H k3 q u) sz) (fun w => w = sd_H k3 q (hd_tell u pt y))) 0 0 (va_A (sd_H k3 q u) sz) := by
  refine sd_met (cc := c_H_tellFailure) (maxL := 3) (ret := none) (by decide) (Nat.le_of_ble_eq_true rfl) (fun p e s m below meth c C hr hlk hnm hsz h ls hl => ?_)
  generalize va_A (sd_H k3 q u) sz = A at h ⊢
  have hl : lv_has ls 3 [(0, .ref (q 0)), (1, .int (nI pt)), (2, .int y)] := hl
  generalize hH : s.heap = H at h ⊢
  refine lv_aload_n C.1 C.2.1 d_H_tellFailure_0 rfl (lv_at hl 0 rfl) ?_
  refine lv_dup C.1 C.2.1 d_H_tellFailure_1 rfl ?_
  refine sd_get C h 0 8 (v := .int (hf_fl u)) (ci := 1) (Cn := "StockDesk$House") (T := T_H) (N := 16) rfl rfl (by decide) in_H tb_89 rfl d_H_tellFailure_2 ?_
  refine lv_iconst (v := 1) C.1 C.2.1 d_H_tellFailure_5 (by decide) ?_
  refine lv_iadd C.1 C.2.1 d_H_tellFailure_6 ?_
  refine sd_put C h 0 8 (v := .int ((hf_fl u) + 1)) (ci := 1) (Cn := "StockDesk$House") (T := T_H) (N := 16) (ty0 := ty_H) (ws' := sd_Hx k3 q (hf_md u) (hf_th u) (hf_us u) (hf_pk u) (hf_pb u) (hf_pf u) (hf_pw u) (hf_wt u) ((hf_fl u) + 1) (hf_tw u) (hf_tp u) (hf_tn u) (hf_an u) (hf_co u) (hf_s1 u) (hf_s2 u)) rfl rfl (by decide) in_H tyok_H nm_H tb_89 rfl rfl rfl rfl (Nat.le_of_ble_eq_true rfl) rfl d_H_tellFailure_7 (fun H locs h => ?_)
  refine lv_aload_n C.1 C.2.1 d_H_tellFailure_10 rfl (lv_at hl 0 rfl) ?_
  refine lv_aload_n C.1 C.2.1 d_H_tellFailure_11 rfl (lv_at hl 0 rfl) ?_
  refine sd_get C h 0 6 (v := .ref (q 7)) (ci := 1) (Cn := "StockDesk$House") (T := T_H) (N := 16) rfl rfl (by decide) in_H tb_87 rfl d_H_tellFailure_12 ?_
  refine lv_iload_n C.1 C.2.1 d_H_tellFailure_15 rfl (lv_at hl 1 rfl) ?_
  refine sd_iald C h 7 0 (i := pt) rfl rfl (by omega) (by decide) d_H_tellFailure_16 ?_
  refine sd_put C h 0 9 (v := .int ((hf_pw u) pt)) (ci := 1) (Cn := "StockDesk$House") (T := T_H) (N := 16) (ty0 := ty_H) (ws' := sd_Hx k3 q (hf_md u) (hf_th u) (hf_us u) (hf_pk u) (hf_pb u) (hf_pf u) (hf_pw u) (hf_wt u) ((hf_fl u) + 1) ((hf_pw u) pt) (hf_tp u) (hf_tn u) (hf_an u) (hf_co u) (hf_s1 u) (hf_s2 u)) rfl rfl (by decide) in_H tyok_H nm_H tb_91 rfl rfl rfl rfl (Nat.le_of_ble_eq_true rfl) rfl d_H_tellFailure_17 (fun H locs h => ?_)
  refine lv_aload_n C.1 C.2.1 d_H_tellFailure_20 rfl (lv_at hl 0 rfl) ?_
  refine lv_iload_n C.1 C.2.1 d_H_tellFailure_21 rfl (lv_at hl 1 rfl) ?_
  refine sd_put C h 0 10 (v := .int (nI pt)) (ci := 1) (Cn := "StockDesk$House") (T := T_H) (N := 16) (ty0 := ty_H) (ws' := sd_Hx k3 q (hf_md u) (hf_th u) (hf_us u) (hf_pk u) (hf_pb u) (hf_pf u) (hf_pw u) (hf_wt u) ((hf_fl u) + 1) ((hf_pw u) pt) (nI pt) (hf_tn u) (hf_an u) (hf_co u) (hf_s1 u) (hf_s2 u)) rfl rfl (by decide) in_H tyok_H nm_H tb_93 rfl rfl rfl rfl (Nat.le_of_ble_eq_true rfl) rfl d_H_tellFailure_22 (fun H locs h => ?_)
  refine lv_aload_n C.1 C.2.1 d_H_tellFailure_25 rfl (lv_at hl 0 rfl) ?_
  refine lv_iload_n C.1 C.2.1 d_H_tellFailure_26 rfl (lv_at hl 2 rfl) ?_
  refine sd_put C h 0 11 (v := .int y) (ci := 1) (Cn := "StockDesk$House") (T := T_H) (N := 16) (ty0 := ty_H) (ws' := sd_Hx k3 q (hf_md u) (hf_th u) (hf_us u) (hf_pk u) (hf_pb u) (hf_pf u) (hf_pw u) (hf_wt u) ((hf_fl u) + 1) ((hf_pw u) pt) (nI pt) y (hf_an u) (hf_co u) (hf_s1 u) (hf_s2 u)) rfl rfl (by decide) in_H tyok_H nm_H tb_95 rfl rfl rfl rfl (Nat.le_of_ble_eq_true rfl) rfl d_H_tellFailure_27 (fun H locs h => ?_)
  have h := sd_world h (ws' := sd_H k3 q (hd_tell u pt y)) (by simp only [sd_H, hd_make, hd_drop, hd_kind, hd_answer, hd_way, hd_tell, hd_work, hd_byte, hd_m, hd_ans, hf_md, hf_th, hf_us, hf_pk, hf_pb, hf_pf, hf_pw, hf_wt, hf_fl, hf_tw, hf_tp, hf_tn, hf_an, hf_co, hf_s1, hf_s2])
  exact sd_vret C hr hlk h rfl d_H_tellFailure_30

set_option maxHeartbeats 4000000 in
set_option maxRecDepth 100000 in
theorem k_H_addByte (l : Launch) (D : va_G) (k3 : ClassId × ClassId × ClassId) (sz : Nat) (q : Nat → Nat) (u : sd_HS) (b : Int32) : Met l y_H_addByte (sd_ws y_H_addByte c_H_addByte 2 (some FieldType.int)) ({ frames := 0, cells := 0, slots := 0, locals := 0 }) (sd_Pc D (sd_t3 k3) [.ref (q 0), .int b] sz (sd_H k3 q u)) (sd_Qi D (sd_t3 k3) (va_A (sd_H k3 q u) sz) (fun r w => r = hf_co u + 1 ∧ w = sd_H k3 q (hd_byte u b))) 0 0 (va_A (sd_H k3 q u) sz) := by
  refine sd_met (cc := c_H_addByte) (maxL := 2) (ret := some .int) (by decide) (Nat.le_of_ble_eq_true rfl) (fun p e s m below meth c C hr hlk hnm hsz h ls hl => ?_)
  generalize va_A (sd_H k3 q u) sz = A at h ⊢
  have hl : lv_has ls 2 [(0, .ref (q 0)), (1, .int b)] := hl
  generalize hH : s.heap = H at h ⊢
  refine lv_aload_n C.1 C.2.1 d_H_addByte_0 rfl (lv_at hl 0 rfl) ?_
  refine lv_aload_n C.1 C.2.1 d_H_addByte_1 rfl (lv_at hl 0 rfl) ?_
  refine sd_get C h 0 14 (v := .int (hf_s1 u)) (ci := 1) (Cn := "StockDesk$House") (T := T_H) (N := 16) rfl rfl (by decide) in_H tb_101 rfl d_H_addByte_2 ?_
  refine lv_iload_n C.1 C.2.1 d_H_addByte_5 rfl (lv_at hl 1 rfl) ?_
  refine lv_iadd C.1 C.2.1 d_H_addByte_6 ?_
  refine lv_ldc (v := 65521) C.1 C.2.1 C.2.2.2.1 (C.2.2.2.2 _ (List.mem_cons_of_mem _ tb_337)) d_H_addByte_7 ?_
  refine lv_irem C.1 C.2.1 d_H_addByte_9 (by decide) ?_
  refine sd_put C h 0 14 (v := .int (((hf_s1 u) + b) - ((hf_s1 u) + b) / 65521 * 65521)) (ci := 1) (Cn := "StockDesk$House") (T := T_H) (N := 16) (ty0 := ty_H) (ws' := sd_Hx k3 q (hf_md u) (hf_th u) (hf_us u) (hf_pk u) (hf_pb u) (hf_pf u) (hf_pw u) (hf_wt u) (hf_fl u) (hf_tw u) (hf_tp u) (hf_tn u) (hf_an u) (hf_co u) (((hf_s1 u) + b) - ((hf_s1 u) + b) / 65521 * 65521) (hf_s2 u)) rfl rfl (by decide) in_H tyok_H nm_H tb_101 rfl rfl rfl rfl (Nat.le_of_ble_eq_true rfl) rfl d_H_addByte_10 (fun H locs h => ?_)
  refine lv_aload_n C.1 C.2.1 d_H_addByte_13 rfl (lv_at hl 0 rfl) ?_
  refine lv_aload_n C.1 C.2.1 d_H_addByte_14 rfl (lv_at hl 0 rfl) ?_
  refine sd_get C h 0 15 (v := .int (hf_s2 u)) (ci := 1) (Cn := "StockDesk$House") (T := T_H) (N := 16) rfl rfl (by decide) in_H tb_102 rfl d_H_addByte_15 ?_
  refine lv_aload_n C.1 C.2.1 d_H_addByte_18 rfl (lv_at hl 0 rfl) ?_
  refine sd_get C h 0 14 (v := .int (((hf_s1 u) + b) - ((hf_s1 u) + b) / 65521 * 65521)) (ci := 1) (Cn := "StockDesk$House") (T := T_H) (N := 16) rfl rfl (by decide) in_H tb_101 rfl d_H_addByte_19 ?_
  refine lv_iadd C.1 C.2.1 d_H_addByte_22 ?_
  refine lv_ldc (v := 65521) C.1 C.2.1 C.2.2.2.1 (C.2.2.2.2 _ (List.mem_cons_of_mem _ tb_337)) d_H_addByte_23 ?_
  refine lv_irem C.1 C.2.1 d_H_addByte_25 (by decide) ?_
  refine sd_put C h 0 15 (v := .int (((hf_s2 u) + (((hf_s1 u) + b) - ((hf_s1 u) + b) / 65521 * 65521)) - ((hf_s2 u) + (((hf_s1 u) + b) - ((hf_s1 u) + b) / 65521 * 65521)) / 65521 * 65521)) (ci := 1) (Cn := "StockDesk$House") (T := T_H) (N := 16) (ty0 := ty_H) (ws' := sd_Hx k3 q (hf_md u) (hf_th u) (hf_us u) (hf_pk u) (hf_pb u) (hf_pf u) (hf_pw u) (hf_wt u) (hf_fl u) (hf_tw u) (hf_tp u) (hf_tn u) (hf_an u) (hf_co u) (((hf_s1 u) + b) - ((hf_s1 u) + b) / 65521 * 65521) (((hf_s2 u) + (((hf_s1 u) + b) - ((hf_s1 u) + b) / 65521 * 65521)) - ((hf_s2 u) + (((hf_s1 u) + b) - ((hf_s1 u) + b) / 65521 * 65521)) / 65521 * 65521)) rfl rfl (by decide) in_H tyok_H nm_H tb_102 rfl rfl rfl rfl (Nat.le_of_ble_eq_true rfl) rfl d_H_addByte_26 (fun H locs h => ?_)
  refine lv_aload_n C.1 C.2.1 d_H_addByte_29 rfl (lv_at hl 0 rfl) ?_
  refine lv_dup C.1 C.2.1 d_H_addByte_30 rfl ?_
  refine sd_get C h 0 13 (v := .int (hf_co u)) (ci := 1) (Cn := "StockDesk$House") (T := T_H) (N := 16) rfl rfl (by decide) in_H tb_99 rfl d_H_addByte_31 ?_
  refine lv_iconst (v := 1) C.1 C.2.1 d_H_addByte_34 (by decide) ?_
  refine lv_iadd C.1 C.2.1 d_H_addByte_35 ?_
  refine sd_put C h 0 13 (v := .int ((hf_co u) + 1)) (ci := 1) (Cn := "StockDesk$House") (T := T_H) (N := 16) (ty0 := ty_H) (ws' := sd_Hx k3 q (hf_md u) (hf_th u) (hf_us u) (hf_pk u) (hf_pb u) (hf_pf u) (hf_pw u) (hf_wt u) (hf_fl u) (hf_tw u) (hf_tp u) (hf_tn u) (hf_an u) ((hf_co u) + 1) (((hf_s1 u) + b) - ((hf_s1 u) + b) / 65521 * 65521) (((hf_s2 u) + (((hf_s1 u) + b) - ((hf_s1 u) + b) / 65521 * 65521)) - ((hf_s2 u) + (((hf_s1 u) + b) - ((hf_s1 u) + b) / 65521 * 65521)) / 65521 * 65521)) rfl rfl (by decide) in_H tyok_H nm_H tb_99 rfl rfl rfl rfl (Nat.le_of_ble_eq_true rfl) rfl d_H_addByte_36 (fun H locs h => ?_)
  refine lv_aload_n C.1 C.2.1 d_H_addByte_39 rfl (lv_at hl 0 rfl) ?_
  refine sd_get C h 0 13 (v := .int ((hf_co u) + 1)) (ci := 1) (Cn := "StockDesk$House") (T := T_H) (N := 16) rfl rfl (by decide) in_H tb_99 rfl d_H_addByte_40 ?_
  have h := sd_world h (ws' := sd_H k3 q (hd_byte u b)) (by simp only [sd_H, hd_make, hd_drop, hd_kind, hd_answer, hd_way, hd_tell, hd_work, hd_byte, hd_m, hd_ans, hf_md, hf_th, hf_us, hf_pk, hf_pb, hf_pf, hf_pw, hf_wt, hf_fl, hf_tw, hf_tp, hf_tn, hf_an, hf_co, hf_s1, hf_s2])
  exact sd_iret (v := (hf_co u) + 1) C hr hlk h ⟨rfl, rfl⟩ d_H_addByte_43

set_option maxHeartbeats 4000000 in
set_option maxRecDepth 100000 in
theorem k_H_removeThing (l : Launch) (D : va_G) (k3 : ClassId × ClassId × ClassId) (sz : Nat) (q : Nat → Nat) (u : sd_HS) (k : Nat) (j : Nat) (hk : k < 5) (h1 : 1 ≤ j) (h9 : j ≤ 9) : Met l y_H_removeThing (sd_ws y_H_removeThing c_H_removeThing 3 (some FieldType.int)) ({ frames := 1, cells := 0, slots := 0, locals := 21 }) (sd_Pc D (sd_t3 k3) [.ref (q 0), .int (nI k), .int (nI j)] sz (sd_H k3 q u)) (sd_Qi D (sd_t3 k3) (va_A (sd_H k3 q u) sz) (fun r w => r = hf_us u (k * 9 + j - 1) ∧ w = sd_H k3 q (hd_drop u k j))) 0 0 (va_A (sd_H k3 q u) sz) := by
  refine sd_met (cc := c_H_removeThing) (maxL := 3) (ret := some .int) (by decide) (Nat.le_of_ble_eq_true rfl) (fun p e s m below meth c C hr hlk hnm hsz h ls hl => ?_)
  generalize va_A (sd_H k3 q u) sz = A at h ⊢
  have hl : lv_has ls 3 [(0, .ref (q 0)), (1, .int (nI k)), (2, .int (nI j))] := hl
  generalize hH : s.heap = H at h ⊢
  refine lv_aload_n C.1 C.2.1 d_H_removeThing_0 rfl (lv_at hl 0 rfl) ?_
  refine sd_get C h 0 1 (v := .ref (q 2)) (ci := 1) (Cn := "StockDesk$House") (T := T_H) (N := 16) rfl rfl (by decide) in_H tb_82 rfl d_H_removeThing_1 ?_
  refine lv_iload_n C.1 C.2.1 d_H_removeThing_4 rfl (lv_at hl 1 rfl) ?_
  refine lv_iload_n C.1 C.2.1 d_H_removeThing_5 rfl (lv_at hl 2 rfl) ?_
  have h := sd_world h (ws' := ([]) ++ ([]) ++ (sd_H k3 q u)) (by simp only [List.append_assoc, List.nil_append, List.append_nil])
  refine sd_calli h (va_runS (As := [.int (nI k), .int (nI j)]) (rest := [.ref (q 2)]) C (k_H_slotOf l D k3 H.size k j h1) (sd_cwS 2 C.2.2.2.2 tb_173 tb_174 tb_23 tb_175 rfl rfl (by decide +kernel) ⟨Nat.le_of_ble_eq_true rfl, Nat.le_of_ble_eq_true rfl⟩) (sd_preS h) rfl rfl hl.1 rfl (lv_room (Nat.le_of_ble_eq_true rfl)) d_H_removeThing_6 ⟨Nat.le_of_ble_eq_true rfl, Nat.le_of_ble_eq_true rfl⟩) (fun r w1 H locs hq h => ?_)
  obtain ⟨rfl, rfl⟩ := hq
  have h := sd_world h (ws' := sd_H k3 q u) (by simp only [List.append_assoc, List.nil_append, List.append_nil])
  refine lv_iconst (v := 0) C.1 C.2.1 d_H_removeThing_9 (by decide) ?_
  refine sd_zast C h 2 1 (i := (k * 9 + j - 1)) (ws' := sd_Hx k3 q (hf_md u) (upd (hf_th u) (k * 9 + j - 1) 0) (hf_us u) (hf_pk u) (hf_pb u) (hf_pf u) (hf_pw u) (hf_wt u) (hf_fl u) (hf_tw u) (hf_tp u) (hf_tn u) (hf_an u) (hf_co u) (hf_s1 u) (hf_s2 u)) rfl rfl (by omega) (by decide) rfl rfl d_H_removeThing_10 (fun H locs h => ?_)
  refine lv_aload_n C.1 C.2.1 d_H_removeThing_11 rfl (lv_at hl 0 rfl) ?_
  refine sd_get C h 0 2 (v := .ref (q 3)) (ci := 1) (Cn := "StockDesk$House") (T := T_H) (N := 16) rfl rfl (by decide) in_H tb_83 rfl d_H_removeThing_12 ?_
  refine lv_iload_n C.1 C.2.1 d_H_removeThing_15 rfl (lv_at hl 1 rfl) ?_
  refine lv_iload_n C.1 C.2.1 d_H_removeThing_16 rfl (lv_at hl 2 rfl) ?_
  have h := sd_world h (ws' := ([]) ++ ([]) ++ (sd_Hx k3 q (hf_md u) (upd (hf_th u) (k * 9 + j - 1) 0) (hf_us u) (hf_pk u) (hf_pb u) (hf_pf u) (hf_pw u) (hf_wt u) (hf_fl u) (hf_tw u) (hf_tp u) (hf_tn u) (hf_an u) (hf_co u) (hf_s1 u) (hf_s2 u))) (by simp only [List.append_assoc, List.nil_append, List.append_nil])
  refine sd_calli h (va_runS (As := [.int (nI k), .int (nI j)]) (rest := [.ref (q 3)]) C (k_H_slotOf l D k3 H.size k j h1) (sd_cwS 2 C.2.2.2.2 tb_173 tb_174 tb_23 tb_175 rfl rfl (by decide +kernel) ⟨Nat.le_of_ble_eq_true rfl, Nat.le_of_ble_eq_true rfl⟩) (sd_preS h) rfl rfl hl.1 rfl (lv_room (Nat.le_of_ble_eq_true rfl)) d_H_removeThing_17 ⟨Nat.le_of_ble_eq_true rfl, Nat.le_of_ble_eq_true rfl⟩) (fun r w1 H locs hq h => ?_)
  obtain ⟨rfl, rfl⟩ := hq
  have h := sd_world h (ws' := sd_Hx k3 q (hf_md u) (upd (hf_th u) (k * 9 + j - 1) 0) (hf_us u) (hf_pk u) (hf_pb u) (hf_pf u) (hf_pw u) (hf_wt u) (hf_fl u) (hf_tw u) (hf_tp u) (hf_tn u) (hf_an u) (hf_co u) (hf_s1 u) (hf_s2 u)) (by simp only [List.append_assoc, List.nil_append, List.append_nil])
  refine sd_iald C h 3 0 (i := (k * 9 + j - 1)) rfl rfl (by omega) (by decide) d_H_removeThing_20 ?_
  have h := sd_world h (ws' := sd_H k3 q (hd_drop u k j)) (by simp only [sd_H, hd_make, hd_drop, hd_kind, hd_answer, hd_way, hd_tell, hd_work, hd_byte, hd_m, hd_ans, hf_md, hf_th, hf_us, hf_pk, hf_pb, hf_pf, hf_pw, hf_wt, hf_fl, hf_tw, hf_tp, hf_tn, hf_an, hf_co, hf_s1, hf_s2])
  exact sd_iret (v := (hf_us u) (k * 9 + j - 1)) C hr hlk h ⟨rfl, rfl⟩ d_H_removeThing_21

set_option maxHeartbeats 4000000 in
set_option maxRecDepth 100000 in
theorem k_H_addThing (l : Launch) (D : va_G) (k3 : ClassId × ClassId × ClassId) (sz : Nat) (q : Nat → Nat) (u : sd_HS) (k : Nat) (n : Nat) (hk : k < 5) (hn : n < 9) (hm : hf_md u k = nI n) : Met l y_H_addThing (sd_ws y_H_addThing c_H_addThing 2 (some FieldType.int)) ({ frames := 1, cells := 0, slots := 0, locals := 21 }) (sd_Pc D (sd_t3 k3) [.ref (q 0), .int (nI k)] sz (sd_H k3 q u)) (sd_Qi D (sd_t3 k3) (va_A (sd_H k3 q u) sz) (fun r w => r = nI (n + 1) ∧ w = sd_H k3 q (hd_make u k n))) 0 0 (va_A (sd_H k3 q u) sz) := by
  refine sd_met (cc := c_H_addThing) (maxL := 2) (ret := some .int) (by decide) (Nat.le_of_ble_eq_true rfl) (fun p e s m below meth c C hr hlk hnm hsz h ls hl => ?_)
  generalize va_A (sd_H k3 q u) sz = A at h ⊢
  have hl : lv_has ls 2 [(0, .ref (q 0)), (1, .int (nI k))] := hl
  generalize hH : s.heap = H at h ⊢
  refine lv_aload_n C.1 C.2.1 d_H_addThing_0 rfl (lv_at hl 0 rfl) ?_
  refine sd_get C h 0 0 (v := .ref (q 1)) (ci := 1) (Cn := "StockDesk$House") (T := T_H) (N := 16) rfl rfl (by decide) in_H tb_81 rfl d_H_addThing_1 ?_
  refine lv_iload_n C.1 C.2.1 d_H_addThing_4 rfl (lv_at hl 1 rfl) ?_
  refine lv_dup2_11 C.1 C.2.1 d_H_addThing_5 rfl rfl ?_
  refine sd_iald C h 1 0 (i := k) rfl rfl (by omega) (by decide) d_H_addThing_6 ?_
  refine lv_iconst (v := 1) C.1 C.2.1 d_H_addThing_7 (by decide) ?_
  refine lv_iadd C.1 C.2.1 d_H_addThing_8 ?_
  refine sd_iast C h 1 0 (i := k) (ws' := sd_Hx k3 q (upd (hf_md u) k (((hf_md u) k) + 1)) (hf_th u) (hf_us u) (hf_pk u) (hf_pb u) (hf_pf u) (hf_pw u) (hf_wt u) (hf_fl u) (hf_tw u) (hf_tp u) (hf_tn u) (hf_an u) (hf_co u) (hf_s1 u) (hf_s2 u)) rfl rfl (by omega) (by decide) rfl d_H_addThing_9 (fun H locs h => ?_)
  refine lv_aload_n C.1 C.2.1 d_H_addThing_10 rfl (lv_at hl 0 rfl) ?_
  refine sd_get C h 0 1 (v := .ref (q 2)) (ci := 1) (Cn := "StockDesk$House") (T := T_H) (N := 16) rfl rfl (by decide) in_H tb_82 rfl d_H_addThing_11 ?_
  refine lv_iload_n C.1 C.2.1 d_H_addThing_14 rfl (lv_at hl 1 rfl) ?_
  refine lv_aload_n C.1 C.2.1 d_H_addThing_15 rfl (lv_at hl 0 rfl) ?_
  refine sd_get C h 0 0 (v := .ref (q 1)) (ci := 1) (Cn := "StockDesk$House") (T := T_H) (N := 16) rfl rfl (by decide) in_H tb_81 rfl d_H_addThing_16 ?_
  refine lv_iload_n C.1 C.2.1 d_H_addThing_19 rfl (lv_at hl 1 rfl) ?_
  refine sd_iald C h 1 0 (i := k) rfl rfl (by omega) (by decide) d_H_addThing_20 ?_
  refine sd_top (v := .int ((upd (hf_md u) k (((hf_md u) k) + 1)) k)) (v' := .int (nI (n + 1))) (congrArg Value.int (by show (upd (hf_md u) k (((hf_md u) k) + 1)) k = nI (n + 1); rw [pk_us, hm]; exact nI_1 n)) ?_
  have h := sd_world h (ws' := ([]) ++ ([]) ++ (sd_Hx k3 q (upd (hf_md u) k (((hf_md u) k) + 1)) (hf_th u) (hf_us u) (hf_pk u) (hf_pb u) (hf_pf u) (hf_pw u) (hf_wt u) (hf_fl u) (hf_tw u) (hf_tp u) (hf_tn u) (hf_an u) (hf_co u) (hf_s1 u) (hf_s2 u))) (by simp only [List.append_assoc, List.nil_append, List.append_nil])
  refine sd_calli h (va_runS (As := [.int (nI k), .int (nI (n + 1))]) (rest := [.ref (q 2)]) C (k_H_slotOf l D k3 H.size k (n + 1) (by omega : 1 ≤ n + 1)) (sd_cwS 2 C.2.2.2.2 tb_173 tb_174 tb_23 tb_175 rfl rfl (by decide +kernel) ⟨Nat.le_of_ble_eq_true rfl, Nat.le_of_ble_eq_true rfl⟩) (sd_preS h) rfl rfl hl.1 rfl (lv_room (Nat.le_of_ble_eq_true rfl)) d_H_addThing_21 ⟨Nat.le_of_ble_eq_true rfl, Nat.le_of_ble_eq_true rfl⟩) (fun r w1 H locs hq h => ?_)
  obtain ⟨rfl, rfl⟩ := hq
  have h := sd_world h (ws' := sd_Hx k3 q (upd (hf_md u) k (((hf_md u) k) + 1)) (hf_th u) (hf_us u) (hf_pk u) (hf_pb u) (hf_pf u) (hf_pw u) (hf_wt u) (hf_fl u) (hf_tw u) (hf_tp u) (hf_tn u) (hf_an u) (hf_co u) (hf_s1 u) (hf_s2 u)) (by simp only [List.append_assoc, List.nil_append, List.append_nil])
  refine lv_iconst (v := 1) C.1 C.2.1 d_H_addThing_24 (by decide) ?_
  refine sd_zast C h 2 1 (i := (k * 9 + (n + 1) - 1)) (ws' := sd_Hx k3 q (upd (hf_md u) k (((hf_md u) k) + 1)) (upd (hf_th u) (k * 9 + (n + 1) - 1) 1) (hf_us u) (hf_pk u) (hf_pb u) (hf_pf u) (hf_pw u) (hf_wt u) (hf_fl u) (hf_tw u) (hf_tp u) (hf_tn u) (hf_an u) (hf_co u) (hf_s1 u) (hf_s2 u)) rfl rfl (by omega) (by decide) rfl rfl d_H_addThing_25 (fun H locs h => ?_)
  refine lv_aload_n C.1 C.2.1 d_H_addThing_26 rfl (lv_at hl 0 rfl) ?_
  refine sd_get C h 0 0 (v := .ref (q 1)) (ci := 1) (Cn := "StockDesk$House") (T := T_H) (N := 16) rfl rfl (by decide) in_H tb_81 rfl d_H_addThing_27 ?_
  refine lv_iload_n C.1 C.2.1 d_H_addThing_30 rfl (lv_at hl 1 rfl) ?_
  refine sd_iald C h 1 0 (i := k) rfl rfl (by omega) (by decide) d_H_addThing_31 ?_
  refine sd_top (v := .int ((upd (hf_md u) k (((hf_md u) k) + 1)) k)) (v' := .int (nI (n + 1))) (congrArg Value.int (by show (upd (hf_md u) k (((hf_md u) k) + 1)) k = nI (n + 1); rw [pk_us, hm]; exact nI_1 n)) ?_
  have h := sd_world h (ws' := sd_H k3 q (hd_make u k n)) (by simp only [sd_H, hd_make, hd_drop, hd_kind, hd_answer, hd_way, hd_tell, hd_work, hd_byte, hd_m, hd_ans, hf_md, hf_th, hf_us, hf_pk, hf_pb, hf_pf, hf_pw, hf_wt, hf_fl, hf_tw, hf_tp, hf_tn, hf_an, hf_co, hf_s1, hf_s2])
  exact sd_iret (v := nI (n + 1)) C hr hlk h ⟨rfl, rfl⟩ d_H_addThing_32

set_option maxHeartbeats 4000000 in
set_option maxRecDepth 100000 in
theorem k_H_answerCall (l : Launch) (D : va_G) (k3 : ClassId × ClassId × ClassId) (sz : Nat) (q : Nat → Nat) (u : sd_HS) (pt : Nat) (k : Nat) (j : Nat) (a : Int32) (hp : pt < 6) (hk : k < 5) (h1 : 1 ≤ j) (h9 : j ≤ 9) (hkp : hf_pk u pt = nI k) : Met l y_H_answerCall (sd_ws y_H_answerCall c_H_answerCall 6 (some FieldType.long)) ({ frames := 1, cells := 0, slots := 0, locals := 23 }) (sd_Pc D (sd_t3 k3) [.ref (q 0), .int (nI pt), .int (nI j), .int a] sz (sd_H k3 q u)) (sd_Ql D (sd_t3 k3) (va_A (sd_H k3 q u) sz) (fun r w => (hf_pw u pt = 0 ∧ r = hd_ans u pt (nI j) a ∧ w = sd_H k3 q (hd_work u pt k j a)) ∨ (¬ hf_pw u pt = 0 ∧ r = 0 ∧ w = sd_H k3 q (hd_tell u pt (nI j))))) 0 0 (va_A (sd_H k3 q u) sz) := by
  refine sd_met (cc := c_H_answerCall) (maxL := 6) (ret := some .long) (by decide) (Nat.le_of_ble_eq_true rfl) (fun p e s m below meth c C hr hlk hnm hsz h ls hl => ?_)
  generalize va_A (sd_H k3 q u) sz = A at h ⊢
  have hl : lv_has ls 6 [(0, .ref (q 0)), (1, .int (nI pt)), (2, .int (nI j)), (3, .int a)] := hl
  generalize hH : s.heap = H at h ⊢
  refine lv_aload_n C.1 C.2.1 d_H_answerCall_0 rfl (lv_at hl 0 rfl) ?_
  refine lv_iload_n C.1 C.2.1 d_H_answerCall_1 rfl (lv_at hl 1 rfl) ?_
  have h := sd_world h (ws' := ([]) ++ (sd_H k3 q u) ++ ([])) (by simp only [List.append_assoc, List.nil_append, List.append_nil])
  refine sd_calli h (va_runV (As := [.int (nI pt)]) (rest := []) C (k_H_isFailing l D k3 H.size q u pt hp) (sd_cwV 1 C.2.2.2.2 tb_321 tb_322 tb_323 tb_23 tb_324 rfl rfl (by decide +kernel) ⟨Nat.le_of_ble_eq_true rfl, Nat.le_of_ble_eq_true rfl⟩) (sd_preV h (q0 := 0) (T := T_H) (N := 16) rfl rfl) rfl rfl hl.1 rfl (lv_room (Nat.le_of_ble_eq_true rfl)) d_H_answerCall_2 ⟨Nat.le_of_ble_eq_true rfl, Nat.le_of_ble_eq_true rfl⟩) (fun r w1 H locs hq h => ?_)
  obtain ⟨rfl, rfl⟩ := hq
  have h := sd_world h (ws' := sd_H k3 q u) (by simp only [List.append_assoc, List.nil_append, List.append_nil])
  refine lv_if_eq (tgt := 16) C.1 C.2.1 d_H_answerCall_5 (by decide) (fun c5 => ?_) (fun c5 => ?_)
  · have hw : hf_pw u pt = 0 := Classical.byContradiction fun z => by rw [if_neg z] at c5; exact absurd c5 (by decide)
    refine lv_aload_n C.1 C.2.1 d_H_answerCall_16 rfl (lv_at hl 0 rfl) ?_
    refine lv_iload_n C.1 C.2.1 d_H_answerCall_17 rfl (lv_at hl 1 rfl) ?_
    refine lv_iload_n C.1 C.2.1 d_H_answerCall_18 rfl (lv_at hl 2 rfl) ?_
    refine lv_iload_n C.1 C.2.1 d_H_answerCall_19 rfl (lv_at hl 3 rfl) ?_
    have h := sd_world h (ws' := ([]) ++ (sd_H k3 q u) ++ ([])) (by simp only [List.append_assoc, List.nil_append, List.append_nil])
    refine sd_calll h (va_runV (As := [.int (nI pt), .int (nI j), .int a]) (rest := []) C (k_H_answerOf l D k3 H.size q u pt (nI j) a hp) (sd_cwV 3 C.2.2.2.2 tb_329 tb_330 tb_331 tb_23 tb_332 rfl rfl (by decide +kernel) ⟨Nat.le_of_ble_eq_true rfl, Nat.le_of_ble_eq_true rfl⟩) (sd_preV h (q0 := 0) (T := T_H) (N := 16) rfl rfl) rfl rfl hl.1 rfl (lv_room (Nat.le_of_ble_eq_true rfl)) d_H_answerCall_20 ⟨Nat.le_of_ble_eq_true rfl, Nat.le_of_ble_eq_true rfl⟩) (fun r w1 H locs hq h => ?_)
    obtain ⟨rfl, rfl⟩ := hq
    have h := sd_world h (ws' := sd_H k3 q u) (by simp only [List.append_assoc, List.nil_append, List.append_nil])
    refine lv_lstore (lv' := [(4, .long (hd_ans u pt (nI j) a)), (0, .ref (q 0)), (1, .int (nI pt)), (2, .int (nI j)), (3, .int a)]) C.1 C.2.1 d_H_answerCall_23 hl (by decide) rfl (fun ls hl => ?_)
    refine lv_aload_n C.1 C.2.1 d_H_answerCall_25 rfl (lv_at hl 1 rfl) ?_
    refine sd_get C h 0 2 (v := .ref (q 3)) (ci := 1) (Cn := "StockDesk$House") (T := T_H) (N := 16) rfl rfl (by decide) in_H tb_83 rfl d_H_answerCall_26 ?_
    refine lv_aload_n C.1 C.2.1 d_H_answerCall_29 rfl (lv_at hl 1 rfl) ?_
    refine sd_get C h 0 3 (v := .ref (q 4)) (ci := 1) (Cn := "StockDesk$House") (T := T_H) (N := 16) rfl rfl (by decide) in_H tb_84 rfl d_H_answerCall_30 ?_
    refine lv_iload_n C.1 C.2.1 d_H_answerCall_33 rfl (lv_at hl 2 rfl) ?_
    refine sd_iald C h 4 0 (i := pt) rfl rfl (by omega) (by decide) d_H_answerCall_34 ?_
    refine sd_top (v := .int ((hf_pk u) pt)) (v' := .int (nI k)) (congrArg Value.int (hkp)) ?_
    refine lv_iload_n C.1 C.2.1 d_H_answerCall_35 rfl (lv_at hl 3 rfl) ?_
    have h := sd_world h (ws' := ([]) ++ ([]) ++ (sd_H k3 q u)) (by simp only [List.append_assoc, List.nil_append, List.append_nil])
    refine sd_calli h (va_runS (As := [.int (nI k), .int (nI j)]) (rest := [.ref (q 3)]) C (k_H_slotOf l D k3 H.size k j h1) (sd_cwS 2 C.2.2.2.2 tb_173 tb_174 tb_23 tb_175 rfl rfl (by decide +kernel) ⟨Nat.le_of_ble_eq_true rfl, Nat.le_of_ble_eq_true rfl⟩) (sd_preS h) rfl rfl hl.1 rfl (lv_room (Nat.le_of_ble_eq_true rfl)) d_H_answerCall_36 ⟨Nat.le_of_ble_eq_true rfl, Nat.le_of_ble_eq_true rfl⟩) (fun r w1 H locs hq h => ?_)
    obtain ⟨rfl, rfl⟩ := hq
    have h := sd_world h (ws' := sd_H k3 q u) (by simp only [List.append_assoc, List.nil_append, List.append_nil])
    refine lv_dup2_11 C.1 C.2.1 d_H_answerCall_39 rfl rfl ?_
    refine sd_iald C h 3 0 (i := (k * 9 + j - 1)) rfl rfl (by omega) (by decide) d_H_answerCall_40 ?_
    refine lv_iconst (v := 1) C.1 C.2.1 d_H_answerCall_41 (by decide) ?_
    refine lv_iadd C.1 C.2.1 d_H_answerCall_42 ?_
    refine sd_iast C h 3 0 (i := (k * 9 + j - 1)) (ws' := sd_Hx k3 q (hf_md u) (hf_th u) (upd (hf_us u) (k * 9 + j - 1) (((hf_us u) (k * 9 + j - 1)) + 1)) (hf_pk u) (hf_pb u) (hf_pf u) (hf_pw u) (hf_wt u) (hf_fl u) (hf_tw u) (hf_tp u) (hf_tn u) (hf_an u) (hf_co u) (hf_s1 u) (hf_s2 u)) rfl rfl (by omega) (by decide) rfl d_H_answerCall_43 (fun H locs h => ?_)
    refine lv_aload_n C.1 C.2.1 d_H_answerCall_44 rfl (lv_at hl 1 rfl) ?_
    refine sd_get C h 0 7 (v := .ref (q 8)) (ci := 1) (Cn := "StockDesk$House") (T := T_H) (N := 16) rfl rfl (by decide) in_H tb_88 rfl d_H_answerCall_45 ?_
    refine lv_iload_n C.1 C.2.1 d_H_answerCall_48 rfl (lv_at hl 2 rfl) ?_
    refine lv_dup2_11 C.1 C.2.1 d_H_answerCall_49 rfl rfl ?_
    refine sd_lald C h 8 2 (i := pt) rfl rfl (by omega) (by decide) d_H_answerCall_50 ?_
    refine lv_iload_n C.1 C.2.1 d_H_answerCall_51 rfl (lv_at hl 4 rfl) ?_
    refine lv_i2l (v := a.toInt64) C.1 C.2.1 d_H_answerCall_52 rfl ?_
    refine lv_ladd C.1 C.2.1 d_H_answerCall_53 ?_
    refine sd_last C h 8 2 (i := pt) (ws' := sd_Hx k3 q (hf_md u) (hf_th u) (upd (hf_us u) (k * 9 + j - 1) (((hf_us u) (k * 9 + j - 1)) + 1)) (hf_pk u) (hf_pb u) (hf_pf u) (hf_pw u) (vp_updL (hf_wt u) pt (((hf_wt u) pt) + a.toInt64)) (hf_fl u) (hf_tw u) (hf_tp u) (hf_tn u) (hf_an u) (hf_co u) (hf_s1 u) (hf_s2 u)) rfl rfl (by omega) (by decide) rfl d_H_answerCall_54 (fun H locs h => ?_)
    refine lv_aload_n C.1 C.2.1 d_H_answerCall_55 rfl (lv_at hl 1 rfl) ?_
    refine lv_dup C.1 C.2.1 d_H_answerCall_56 rfl ?_
    refine sd_get C h 0 12 (v := .int (hf_an u)) (ci := 1) (Cn := "StockDesk$House") (T := T_H) (N := 16) rfl rfl (by decide) in_H tb_97 rfl d_H_answerCall_57 ?_
    refine lv_iconst (v := 1) C.1 C.2.1 d_H_answerCall_60 (by decide) ?_
    refine lv_iadd C.1 C.2.1 d_H_answerCall_61 ?_
    refine sd_put C h 0 12 (v := .int ((hf_an u) + 1)) (ci := 1) (Cn := "StockDesk$House") (T := T_H) (N := 16) (ty0 := ty_H) (ws' := sd_Hx k3 q (hf_md u) (hf_th u) (upd (hf_us u) (k * 9 + j - 1) (((hf_us u) (k * 9 + j - 1)) + 1)) (hf_pk u) (hf_pb u) (hf_pf u) (hf_pw u) (vp_updL (hf_wt u) pt (((hf_wt u) pt) + a.toInt64)) (hf_fl u) (hf_tw u) (hf_tp u) (hf_tn u) ((hf_an u) + 1) (hf_co u) (hf_s1 u) (hf_s2 u)) rfl rfl (by decide) in_H tyok_H nm_H tb_97 rfl rfl rfl rfl (Nat.le_of_ble_eq_true rfl) rfl d_H_answerCall_62 (fun H locs h => ?_)
    refine lv_lload C.1 C.2.1 d_H_answerCall_65 (lv_at hl 0 rfl) ?_
    have h := sd_world h (ws' := sd_H k3 q (hd_work u pt k j a)) (by simp only [sd_H, hd_make, hd_drop, hd_kind, hd_answer, hd_way, hd_tell, hd_work, hd_byte, hd_m, hd_ans, hf_md, hf_th, hf_us, hf_pk, hf_pb, hf_pf, hf_pw, hf_wt, hf_fl, hf_tw, hf_tp, hf_tn, hf_an, hf_co, hf_s1, hf_s2])
    exact sd_lret (v := hd_ans u pt (nI j) a) C hr hlk h (Or.inl ⟨hw, rfl, rfl⟩) d_H_answerCall_67
  · have hw : ¬ hf_pw u pt = 0 := fun z => c5 (if_pos z)
    refine lv_aload_n C.1 C.2.1 d_H_answerCall_8 rfl (lv_at hl 0 rfl) ?_
    refine lv_iload_n C.1 C.2.1 d_H_answerCall_9 rfl (lv_at hl 1 rfl) ?_
    refine lv_iload_n C.1 C.2.1 d_H_answerCall_10 rfl (lv_at hl 2 rfl) ?_
    have h := sd_world h (ws' := ([]) ++ (sd_H k3 q u) ++ ([])) (by simp only [List.append_assoc, List.nil_append, List.append_nil])
    refine sd_callv h (va_runV (As := [.int (nI pt), .int (nI j)]) (rest := []) C (k_H_tellFailure l D k3 H.size q u pt (nI j) hp) (sd_cwV 2 C.2.2.2.2 tb_325 tb_327 tb_11 tb_23 tb_328 rfl rfl (by decide +kernel) ⟨Nat.le_of_ble_eq_true rfl, Nat.le_of_ble_eq_true rfl⟩) (sd_preV h (q0 := 0) (T := T_H) (N := 16) rfl rfl) rfl rfl hl.1 rfl (lv_room (Nat.le_of_ble_eq_true rfl)) d_H_answerCall_11 ⟨Nat.le_of_ble_eq_true rfl, Nat.le_of_ble_eq_true rfl⟩) (fun w1 H locs hq h => ?_)
    obtain rfl := hq
    have h := sd_world h (ws' := sd_H k3 q (hd_tell u pt (nI j))) (by simp only [List.append_assoc, List.nil_append, List.append_nil])
    refine lv_lconst (v := 0) C.1 C.2.1 d_H_answerCall_14 (by decide) ?_
    exact sd_lret (v := 0) C hr hlk h (Or.inr ⟨hw, rfl, rfl⟩) d_H_answerCall_15
end
section
/-! clearing; the acts as a step; doing them in a row -/
def hd_z (f : Nat → Int32) : Nat → (Nat → Int32)
  | 0 => f
  | n + 1 => upd (hd_z f n) n 0
def hd_zk (f : Nat → Int32) : Nat → (Nat → Int32)
  | 0 => f
  | n + 1 => upd (hd_zk f n) n (nI (n % 5))
def hd_zl (f : Nat → Int64) : Nat → (Nat → Int64)
  | 0 => f
  | n + 1 => vp_updL (hd_zl f n) n 0
theorem hd_z_lt (f : Nat → Int32) (n i : Nat) (h : i < n) : hd_z f n i = 0 := by
  induction n with
  | zero => omega
  | succ n ih =>
    simp only [hd_z, upd]
    split
    · rfl
    · exact ih (by omega)
theorem hd_zk_lt (f : Nat → Int32) (n i : Nat) (h : i < n) : hd_zk f n i = nI (i % 5) := by
  induction n with
  | zero => omega
  | succ n ih =>
    simp only [hd_zk, upd]
    split
    · next e => rw [e]
    · exact ih (by omega)
theorem hd_zl_lt (f : Nat → Int64) (n i : Nat) (h : i < n) : hd_zl f n i = 0 := by
  induction n with
  | zero => omega
  | succ n ih =>
    simp only [hd_zl, vp_updL]
    split
    · rfl
    · exact ih (by omega)
def hd_cT (u : sd_HS) : sd_HS := (hd_z (hf_md u) 5, hd_z (hf_th u) 45, hd_z (hf_us u) 45, hf_pk u, hf_pb u, hf_pf u, hf_pw u, hf_wt u, hf_fl u, hf_tw u, hf_tp u, hf_tn u, hf_an u, hf_co u, hf_s1 u, hf_s2 u)
def hd_cP (u : sd_HS) : sd_HS := (hf_md u, hf_th u, hf_us u, hd_zk (hf_pk u) 6, hd_z (hf_pb u) 6, hd_z (hf_pf u) 6, hd_z (hf_pw u) 6, hd_zl (hf_wt u) 6, hf_fl u, hf_tw u, hf_tp u, hf_tn u, hf_an u, hf_co u, hf_s1 u, hf_s2 u)
/-- a house at its start -/
def sd_h0 : sd_HS := (fun _ => 0, fun _ => 0, fun _ => 0, fun i => nI (i % 5), fun _ => 0, fun _ => 0, fun _ => 0, fun _ => 0, 0, 0, -1, -1, 0, 0, 1, 0)
def sd_z0 : sd_HS := (fun _ => 0, fun _ => 0, fun _ => 0, fun _ => 0, fun _ => 0, fun _ => 0, fun _ => 0, fun _ => 0, 0, 0, 0, 0, 0, 0, 0, 0)
def hd_cl (u : sd_HS) : sd_HS := (hd_z (hf_md u) 5, hd_z (hf_th u) 45, hd_z (hf_us u) 45, hd_zk (hf_pk u) 6, hd_z (hf_pb u) 6, hd_z (hf_pf u) 6, hd_z (hf_pw u) 6, hd_zl (hf_wt u) 6, 0, 0, -1, -1, 0, 0, 1, 0)
theorem hd_cl_eq (u : sd_HS) : sd_heq (hd_cl u) sd_h0 :=
  ⟨fun i h => hd_z_lt _ _ _ h, fun i h => hd_z_lt _ _ _ h, fun i h => hd_z_lt _ _ _ h, fun i h => hd_zk_lt _ _ _ h, fun i h => hd_z_lt _ _ _ h, fun i h => hd_z_lt _ _ _ h, fun i h => hd_z_lt _ _ _ h, fun i h => hd_zl_lt _ _ _ h, rfl, rfl, rfl, rfl, rfl, rfl, rfl, rfl⟩
/-- things there of the first kinds; mn: how many were made -/
def hd_all (f : Nat → Int32) (mn : Nat → Nat) : Nat → Nat
  | 0 => 0
  | k + 1 => hd_all f mn k + hd_cnt f k (mn k)
def sd_q9 (h0 a1 a2 a3 a4 a5 a6 a7 a8 : Nat) : Nat → Nat := fun i => match i with
  | 0 => h0 | 1 => a1 | 2 => a2 | 3 => a3 | 4 => a4 | 5 => a5 | 6 => a6 | 7 => a7 | _ => a8
def sd_q5 (h0 a1 a2 a3 a4 : Nat) : Nat → Nat := fun i => match i with
  | 0 => h0 | 1 => a1 | 2 => a2 | 3 => a3 | _ => a4
/-- what an act (its sort, three numbers) does to a house, and answers -/
def sd_do (u : sd_HS) (a x y z : Int32) : sd_HS :=
  if a = 0 then hd_make u x.toNatClampNeg (hf_md u x.toNatClampNeg).toNatClampNeg
  else if a = 1 then hd_drop u x.toNatClampNeg y.toNatClampNeg
  else if a = 2 then hd_kind u x.toNatClampNeg y
  else if a = 3 then hd_answer u x.toNatClampNeg y z
  else if a = 4 then hd_way u x.toNatClampNeg y
  else if a = 5 then (if hf_pw u x.toNatClampNeg = 0 then hd_work u x.toNatClampNeg (hf_pk u x.toNatClampNeg).toNatClampNeg y.toNatClampNeg z else hd_tell u x.toNatClampNeg y)
  else hd_byte u x
def sd_an (u : sd_HS) (a x y z : Int32) : Int64 :=
  if a = 0 then (hf_md u x.toNatClampNeg + 1).toInt64
  else if a = 1 then (hf_us u (x.toNatClampNeg * 9 + y.toNatClampNeg - 1)).toInt64
  else if a = 2 then (hf_pk u x.toNatClampNeg).toInt64
  else if a = 3 then (0 : Int32).toInt64
  else if a = 4 then (hf_pw u x.toNatClampNeg).toInt64
  else if a = 5 then (if hf_pw u x.toNatClampNeg = 0 then hd_ans u x.toNatClampNeg y z else 0)
  else (hf_co u + 1).toInt64
/-- its numbers are in range, in this house -/
def sd_ok (u : sd_HS) (a x y : Int32) : Prop :=
  (a = 0 ∧ ∃ k n, k < 5 ∧ n < 9 ∧ x = nI k ∧ hf_md u k = nI n) ∨
  (a = 1 ∧ ∃ k j, k < 5 ∧ 1 ≤ j ∧ j ≤ 9 ∧ x = nI k ∧ y = nI j) ∨
  (a = 2 ∧ ∃ pt k, pt < 6 ∧ k < 5 ∧ x = nI pt ∧ y = nI k) ∨
  (a = 3 ∧ ∃ pt, pt < 6 ∧ x = nI pt) ∨
  (a = 4 ∧ ∃ pt, pt < 6 ∧ x = nI pt) ∨
  (a = 5 ∧ ∃ pt k j, pt < 6 ∧ k < 5 ∧ 1 ≤ j ∧ j ≤ 9 ∧ x = nI pt ∧ y = nI j ∧ hf_pk u pt = nI k) ∨
  a = 6
theorem sd_cl5 {k : Nat} (h : k < 9) : (nI k).toNatClampNeg = k := nI_clamp (by omega)
theorem sd_cl10 {k : Nat} (h : k ≤ 9) : (nI k).toNatClampNeg = k := nI_clamp (by omega)
/-- the house behind the first i acts of a row -/
def sd_run (f0 f1 f2 f3 : Nat → Int32) : Nat → sd_HS
  | 0 => sd_h0
  | i + 1 => sd_do (sd_run f0 f1 f2 f3 i) (f0 i) (f1 i) (f2 i) (f3 i)
set_option maxHeartbeats 4000000 in
set_option maxRecDepth 100000 in
theorem k_H_thereOf (l : Launch) (D : va_G) (k3 : ClassId × ClassId × ClassId) (sz : Nat) (q : Nat → Nat) (u : sd_HS) (k : Nat) (n : Nat) (hk : k < 5) (hn : n ≤ 9) (hm : hf_md u k = nI n) : Met l y_H_thereOf (sd_ws y_H_thereOf c_H_thereOf 4 (some FieldType.int)) ({ frames := 1, cells := 0, slots := 0, locals := 21 }) (sd_Pc D (sd_t3 k3) [.ref (q 0), .int (nI k)] sz (sd_H k3 q u)) (sd_Qi D (sd_t3 k3) (va_A (sd_H k3 q u) sz) (fun r w => r = nI (hd_cnt (hf_th u) k n) ∧ w = sd_H k3 q u)) 0 0 (va_A (sd_H k3 q u) sz) := by
  refine sd_met (cc := c_H_thereOf) (maxL := 4) (ret := some .int) (by decide) (Nat.le_of_ble_eq_true rfl) (fun p e s m below meth c C hr hlk hnm hsz h ls hl => ?_)
  generalize va_A (sd_H k3 q u) sz = A at h ⊢
  have hl : lv_has ls 4 [(0, .ref (q 0)), (1, .int (nI k))] := hl
  generalize hH : s.heap = H at h ⊢
  refine lv_iconst (v := 0) C.1 C.2.1 d_H_thereOf_0 (by decide) ?_
  refine lv_istore_n (lv' := [(2, .int 0), (0, .ref (q 0)), (1, .int (nI k))]) C.1 C.2.1 d_H_thereOf_1 rfl hl (by decide) rfl (fun ls hl => ?_)
  refine lv_iconst (v := 1) C.1 C.2.1 d_H_thereOf_2 (by decide) ?_
  refine lv_istore_n (lv' := [(3, .int 1), (2, .int 0), (0, .ref (q 0)), (1, .int (nI k))]) C.1 C.2.1 d_H_thereOf_3 rfl hl (by decide) rfl (fun ls hl => ?_)
  have loop : ∀ (d i : Nat), i + d = n → ∀ (H : Heap) (locs : List Loc) (ls : Array Slot), sd_w D A s (sd_t3 k3) (sd_H k3 q u) H locs → lv_has ls 4 [(0, .ref (q 0)), (1, .int (nI k)), (2, .int (nI (hd_cnt (hf_th u) k i))), (3, .int (nI (i + 1)))] → W p l e ({ frames := 1, cells := 0, slots := 0, locals := 21 }) s m [.ref (q 0), .int (nI k)].toArray below meth c H locs 0 0 (MQ below (sd_Qi D (sd_t3 k3) (A) (fun r w => r = nI (hd_cnt (hf_th u) k n) ∧ w = sd_H k3 q u)) [.ref (q 0), .int (nI k)].toArray s 0 0 A) (F0 m 4 ls []) := by
    intro d
    induction d with
    | zero =>
      intro i hi H locs ls h hl
      have hi : n = i := by omega
      subst hi
      refine lv_iload_n C.1 C.2.1 d_H_thereOf_4 rfl (lv_at hl 3 rfl) ?_
      refine lv_aload_n C.1 C.2.1 d_H_thereOf_5 rfl (lv_at hl 0 rfl) ?_
      refine sd_get C h 0 0 (v := .ref (q 1)) (ci := 1) (Cn := "StockDesk$House") (T := T_H) (N := 16) rfl rfl (by decide) in_H tb_81 rfl d_H_thereOf_6 ?_
      refine lv_iload_n C.1 C.2.1 d_H_thereOf_9 rfl (lv_at hl 1 rfl) ?_
      refine sd_iald C h 1 0 (i := k) rfl rfl (by omega) (by decide) d_H_thereOf_10 ?_
      refine sd_top (v := .int ((hf_md u) k)) (v' := .int (nI n)) (congrArg Value.int (hm)) ?_
      refine lv_icmp_gt (tgt := 36) C.1 C.2.1 d_H_thereOf_11 (by decide) (fun c11 => ?_) (fun c11 => ?_)
      · refine lv_iload_n C.1 C.2.1 d_H_thereOf_36 rfl (lv_at hl 2 rfl) ?_
        exact sd_iret (v := nI (hd_cnt (hf_th u) k n)) C hr hlk h ⟨rfl, rfl⟩ d_H_thereOf_37
      · exact absurd (nI_lt (a := n) (b := n + 1) (by omega) (by omega)) c11
    | succ d ih =>
      intro i hi H locs ls h hl
      refine lv_iload_n C.1 C.2.1 d_H_thereOf_4 rfl (lv_at hl 3 rfl) ?_
      refine lv_aload_n C.1 C.2.1 d_H_thereOf_5 rfl (lv_at hl 0 rfl) ?_
      refine sd_get C h 0 0 (v := .ref (q 1)) (ci := 1) (Cn := "StockDesk$House") (T := T_H) (N := 16) rfl rfl (by decide) in_H tb_81 rfl d_H_thereOf_6 ?_
      refine lv_iload_n C.1 C.2.1 d_H_thereOf_9 rfl (lv_at hl 1 rfl) ?_
      refine sd_iald C h 1 0 (i := k) rfl rfl (by omega) (by decide) d_H_thereOf_10 ?_
      refine sd_top (v := .int ((hf_md u) k)) (v' := .int (nI n)) (congrArg Value.int (hm)) ?_
      refine lv_icmp_gt (tgt := 36) C.1 C.2.1 d_H_thereOf_11 (by decide) (fun c11 => ?_) (fun c11 => ?_)
      · exact absurd c11 (nI_nlt (by omega) (by omega))
      · refine lv_aload_n C.1 C.2.1 d_H_thereOf_14 rfl (lv_at hl 0 rfl) ?_
        refine sd_get C h 0 1 (v := .ref (q 2)) (ci := 1) (Cn := "StockDesk$House") (T := T_H) (N := 16) rfl rfl (by decide) in_H tb_82 rfl d_H_thereOf_15 ?_
        refine lv_iload_n C.1 C.2.1 d_H_thereOf_18 rfl (lv_at hl 1 rfl) ?_
        refine lv_iload_n C.1 C.2.1 d_H_thereOf_19 rfl (lv_at hl 3 rfl) ?_
        have h := sd_world h (ws' := ([]) ++ ([]) ++ (sd_H k3 q u)) (by simp only [List.append_assoc, List.nil_append, List.append_nil])
        refine sd_calli h (va_runS (As := [.int (nI k), .int (nI (i + 1))]) (rest := [.ref (q 2)]) C (k_H_slotOf l D k3 H.size k (i + 1) (by omega : 1 ≤ i + 1)) (sd_cwS 2 C.2.2.2.2 tb_173 tb_174 tb_23 tb_175 rfl rfl (by decide +kernel) ⟨Nat.le_of_ble_eq_true rfl, Nat.le_of_ble_eq_true rfl⟩) (sd_preS h) rfl rfl hl.1 rfl (lv_room (Nat.le_of_ble_eq_true rfl)) d_H_thereOf_20 ⟨Nat.le_of_ble_eq_true rfl, Nat.le_of_ble_eq_true rfl⟩) (fun r w1 H locs hq h => ?_)
        obtain ⟨rfl, rfl⟩ := hq
        have h := sd_world h (ws' := sd_H k3 q u) (by simp only [List.append_assoc, List.nil_append, List.append_nil])
        refine sd_zald C h 2 1 (i := (k * 9 + (i + 1) - 1)) rfl rfl (by omega) (by decide) d_H_thereOf_23 ?_
        refine lv_if_eq (tgt := 30) C.1 C.2.1 d_H_thereOf_24 (by decide) (fun c24 => ?_) (fun c24 => ?_)
        · refine lv_iinc (v := nI ((i + 1) + 1)) (lv' := [(3, .int (nI ((i + 1) + 1))), (0, .ref (q 0)), (1, .int (nI k)), (2, .int (nI (hd_cnt (hf_th u) k i)))]) C.1 C.2.1 d_H_thereOf_30 hl (k := 3) rfl (nI_1 (i + 1)) (by decide) rfl (fun ls hl => ?_)
          refine lv_goto (tgt := 4) C.1 C.2.1 d_H_thereOf_33 (by decide) ?_
          have e9 : hd_cnt (hf_th u) k (i + 1) = hd_cnt (hf_th u) k i := by simp only [hd_cnt]; rw [if_pos c24]; rfl
          exact ih (i + 1) (by omega) _ _ _ h (by rw [e9]; exact lv_sub hl [1, 2, 3, 0] rfl)
        · refine lv_iinc (v := nI ((hd_cnt (hf_th u) k i) + 1)) (lv' := [(2, .int (nI ((hd_cnt (hf_th u) k i) + 1))), (0, .ref (q 0)), (1, .int (nI k)), (3, .int (nI (i + 1)))]) C.1 C.2.1 d_H_thereOf_27 hl (k := 2) rfl (nI_1 (hd_cnt (hf_th u) k i)) (by decide) rfl (fun ls hl => ?_)
          refine lv_iinc (v := nI ((i + 1) + 1)) (lv' := [(3, .int (nI ((i + 1) + 1))), (2, .int (nI ((hd_cnt (hf_th u) k i) + 1))), (0, .ref (q 0)), (1, .int (nI k))]) C.1 C.2.1 d_H_thereOf_30 hl (k := 3) rfl (nI_1 (i + 1)) (by decide) rfl (fun ls hl => ?_)
          refine lv_goto (tgt := 4) C.1 C.2.1 d_H_thereOf_33 (by decide) ?_
          have e9 : hd_cnt (hf_th u) k (i + 1) = hd_cnt (hf_th u) k i + 1 := by simp only [hd_cnt]; rw [if_neg c24]
          exact ih (i + 1) (by omega) _ _ _ h (by rw [e9]; exact lv_sub hl [2, 3, 1, 0] rfl)
  exact loop (n - 0) 0 (by omega) _ _ _ h (lv_sub hl [2, 3, 1, 0] rfl)

set_option maxHeartbeats 4000000 in
set_option maxRecDepth 100000 in
theorem k_H_thereOfAll (l : Launch) (D : va_G) (k3 : ClassId × ClassId × ClassId) (sz : Nat) (q : Nat → Nat) (u : sd_HS) (mn : Nat → Nat) (hmn : ∀ k, k < 5 → mn k ≤ 9 ∧ hf_md u k = nI (mn k)) : Met l y_H_thereOfAll (sd_ws y_H_thereOfAll c_H_thereOfAll 3 (some FieldType.int)) ({ frames := 2, cells := 0, slots := 0, locals := 44 }) (sd_Pc D (sd_t3 k3) [.ref (q 0)] sz (sd_H k3 q u)) (sd_Qi D (sd_t3 k3) (va_A (sd_H k3 q u) sz) (fun r w => r = nI (hd_all (hf_th u) mn 5) ∧ w = sd_H k3 q u)) 0 0 (va_A (sd_H k3 q u) sz) := by
  refine sd_met (cc := c_H_thereOfAll) (maxL := 3) (ret := some .int) (by decide) (Nat.le_of_ble_eq_true rfl) (fun p e s m below meth c C hr hlk hnm hsz h ls hl => ?_)
  generalize va_A (sd_H k3 q u) sz = A at h ⊢
  have hl : lv_has ls 3 [(0, .ref (q 0))] := hl
  generalize hH : s.heap = H at h ⊢
  refine lv_iconst (v := 0) C.1 C.2.1 d_H_thereOfAll_0 (by decide) ?_
  refine lv_istore_n (lv' := [(1, .int 0), (0, .ref (q 0))]) C.1 C.2.1 d_H_thereOfAll_1 rfl hl (by decide) rfl (fun ls hl => ?_)
  refine lv_iconst (v := 0) C.1 C.2.1 d_H_thereOfAll_2 (by decide) ?_
  refine lv_istore_n (lv' := [(2, .int 0), (1, .int 0), (0, .ref (q 0))]) C.1 C.2.1 d_H_thereOfAll_3 rfl hl (by decide) rfl (fun ls hl => ?_)
  have loop : ∀ (d i : Nat), i + d = 5 → ∀ (H : Heap) (locs : List Loc) (ls : Array Slot), sd_w D A s (sd_t3 k3) (sd_H k3 q u) H locs → lv_has ls 3 [(0, .ref (q 0)), (1, .int (nI (hd_all (hf_th u) mn i))), (2, .int (nI i))] → W p l e ({ frames := 2, cells := 0, slots := 0, locals := 44 }) s m [.ref (q 0)].toArray below meth c H locs 0 0 (MQ below (sd_Qi D (sd_t3 k3) (A) (fun r w => r = nI (hd_all (hf_th u) mn 5) ∧ w = sd_H k3 q u)) [.ref (q 0)].toArray s 0 0 A) (F0 m 4 ls []) := by
    intro d
    induction d with
    | zero =>
      intro i hi H locs ls h hl
      have hi : 5 = i := by omega
      subst hi
      refine lv_iload_n C.1 C.2.1 d_H_thereOfAll_4 rfl (lv_at hl 2 rfl) ?_
      refine lv_iconst (v := 5) C.1 C.2.1 d_H_thereOfAll_5 (by decide) ?_
      refine lv_icmp_ge (tgt := 23) C.1 C.2.1 d_H_thereOfAll_6 (by decide) (fun c6 => ?_) (fun c6 => ?_)
      · refine lv_iload_n C.1 C.2.1 d_H_thereOfAll_23 rfl (lv_at hl 1 rfl) ?_
        exact sd_iret (v := nI (hd_all (hf_th u) mn 5)) C hr hlk h ⟨rfl, rfl⟩ d_H_thereOfAll_24
      · exact absurd (nI_le (a := 5) (b := 5) (by omega) (by decide)) c6
    | succ d ih =>
      intro i hi H locs ls h hl
      refine lv_iload_n C.1 C.2.1 d_H_thereOfAll_4 rfl (lv_at hl 2 rfl) ?_
      refine lv_iconst (v := 5) C.1 C.2.1 d_H_thereOfAll_5 (by decide) ?_
      refine lv_icmp_ge (tgt := 23) C.1 C.2.1 d_H_thereOfAll_6 (by decide) (fun c6 => ?_) (fun c6 => ?_)
      · exact absurd c6 (nI_ge (a := i) (b := 5) (by omega) (by decide))
      · refine lv_iload_n C.1 C.2.1 d_H_thereOfAll_9 rfl (lv_at hl 1 rfl) ?_
        refine lv_aload_n C.1 C.2.1 d_H_thereOfAll_10 rfl (lv_at hl 0 rfl) ?_
        refine lv_iload_n C.1 C.2.1 d_H_thereOfAll_11 rfl (lv_at hl 2 rfl) ?_
        have h := sd_world h (ws' := ([]) ++ (sd_H k3 q u) ++ ([])) (by simp only [List.append_assoc, List.nil_append, List.append_nil])
        refine sd_calli h (va_runV (As := [.int (nI i)]) (rest := [.int (nI (hd_all (hf_th u) mn i))]) C (k_H_thereOf l D k3 H.size q u i (mn i) (by omega : i < 5) ((hmn i (by omega)).1) ((hmn i (by omega)).2)) (sd_cwV 1 C.2.2.2.2 tb_169 tb_170 tb_171 tb_23 tb_172 rfl rfl (by decide +kernel) ⟨Nat.le_of_ble_eq_true rfl, Nat.le_of_ble_eq_true rfl⟩) (sd_preV h (q0 := 0) (T := T_H) (N := 16) rfl rfl) rfl rfl hl.1 rfl (lv_room (Nat.le_of_ble_eq_true rfl)) d_H_thereOfAll_12 ⟨Nat.le_of_ble_eq_true rfl, Nat.le_of_ble_eq_true rfl⟩) (fun r w1 H locs hq h => ?_)
        obtain ⟨rfl, rfl⟩ := hq
        have h := sd_world h (ws' := sd_H k3 q u) (by simp only [List.append_assoc, List.nil_append, List.append_nil])
        refine lv_iadd C.1 C.2.1 d_H_thereOfAll_15 ?_
        refine sd_top (v := .int ((nI (hd_all (hf_th u) mn i)) + (nI (hd_cnt (hf_th u) i (mn i))))) (v' := .int (nI (hd_all (hf_th u) mn i + hd_cnt (hf_th u) i (mn i)))) (congrArg Value.int (nI_add _ _)) ?_
        refine lv_istore_n (lv' := [(1, .int (nI (hd_all (hf_th u) mn i + hd_cnt (hf_th u) i (mn i)))), (0, .ref (q 0)), (2, .int (nI i))]) C.1 C.2.1 d_H_thereOfAll_16 rfl hl (by decide) rfl (fun ls hl => ?_)
        refine lv_iinc (v := nI (i + 1)) (lv' := [(2, .int (nI (i + 1))), (1, .int (nI (hd_all (hf_th u) mn i + hd_cnt (hf_th u) i (mn i)))), (0, .ref (q 0))]) C.1 C.2.1 d_H_thereOfAll_17 hl (k := 2) rfl (nI_1 i) (by decide) rfl (fun ls hl => ?_)
        refine lv_goto (tgt := 4) C.1 C.2.1 d_H_thereOfAll_20 (by decide) ?_
        exact ih (i + 1) (by omega) _ _ _ h (lv_sub hl [2, 1, 0] rfl)
  exact loop (5 - 0) 0 (by omega) _ _ _ h (lv_sub hl [2, 1, 0] rfl)

set_option maxHeartbeats 4000000 in
set_option maxRecDepth 100000 in
theorem k_H_perform (l : Launch) (D : va_G) (k3 : ClassId × ClassId × ClassId) (sz : Nat) (q : Nat → Nat) (u : sd_HS) (a : Int32) (x : Int32) (y : Int32) (z : Int32) (hok : sd_ok u a x y) : Met l y_H_perform (sd_ws y_H_perform c_H_perform 5 (some FieldType.long)) ({ frames := 2, cells := 0, slots := 0, locals := 48 }) (sd_Pc D (sd_t3 k3) [.ref (q 0), .int a, .int x, .int y, .int z] sz (sd_H k3 q u)) (sd_Ql D (sd_t3 k3) (va_A (sd_H k3 q u) sz) (fun r w => r = sd_an u a x y z ∧ w = sd_H k3 q (sd_do u a x y z))) 0 0 (va_A (sd_H k3 q u) sz) := by
  refine sd_met (cc := c_H_perform) (maxL := 5) (ret := some .long) (by decide) (Nat.le_of_ble_eq_true rfl) (fun p e s m below meth c C hr hlk hnm hsz h ls hl => ?_)
  generalize va_A (sd_H k3 q u) sz = A at h ⊢
  have hl : lv_has ls 5 [(0, .ref (q 0)), (1, .int a), (2, .int x), (3, .int y), (4, .int z)] := hl
  generalize hH : s.heap = H at h ⊢
  rcases hok with ⟨rfl, k, n, hk, hn, rfl, hm⟩ | ⟨rfl, k, j, hk, h1, h9, rfl, rfl⟩ | ⟨rfl, pt, k, hp, hk, rfl, rfl⟩ | ⟨rfl, pt, hp, rfl⟩ | ⟨rfl, pt, hp, rfl⟩ | ⟨rfl, pt, k, j, hp, hk, h1, h9, rfl, rfl, hkp⟩ | rfl
  · have hl : lv_has ls 5 [(0, .ref (q 0)), (1, .int 0), (2, .int (nI k)), (3, .int y), (4, .int z)] := hl
    refine lv_iload_n C.1 C.2.1 d_H_perform_0 rfl (lv_at hl 1 rfl) ?_
    refine lv_tableIn C.1 C.2.1 d_H_perform_1 (off := 43) (tgt := 44) (by decide) (by decide) (by decide) (by decide) ?_
    refine lv_aload_n C.1 C.2.1 d_H_perform_44 rfl (lv_at hl 0 rfl) ?_
    refine lv_iload_n C.1 C.2.1 d_H_perform_45 rfl (lv_at hl 2 rfl) ?_
    have h := sd_world h (ws' := ([]) ++ (sd_H k3 q u) ++ ([])) (by simp only [List.append_assoc, List.nil_append, List.append_nil])
    refine sd_calli h (va_runV (As := [.int (nI k)]) (rest := []) C (k_H_addThing l D k3 H.size q u k n hk hn hm) (sd_cwV 1 C.2.2.2.2 tb_297 tb_299 tb_5 tb_23 tb_300 rfl rfl (by decide +kernel) ⟨Nat.le_of_ble_eq_true rfl, Nat.le_of_ble_eq_true rfl⟩) (sd_preV h (q0 := 0) (T := T_H) (N := 16) rfl rfl) rfl rfl hl.1 rfl (lv_room (Nat.le_of_ble_eq_true rfl)) d_H_perform_46 ⟨Nat.le_of_ble_eq_true rfl, Nat.le_of_ble_eq_true rfl⟩) (fun r w1 H locs hq h => ?_)
    obtain ⟨rfl, rfl⟩ := hq
    have h := sd_world h (ws' := sd_H k3 q (hd_make u k n)) (by simp only [List.append_assoc, List.nil_append, List.append_nil])
    refine lv_i2l (v := (nI (n + 1)).toInt64) C.1 C.2.1 d_H_perform_49 rfl ?_
    exact sd_lret (v := (nI (n + 1)).toInt64) C hr hlk h ⟨by simp only [sd_an, sd_cl5 (show k < 9 by omega), hm, nI_1, if_true], by simp only [sd_do, sd_cl5 (show k < 9 by omega), hm, sd_cl5 hn, if_true]⟩ d_H_perform_50
  · have hl : lv_has ls 5 [(0, .ref (q 0)), (1, .int 1), (2, .int (nI k)), (3, .int (nI j)), (4, .int z)] := hl
    refine lv_iload_n C.1 C.2.1 d_H_perform_0 rfl (lv_at hl 1 rfl) ?_
    refine lv_tableIn C.1 C.2.1 d_H_perform_1 (off := 50) (tgt := 51) (by decide) (by decide) (by decide) (by decide) ?_
    refine lv_aload_n C.1 C.2.1 d_H_perform_51 rfl (lv_at hl 0 rfl) ?_
    refine lv_iload_n C.1 C.2.1 d_H_perform_52 rfl (lv_at hl 2 rfl) ?_
    refine lv_iload_n C.1 C.2.1 d_H_perform_53 rfl (lv_at hl 3 rfl) ?_
    have h := sd_world h (ws' := ([]) ++ (sd_H k3 q u) ++ ([])) (by simp only [List.append_assoc, List.nil_append, List.append_nil])
    refine sd_calli h (va_runV (As := [.int (nI k), .int (nI j)]) (rest := []) C (k_H_removeThing l D k3 H.size q u k j hk h1 h9) (sd_cwV 2 C.2.2.2.2 tb_301 tb_303 tb_6 tb_23 tb_304 rfl rfl (by decide +kernel) ⟨Nat.le_of_ble_eq_true rfl, Nat.le_of_ble_eq_true rfl⟩) (sd_preV h (q0 := 0) (T := T_H) (N := 16) rfl rfl) rfl rfl hl.1 rfl (lv_room (Nat.le_of_ble_eq_true rfl)) d_H_perform_54 ⟨Nat.le_of_ble_eq_true rfl, Nat.le_of_ble_eq_true rfl⟩) (fun r w1 H locs hq h => ?_)
    obtain ⟨rfl, rfl⟩ := hq
    have h := sd_world h (ws' := sd_H k3 q (hd_drop u k j)) (by simp only [List.append_assoc, List.nil_append, List.append_nil])
    refine lv_i2l (v := (hf_us u (k * 9 + j - 1)).toInt64) C.1 C.2.1 d_H_perform_57 rfl ?_
    exact sd_lret (v := (hf_us u (k * 9 + j - 1)).toInt64) C hr hlk h ⟨by simp only [sd_an, sd_cl5 (show k < 9 by omega), sd_cl10 h9]; rfl, by simp only [sd_do, sd_cl5 (show k < 9 by omega), sd_cl10 h9]; rfl⟩ d_H_perform_58
  · have hl : lv_has ls 5 [(0, .ref (q 0)), (1, .int 2), (2, .int (nI pt)), (3, .int (nI k)), (4, .int z)] := hl
    refine lv_iload_n C.1 C.2.1 d_H_perform_0 rfl (lv_at hl 1 rfl) ?_
    refine lv_tableIn C.1 C.2.1 d_H_perform_1 (off := 58) (tgt := 59) (by decide) (by decide) (by decide) (by decide) ?_
    refine lv_aload_n C.1 C.2.1 d_H_perform_59 rfl (lv_at hl 0 rfl) ?_
    refine lv_iload_n C.1 C.2.1 d_H_perform_60 rfl (lv_at hl 2 rfl) ?_
    refine lv_iload_n C.1 C.2.1 d_H_perform_61 rfl (lv_at hl 3 rfl) ?_
    have h := sd_world h (ws' := ([]) ++ (sd_H k3 q u) ++ ([])) (by simp only [List.append_assoc, List.nil_append, List.append_nil])
    refine sd_calli h (va_runV (As := [.int (nI pt), .int (nI k)]) (rest := []) C (k_H_setKind l D k3 H.size q u pt (nI k) hp) (sd_cwV 2 C.2.2.2.2 tb_305 tb_307 tb_7 tb_23 tb_308 rfl rfl (by decide +kernel) ⟨Nat.le_of_ble_eq_true rfl, Nat.le_of_ble_eq_true rfl⟩) (sd_preV h (q0 := 0) (T := T_H) (N := 16) rfl rfl) rfl rfl hl.1 rfl (lv_room (Nat.le_of_ble_eq_true rfl)) d_H_perform_62 ⟨Nat.le_of_ble_eq_true rfl, Nat.le_of_ble_eq_true rfl⟩) (fun r w1 H locs hq h => ?_)
    obtain ⟨rfl, rfl⟩ := hq
    have h := sd_world h (ws' := sd_H k3 q (hd_kind u pt (nI k))) (by simp only [List.append_assoc, List.nil_append, List.append_nil])
    refine lv_i2l (v := (hf_pk u pt).toInt64) C.1 C.2.1 d_H_perform_65 rfl ?_
    exact sd_lret (v := (hf_pk u pt).toInt64) C hr hlk h ⟨by simp only [sd_an, sd_cl5 (show pt < 9 by omega)]; rfl, by simp only [sd_do, sd_cl5 (show pt < 9 by omega)]; rfl⟩ d_H_perform_66
  · have hl : lv_has ls 5 [(0, .ref (q 0)), (1, .int 3), (2, .int (nI pt)), (3, .int y), (4, .int z)] := hl
    refine lv_iload_n C.1 C.2.1 d_H_perform_0 rfl (lv_at hl 1 rfl) ?_
    refine lv_tableIn C.1 C.2.1 d_H_perform_1 (off := 66) (tgt := 67) (by decide) (by decide) (by decide) (by decide) ?_
    refine lv_aload_n C.1 C.2.1 d_H_perform_67 rfl (lv_at hl 0 rfl) ?_
    refine lv_iload_n C.1 C.2.1 d_H_perform_68 rfl (lv_at hl 2 rfl) ?_
    refine lv_iload_n C.1 C.2.1 d_H_perform_69 rfl (lv_at hl 3 rfl) ?_
    refine lv_iload C.1 C.2.1 d_H_perform_70 (lv_at hl 4 rfl) ?_
    have h := sd_world h (ws' := ([]) ++ (sd_H k3 q u) ++ ([])) (by simp only [List.append_assoc, List.nil_append, List.append_nil])
    refine sd_calli h (va_runV (As := [.int (nI pt), .int y, .int z]) (rest := []) C (k_H_setAnswer l D k3 H.size q u pt y z hp) (sd_cwV 3 C.2.2.2.2 tb_309 tb_311 tb_8 tb_23 tb_312 rfl rfl (by decide +kernel) ⟨Nat.le_of_ble_eq_true rfl, Nat.le_of_ble_eq_true rfl⟩) (sd_preV h (q0 := 0) (T := T_H) (N := 16) rfl rfl) rfl rfl hl.1 rfl (lv_room (Nat.le_of_ble_eq_true rfl)) d_H_perform_72 ⟨Nat.le_of_ble_eq_true rfl, Nat.le_of_ble_eq_true rfl⟩) (fun r w1 H locs hq h => ?_)
    obtain ⟨rfl, rfl⟩ := hq
    have h := sd_world h (ws' := sd_H k3 q (hd_answer u pt y z)) (by simp only [List.append_assoc, List.nil_append, List.append_nil])
    refine lv_i2l (v := (0 : Int32).toInt64) C.1 C.2.1 d_H_perform_75 rfl ?_
    exact sd_lret (v := (0 : Int32).toInt64) C hr hlk h ⟨by simp only [sd_an]; rfl, by simp only [sd_do, sd_cl5 (show pt < 9 by omega)]; rfl⟩ d_H_perform_76
  · have hl : lv_has ls 5 [(0, .ref (q 0)), (1, .int 4), (2, .int (nI pt)), (3, .int y), (4, .int z)] := hl
    refine lv_iload_n C.1 C.2.1 d_H_perform_0 rfl (lv_at hl 1 rfl) ?_
    refine lv_tableIn C.1 C.2.1 d_H_perform_1 (off := 76) (tgt := 77) (by decide) (by decide) (by decide) (by decide) ?_
    refine lv_aload_n C.1 C.2.1 d_H_perform_77 rfl (lv_at hl 0 rfl) ?_
    refine lv_iload_n C.1 C.2.1 d_H_perform_78 rfl (lv_at hl 2 rfl) ?_
    refine lv_iload_n C.1 C.2.1 d_H_perform_79 rfl (lv_at hl 3 rfl) ?_
    have h := sd_world h (ws' := ([]) ++ (sd_H k3 q u) ++ ([])) (by simp only [List.append_assoc, List.nil_append, List.append_nil])
    refine sd_calli h (va_runV (As := [.int (nI pt), .int y]) (rest := []) C (k_H_setWay l D k3 H.size q u pt y hp) (sd_cwV 2 C.2.2.2.2 tb_313 tb_315 tb_9 tb_23 tb_316 rfl rfl (by decide +kernel) ⟨Nat.le_of_ble_eq_true rfl, Nat.le_of_ble_eq_true rfl⟩) (sd_preV h (q0 := 0) (T := T_H) (N := 16) rfl rfl) rfl rfl hl.1 rfl (lv_room (Nat.le_of_ble_eq_true rfl)) d_H_perform_80 ⟨Nat.le_of_ble_eq_true rfl, Nat.le_of_ble_eq_true rfl⟩) (fun r w1 H locs hq h => ?_)
    obtain ⟨rfl, rfl⟩ := hq
    have h := sd_world h (ws' := sd_H k3 q (hd_way u pt y)) (by simp only [List.append_assoc, List.nil_append, List.append_nil])
    refine lv_i2l (v := (hf_pw u pt).toInt64) C.1 C.2.1 d_H_perform_83 rfl ?_
    exact sd_lret (v := (hf_pw u pt).toInt64) C hr hlk h ⟨by simp only [sd_an, sd_cl5 (show pt < 9 by omega)]; rfl, by simp only [sd_do, sd_cl5 (show pt < 9 by omega)]; rfl⟩ d_H_perform_84
  · have hl : lv_has ls 5 [(0, .ref (q 0)), (1, .int 5), (2, .int (nI pt)), (3, .int (nI j)), (4, .int z)] := hl
    refine lv_iload_n C.1 C.2.1 d_H_perform_0 rfl (lv_at hl 1 rfl) ?_
    refine lv_tableIn C.1 C.2.1 d_H_perform_1 (off := 84) (tgt := 85) (by decide) (by decide) (by decide) (by decide) ?_
    refine lv_aload_n C.1 C.2.1 d_H_perform_85 rfl (lv_at hl 0 rfl) ?_
    refine lv_iload_n C.1 C.2.1 d_H_perform_86 rfl (lv_at hl 2 rfl) ?_
    refine lv_iload_n C.1 C.2.1 d_H_perform_87 rfl (lv_at hl 3 rfl) ?_
    refine lv_iload C.1 C.2.1 d_H_perform_88 (lv_at hl 4 rfl) ?_
    have h := sd_world h (ws' := ([]) ++ (sd_H k3 q u) ++ ([])) (by simp only [List.append_assoc, List.nil_append, List.append_nil])
    refine sd_calll h (va_runV (As := [.int (nI pt), .int (nI j), .int z]) (rest := []) C (k_H_answerCall l D k3 H.size q u pt k j z hp hk h1 h9 hkp) (sd_cwV 3 C.2.2.2.2 tb_317 tb_319 tb_10 tb_23 tb_320 rfl rfl (by decide +kernel) ⟨Nat.le_of_ble_eq_true rfl, Nat.le_of_ble_eq_true rfl⟩) (sd_preV h (q0 := 0) (T := T_H) (N := 16) rfl rfl) rfl rfl hl.1 rfl (lv_room (Nat.le_of_ble_eq_true rfl)) d_H_perform_90 ⟨Nat.le_of_ble_eq_true rfl, Nat.le_of_ble_eq_true rfl⟩) (fun r w1 H locs hq h => ?_)
    have hq : r = sd_an u 5 (nI pt) (nI j) z ∧ w1 = sd_H k3 q (sd_do u 5 (nI pt) (nI j) z) := by
      rcases hq with ⟨e1, e2, e3⟩ | ⟨e1, e2, e3⟩
      · refine ⟨e2.trans ?_, e3.trans ?_⟩
        · simp only [sd_an, sd_cl5 (show pt < 9 by omega), e1]; rfl
        · simp only [sd_do, sd_cl5 (show pt < 9 by omega), sd_cl10 h9, hkp, sd_cl5 (show k < 9 by omega), e1]; rfl
      · refine ⟨e2.trans ?_, e3.trans ?_⟩
        · simp only [sd_an, sd_cl5 (show pt < 9 by omega), if_neg e1]; rfl
        · simp only [sd_do, sd_cl5 (show pt < 9 by omega), if_neg e1]; rfl
    obtain ⟨rfl, rfl⟩ := hq
    have h := sd_world h (ws' := sd_H k3 q (sd_do u 5 (nI pt) (nI j) z)) (by simp only [List.append_assoc, List.nil_append, List.append_nil])
    exact sd_lret (v := sd_an u 5 (nI pt) (nI j) z) C hr hlk h ⟨rfl, rfl⟩ d_H_perform_93
  · have hl : lv_has ls 5 [(0, .ref (q 0)), (1, .int 6), (2, .int x), (3, .int y), (4, .int z)] := hl
    refine lv_iload_n C.1 C.2.1 d_H_perform_0 rfl (lv_at hl 1 rfl) ?_
    refine lv_tableIn C.1 C.2.1 d_H_perform_1 (off := 93) (tgt := 94) (by decide) (by decide) (by decide) (by decide) ?_
    refine lv_aload_n C.1 C.2.1 d_H_perform_94 rfl (lv_at hl 0 rfl) ?_
    refine lv_iload_n C.1 C.2.1 d_H_perform_95 rfl (lv_at hl 2 rfl) ?_
    have h := sd_world h (ws' := ([]) ++ (sd_H k3 q u) ++ ([])) (by simp only [List.append_assoc, List.nil_append, List.append_nil])
    refine sd_calli h (va_runV (As := [.int x]) (rest := []) C (k_H_addByte l D k3 H.size q u x ) (sd_cwV 1 C.2.2.2.2 tb_333 tb_335 tb_12 tb_23 tb_336 rfl rfl (by decide +kernel) ⟨Nat.le_of_ble_eq_true rfl, Nat.le_of_ble_eq_true rfl⟩) (sd_preV h (q0 := 0) (T := T_H) (N := 16) rfl rfl) rfl rfl hl.1 rfl (lv_room (Nat.le_of_ble_eq_true rfl)) d_H_perform_96 ⟨Nat.le_of_ble_eq_true rfl, Nat.le_of_ble_eq_true rfl⟩) (fun r w1 H locs hq h => ?_)
    obtain ⟨rfl, rfl⟩ := hq
    have h := sd_world h (ws' := sd_H k3 q (hd_byte u x)) (by simp only [List.append_assoc, List.nil_append, List.append_nil])
    refine lv_i2l (v := (hf_co u + 1).toInt64) C.1 C.2.1 d_H_perform_99 rfl ?_
    exact sd_lret (v := (hf_co u + 1).toInt64) C hr hlk h ⟨by simp only [sd_an]; rfl, by simp only [sd_do]; rfl⟩ d_H_perform_100

set_option maxHeartbeats 4000000 in
set_option maxRecDepth 100000 in
theorem k_H_clearThings (l : Launch) (D : va_G) (k3 : ClassId × ClassId × ClassId) (sz : Nat) (q : Nat → Nat) (u : sd_HS) : Met l y_H_clearThings (sd_ws y_H_clearThings c_H_clearThings 2 none) ({ frames := 0, cells := 0, slots := 0, locals := 0 }) (sd_Pc D (sd_t3 k3) [.ref (q 0)] sz (sd_H k3 q u)) (sd_Qv D (sd_t3 k3) (va_A (sd_H k3 q u) sz) (fun w => w = sd_H k3 q (hd_cT u))) 0 0 (va_A (sd_H k3 q u) sz) := by
  refine sd_met (cc := c_H_clearThings) (maxL := 2) (ret := none) (by decide) (Nat.le_of_ble_eq_true rfl) (fun p e s m below meth c C hr hlk hnm hsz h ls hl => ?_)
  generalize va_A (sd_H k3 q u) sz = A at h ⊢
  have hl : lv_has ls 2 [(0, .ref (q 0))] := hl
  generalize hH : s.heap = H at h ⊢
  refine lv_iconst (v := 0) C.1 C.2.1 d_H_clearThings_0 (by decide) ?_
  refine lv_istore_n (lv' := [(1, .int 0), (0, .ref (q 0))]) C.1 C.2.1 d_H_clearThings_1 rfl hl (by decide) rfl (fun ls hl => ?_)
  have loop1 : ∀ (d i : Nat), i + d = 5 → ∀ (H : Heap) (locs : List Loc) (ls : Array Slot), sd_w D A s (sd_t3 k3) (sd_Hx k3 q (hd_z (hf_md u) i) (hf_th u) (hf_us u) (hf_pk u) (hf_pb u) (hf_pf u) (hf_pw u) (hf_wt u) (hf_fl u) (hf_tw u) (hf_tp u) (hf_tn u) (hf_an u) (hf_co u) (hf_s1 u) (hf_s2 u)) H locs → lv_has ls 2 [(0, .ref (q 0)), (1, .int (nI i))] → W p l e ({ frames := 0, cells := 0, slots := 0, locals := 0 }) s m [.ref (q 0)].toArray below meth c H locs 0 0 (MQ below (sd_Qv D (sd_t3 k3) (A) (fun w => w = sd_H k3 q (hd_cT u))) [.ref (q 0)].toArray s 0 0 A) (F0 m 2 ls []) := by
    intro d
    induction d with
    | zero =>
      intro i hi H locs ls h hl
      have hi : 5 = i := by omega
      subst hi
      refine lv_iload_n C.1 C.2.1 d_H_clearThings_2 rfl (lv_at hl 1 rfl) ?_
      refine lv_iconst (v := 5) C.1 C.2.1 d_H_clearThings_3 (by decide) ?_
      refine lv_icmp_ge (tgt := 20) C.1 C.2.1 d_H_clearThings_4 (by decide) (fun c4 => ?_) (fun c4 => ?_)
      · refine lv_iconst (v := 0) C.1 C.2.1 d_H_clearThings_20 (by decide) ?_
        refine lv_istore_n (lv' := [(1, .int 0), (0, .ref (q 0))]) C.1 C.2.1 d_H_clearThings_21 rfl hl (by decide) rfl (fun ls hl => ?_)
        have loop2 : ∀ (d i : Nat), i + d = 45 → ∀ (H : Heap) (locs : List Loc) (ls : Array Slot), sd_w D A s (sd_t3 k3) (sd_Hx k3 q (hd_z (hf_md u) 5) (hd_z (hf_th u) i) (hd_z (hf_us u) i) (hf_pk u) (hf_pb u) (hf_pf u) (hf_pw u) (hf_wt u) (hf_fl u) (hf_tw u) (hf_tp u) (hf_tn u) (hf_an u) (hf_co u) (hf_s1 u) (hf_s2 u)) H locs → lv_has ls 2 [(0, .ref (q 0)), (1, .int (nI i))] → W p l e ({ frames := 0, cells := 0, slots := 0, locals := 0 }) s m [.ref (q 0)].toArray below meth c H locs 0 0 (MQ below (sd_Qv D (sd_t3 k3) (A) (fun w => w = sd_H k3 q (hd_cT u))) [.ref (q 0)].toArray s 0 0 A) (F0 m 22 ls []) := by
          intro d
          induction d with
          | zero =>
            intro i hi H locs ls h hl
            have hi : 45 = i := by omega
            subst hi
            refine lv_iload_n C.1 C.2.1 d_H_clearThings_22 rfl (lv_at hl 1 rfl) ?_
            refine lv_bipush (v := 45) C.1 C.2.1 d_H_clearThings_23 (by decide) ?_
            refine lv_icmp_ge (tgt := 48) C.1 C.2.1 d_H_clearThings_25 (by decide) (fun c25 => ?_) (fun c25 => ?_)
            · have h := sd_world h (ws' := sd_H k3 q (hd_cT u)) (by simp only [sd_H, hd_make, hd_drop, hd_kind, hd_answer, hd_way, hd_tell, hd_work, hd_byte, hd_m, hd_ans, hf_md, hf_th, hf_us, hf_pk, hf_pb, hf_pf, hf_pw, hf_wt, hf_fl, hf_tw, hf_tp, hf_tn, hf_an, hf_co, hf_s1, hf_s2, hd_cT, hd_cP, hd_cl])
              exact sd_vret C hr hlk h rfl d_H_clearThings_48
            · exact absurd (nI_le (a := 45) (b := 45) (by omega) (by decide)) c25
          | succ d ih =>
            intro i hi H locs ls h hl
            refine lv_iload_n C.1 C.2.1 d_H_clearThings_22 rfl (lv_at hl 1 rfl) ?_
            refine lv_bipush (v := 45) C.1 C.2.1 d_H_clearThings_23 (by decide) ?_
            refine lv_icmp_ge (tgt := 48) C.1 C.2.1 d_H_clearThings_25 (by decide) (fun c25 => ?_) (fun c25 => ?_)
            · exact absurd c25 (nI_ge (a := i) (b := 45) (by omega) (by decide))
            · refine lv_aload_n C.1 C.2.1 d_H_clearThings_28 rfl (lv_at hl 0 rfl) ?_
              refine sd_get C h 0 1 (v := .ref (q 2)) (ci := 1) (Cn := "StockDesk$House") (T := T_H) (N := 16) rfl rfl (by decide) in_H tb_82 rfl d_H_clearThings_29 ?_
              refine lv_iload_n C.1 C.2.1 d_H_clearThings_32 rfl (lv_at hl 1 rfl) ?_
              refine lv_iconst (v := 0) C.1 C.2.1 d_H_clearThings_33 (by decide) ?_
              refine sd_zast C h 2 1 (i := i) (ws' := sd_Hx k3 q (hd_z (hf_md u) 5) (upd (hd_z (hf_th u) i) i 0) (hd_z (hf_us u) i) (hf_pk u) (hf_pb u) (hf_pf u) (hf_pw u) (hf_wt u) (hf_fl u) (hf_tw u) (hf_tp u) (hf_tn u) (hf_an u) (hf_co u) (hf_s1 u) (hf_s2 u)) rfl rfl (by omega) (by decide) rfl rfl d_H_clearThings_34 (fun H locs h => ?_)
              refine lv_aload_n C.1 C.2.1 d_H_clearThings_35 rfl (lv_at hl 0 rfl) ?_
              refine sd_get C h 0 2 (v := .ref (q 3)) (ci := 1) (Cn := "StockDesk$House") (T := T_H) (N := 16) rfl rfl (by decide) in_H tb_83 rfl d_H_clearThings_36 ?_
              refine lv_iload_n C.1 C.2.1 d_H_clearThings_39 rfl (lv_at hl 1 rfl) ?_
              refine lv_iconst (v := 0) C.1 C.2.1 d_H_clearThings_40 (by decide) ?_
              refine sd_iast C h 3 0 (i := i) (ws' := sd_Hx k3 q (hd_z (hf_md u) 5) (upd (hd_z (hf_th u) i) i 0) (upd (hd_z (hf_us u) i) i 0) (hf_pk u) (hf_pb u) (hf_pf u) (hf_pw u) (hf_wt u) (hf_fl u) (hf_tw u) (hf_tp u) (hf_tn u) (hf_an u) (hf_co u) (hf_s1 u) (hf_s2 u)) rfl rfl (by omega) (by decide) rfl d_H_clearThings_41 (fun H locs h => ?_)
              refine lv_iinc (v := nI (i + 1)) (lv' := [(1, .int (nI (i + 1))), (0, .ref (q 0))]) C.1 C.2.1 d_H_clearThings_42 hl (k := 1) rfl (nI_1 i) (by decide) rfl (fun ls hl => ?_)
              refine lv_goto (tgt := 22) C.1 C.2.1 d_H_clearThings_45 (by decide) ?_
              exact ih (i + 1) (by omega) _ _ _ h (lv_sub hl [1, 0] rfl)
        exact loop2 (45 - 0) 0 (by omega) _ _ _ h (lv_sub hl [1, 0] rfl)
      · exact absurd (nI_le (a := 5) (b := 5) (by omega) (by decide)) c4
    | succ d ih =>
      intro i hi H locs ls h hl
      refine lv_iload_n C.1 C.2.1 d_H_clearThings_2 rfl (lv_at hl 1 rfl) ?_
      refine lv_iconst (v := 5) C.1 C.2.1 d_H_clearThings_3 (by decide) ?_
      refine lv_icmp_ge (tgt := 20) C.1 C.2.1 d_H_clearThings_4 (by decide) (fun c4 => ?_) (fun c4 => ?_)
      · exact absurd c4 (nI_ge (a := i) (b := 5) (by omega) (by decide))
      · refine lv_aload_n C.1 C.2.1 d_H_clearThings_7 rfl (lv_at hl 0 rfl) ?_
        refine sd_get C h 0 0 (v := .ref (q 1)) (ci := 1) (Cn := "StockDesk$House") (T := T_H) (N := 16) rfl rfl (by decide) in_H tb_81 rfl d_H_clearThings_8 ?_
        refine lv_iload_n C.1 C.2.1 d_H_clearThings_11 rfl (lv_at hl 1 rfl) ?_
        refine lv_iconst (v := 0) C.1 C.2.1 d_H_clearThings_12 (by decide) ?_
        refine sd_iast C h 1 0 (i := i) (ws' := sd_Hx k3 q (upd (hd_z (hf_md u) i) i 0) (hf_th u) (hf_us u) (hf_pk u) (hf_pb u) (hf_pf u) (hf_pw u) (hf_wt u) (hf_fl u) (hf_tw u) (hf_tp u) (hf_tn u) (hf_an u) (hf_co u) (hf_s1 u) (hf_s2 u)) rfl rfl (by omega) (by decide) rfl d_H_clearThings_13 (fun H locs h => ?_)
        refine lv_iinc (v := nI (i + 1)) (lv' := [(1, .int (nI (i + 1))), (0, .ref (q 0))]) C.1 C.2.1 d_H_clearThings_14 hl (k := 1) rfl (nI_1 i) (by decide) rfl (fun ls hl => ?_)
        refine lv_goto (tgt := 2) C.1 C.2.1 d_H_clearThings_17 (by decide) ?_
        exact ih (i + 1) (by omega) _ _ _ h (lv_sub hl [1, 0] rfl)
  exact loop1 (5 - 0) 0 (by omega) _ _ _ h (lv_sub hl [1, 0] rfl)

set_option maxHeartbeats 4000000 in
set_option maxRecDepth 100000 in
theorem k_H_clearParts (l : Launch) (D : va_G) (k3 : ClassId × ClassId × ClassId) (sz : Nat) (q : Nat → Nat) (u : sd_HS) : Met l y_H_clearParts (sd_ws y_H_clearParts c_H_clearParts 2 none) ({ frames := 0, cells := 0, slots := 0, locals := 0 }) (sd_Pc D (sd_t3 k3) [.ref (q 0)] sz (sd_H k3 q u)) (sd_Qv D (sd_t3 k3) (va_A (sd_H k3 q u) sz) (fun w => w = sd_H k3 q (hd_cP u))) 0 0 (va_A (sd_H k3 q u) sz) := by
  refine sd_met (cc := c_H_clearParts) (maxL := 2) (ret := none) (by decide) (Nat.le_of_ble_eq_true rfl) (fun p e s m below meth c C hr hlk hnm hsz h ls hl => ?_)
  generalize va_A (sd_H k3 q u) sz = A at h ⊢
  have hl : lv_has ls 2 [(0, .ref (q 0))] := hl
  generalize hH : s.heap = H at h ⊢
  refine lv_iconst (v := 0) C.1 C.2.1 d_H_clearParts_0 (by decide) ?_
  refine lv_istore_n (lv' := [(1, .int 0), (0, .ref (q 0))]) C.1 C.2.1 d_H_clearParts_1 rfl hl (by decide) rfl (fun ls hl => ?_)
  have loop : ∀ (d i : Nat), i + d = 6 → ∀ (H : Heap) (locs : List Loc) (ls : Array Slot), sd_w D A s (sd_t3 k3) (sd_Hx k3 q (hf_md u) (hf_th u) (hf_us u) (hd_zk (hf_pk u) i) (hd_z (hf_pb u) i) (hd_z (hf_pf u) i) (hd_z (hf_pw u) i) (hd_zl (hf_wt u) i) (hf_fl u) (hf_tw u) (hf_tp u) (hf_tn u) (hf_an u) (hf_co u) (hf_s1 u) (hf_s2 u)) H locs → lv_has ls 2 [(0, .ref (q 0)), (1, .int (nI i))] → W p l e ({ frames := 0, cells := 0, slots := 0, locals := 0 }) s m [.ref (q 0)].toArray below meth c H locs 0 0 (MQ below (sd_Qv D (sd_t3 k3) (A) (fun w => w = sd_H k3 q (hd_cP u))) [.ref (q 0)].toArray s 0 0 A) (F0 m 2 ls []) := by
    intro d
    induction d with
    | zero =>
      intro i hi H locs ls h hl
      have hi : 6 = i := by omega
      subst hi
      refine lv_iload_n C.1 C.2.1 d_H_clearParts_2 rfl (lv_at hl 1 rfl) ?_
      refine lv_bipush (v := 6) C.1 C.2.1 d_H_clearParts_3 (by decide) ?_
      refine lv_icmp_ge (tgt := 51) C.1 C.2.1 d_H_clearParts_5 (by decide) (fun c5 => ?_) (fun c5 => ?_)
      · have h := sd_world h (ws' := sd_H k3 q (hd_cP u)) (by simp only [sd_H, hd_make, hd_drop, hd_kind, hd_answer, hd_way, hd_tell, hd_work, hd_byte, hd_m, hd_ans, hf_md, hf_th, hf_us, hf_pk, hf_pb, hf_pf, hf_pw, hf_wt, hf_fl, hf_tw, hf_tp, hf_tn, hf_an, hf_co, hf_s1, hf_s2, hd_cT, hd_cP, hd_cl])
        exact sd_vret C hr hlk h rfl d_H_clearParts_51
      · exact absurd (nI_le (a := 6) (b := 6) (by omega) (by decide)) c5
    | succ d ih =>
      intro i hi H locs ls h hl
      refine lv_iload_n C.1 C.2.1 d_H_clearParts_2 rfl (lv_at hl 1 rfl) ?_
      refine lv_bipush (v := 6) C.1 C.2.1 d_H_clearParts_3 (by decide) ?_
      refine lv_icmp_ge (tgt := 51) C.1 C.2.1 d_H_clearParts_5 (by decide) (fun c5 => ?_) (fun c5 => ?_)
      · exact absurd c5 (nI_ge (a := i) (b := 6) (by omega) (by decide))
      · refine lv_aload_n C.1 C.2.1 d_H_clearParts_8 rfl (lv_at hl 0 rfl) ?_
        refine sd_get C h 0 3 (v := .ref (q 4)) (ci := 1) (Cn := "StockDesk$House") (T := T_H) (N := 16) rfl rfl (by decide) in_H tb_84 rfl d_H_clearParts_9 ?_
        refine lv_iload_n C.1 C.2.1 d_H_clearParts_12 rfl (lv_at hl 1 rfl) ?_
        refine lv_iload_n C.1 C.2.1 d_H_clearParts_13 rfl (lv_at hl 1 rfl) ?_
        refine lv_iconst (v := 5) C.1 C.2.1 d_H_clearParts_14 (by decide) ?_
        refine lv_irem C.1 C.2.1 d_H_clearParts_15 (by decide) ?_
        refine sd_top (v := .int ((nI i) - (nI i) / 5 * 5)) (v' := .int (nI (i % 5))) (congrArg Value.int (pk_rem (a := i) (d := 5) (by omega) (by decide) (by decide))) ?_
        refine sd_iast C h 4 0 (i := i) (ws' := sd_Hx k3 q (hf_md u) (hf_th u) (hf_us u) (upd (hd_zk (hf_pk u) i) i (nI (i % 5))) (hd_z (hf_pb u) i) (hd_z (hf_pf u) i) (hd_z (hf_pw u) i) (hd_zl (hf_wt u) i) (hf_fl u) (hf_tw u) (hf_tp u) (hf_tn u) (hf_an u) (hf_co u) (hf_s1 u) (hf_s2 u)) rfl rfl (by omega) (by decide) rfl d_H_clearParts_16 (fun H locs h => ?_)
        refine lv_aload_n C.1 C.2.1 d_H_clearParts_17 rfl (lv_at hl 0 rfl) ?_
        refine sd_get C h 0 4 (v := .ref (q 5)) (ci := 1) (Cn := "StockDesk$House") (T := T_H) (N := 16) rfl rfl (by decide) in_H tb_85 rfl d_H_clearParts_18 ?_
        refine lv_iload_n C.1 C.2.1 d_H_clearParts_21 rfl (lv_at hl 1 rfl) ?_
        refine lv_iconst (v := 0) C.1 C.2.1 d_H_clearParts_22 (by decide) ?_
        refine sd_iast C h 5 0 (i := i) (ws' := sd_Hx k3 q (hf_md u) (hf_th u) (hf_us u) (upd (hd_zk (hf_pk u) i) i (nI (i % 5))) (upd (hd_z (hf_pb u) i) i 0) (hd_z (hf_pf u) i) (hd_z (hf_pw u) i) (hd_zl (hf_wt u) i) (hf_fl u) (hf_tw u) (hf_tp u) (hf_tn u) (hf_an u) (hf_co u) (hf_s1 u) (hf_s2 u)) rfl rfl (by omega) (by decide) rfl d_H_clearParts_23 (fun H locs h => ?_)
        refine lv_aload_n C.1 C.2.1 d_H_clearParts_24 rfl (lv_at hl 0 rfl) ?_
        refine sd_get C h 0 5 (v := .ref (q 6)) (ci := 1) (Cn := "StockDesk$House") (T := T_H) (N := 16) rfl rfl (by decide) in_H tb_86 rfl d_H_clearParts_25 ?_
        refine lv_iload_n C.1 C.2.1 d_H_clearParts_28 rfl (lv_at hl 1 rfl) ?_
        refine lv_iconst (v := 0) C.1 C.2.1 d_H_clearParts_29 (by decide) ?_
        refine sd_iast C h 6 0 (i := i) (ws' := sd_Hx k3 q (hf_md u) (hf_th u) (hf_us u) (upd (hd_zk (hf_pk u) i) i (nI (i % 5))) (upd (hd_z (hf_pb u) i) i 0) (upd (hd_z (hf_pf u) i) i 0) (hd_z (hf_pw u) i) (hd_zl (hf_wt u) i) (hf_fl u) (hf_tw u) (hf_tp u) (hf_tn u) (hf_an u) (hf_co u) (hf_s1 u) (hf_s2 u)) rfl rfl (by omega) (by decide) rfl d_H_clearParts_30 (fun H locs h => ?_)
        refine lv_aload_n C.1 C.2.1 d_H_clearParts_31 rfl (lv_at hl 0 rfl) ?_
        refine sd_get C h 0 6 (v := .ref (q 7)) (ci := 1) (Cn := "StockDesk$House") (T := T_H) (N := 16) rfl rfl (by decide) in_H tb_87 rfl d_H_clearParts_32 ?_
        refine lv_iload_n C.1 C.2.1 d_H_clearParts_35 rfl (lv_at hl 1 rfl) ?_
        refine lv_iconst (v := 0) C.1 C.2.1 d_H_clearParts_36 (by decide) ?_
        refine sd_iast C h 7 0 (i := i) (ws' := sd_Hx k3 q (hf_md u) (hf_th u) (hf_us u) (upd (hd_zk (hf_pk u) i) i (nI (i % 5))) (upd (hd_z (hf_pb u) i) i 0) (upd (hd_z (hf_pf u) i) i 0) (upd (hd_z (hf_pw u) i) i 0) (hd_zl (hf_wt u) i) (hf_fl u) (hf_tw u) (hf_tp u) (hf_tn u) (hf_an u) (hf_co u) (hf_s1 u) (hf_s2 u)) rfl rfl (by omega) (by decide) rfl d_H_clearParts_37 (fun H locs h => ?_)
        refine lv_aload_n C.1 C.2.1 d_H_clearParts_38 rfl (lv_at hl 0 rfl) ?_
        refine sd_get C h 0 7 (v := .ref (q 8)) (ci := 1) (Cn := "StockDesk$House") (T := T_H) (N := 16) rfl rfl (by decide) in_H tb_88 rfl d_H_clearParts_39 ?_
        refine lv_iload_n C.1 C.2.1 d_H_clearParts_42 rfl (lv_at hl 1 rfl) ?_
        refine lv_lconst (v := 0) C.1 C.2.1 d_H_clearParts_43 (by decide) ?_
        refine sd_last C h 8 2 (i := i) (ws' := sd_Hx k3 q (hf_md u) (hf_th u) (hf_us u) (upd (hd_zk (hf_pk u) i) i (nI (i % 5))) (upd (hd_z (hf_pb u) i) i 0) (upd (hd_z (hf_pf u) i) i 0) (upd (hd_z (hf_pw u) i) i 0) (vp_updL (hd_zl (hf_wt u) i) i 0) (hf_fl u) (hf_tw u) (hf_tp u) (hf_tn u) (hf_an u) (hf_co u) (hf_s1 u) (hf_s2 u)) rfl rfl (by omega) (by decide) rfl d_H_clearParts_44 (fun H locs h => ?_)
        refine lv_iinc (v := nI (i + 1)) (lv' := [(1, .int (nI (i + 1))), (0, .ref (q 0))]) C.1 C.2.1 d_H_clearParts_45 hl (k := 1) rfl (nI_1 i) (by decide) rfl (fun ls hl => ?_)
        refine lv_goto (tgt := 2) C.1 C.2.1 d_H_clearParts_48 (by decide) ?_
        exact ih (i + 1) (by omega) _ _ _ h (lv_sub hl [1, 0] rfl)
  exact loop (6 - 0) 0 (by omega) _ _ _ h (lv_sub hl [1, 0] rfl)

set_option maxHeartbeats 4000000 in
set_option maxRecDepth 100000 in
theorem k_H_clear (l : Launch) (D : va_G) (k3 : ClassId × ClassId × ClassId) (sz : Nat) (q : Nat → Nat) (u : sd_HS) : Met l y_H_clear (sd_ws y_H_clear c_H_clear 1 none) ({ frames := 1, cells := 0, slots := 0, locals := 21 }) (sd_Pc D (sd_t3 k3) [.ref (q 0)] sz (sd_H k3 q u)) (sd_Qv D (sd_t3 k3) (va_A (sd_H k3 q u) sz) (fun w => w = sd_H k3 q sd_h0)) 0 0 (va_A (sd_H k3 q u) sz) := by
  refine sd_met (cc := c_H_clear) (maxL := 1) (ret := none) (by decide) (Nat.le_of_ble_eq_true rfl) (fun p e s m below meth c C hr hlk hnm hsz h ls hl => ?_)
  generalize va_A (sd_H k3 q u) sz = A at h ⊢
  have hl : lv_has ls 1 [(0, .ref (q 0))] := hl
  generalize hH : s.heap = H at h ⊢
  refine lv_aload_n C.1 C.2.1 d_H_clear_0 rfl (lv_at hl 0 rfl) ?_
  have h := sd_world h (ws' := ([]) ++ (sd_H k3 q u) ++ ([])) (by simp only [List.append_assoc, List.nil_append, List.append_nil])
  refine sd_callv h (va_runV (As := []) (rest := []) C (k_H_clearThings l D k3 H.size q u ) (sd_cwV 0 C.2.2.2.2 tb_73 tb_75 tb_0 tb_23 tb_76 rfl rfl (by decide +kernel) ⟨Nat.le_of_ble_eq_true rfl, Nat.le_of_ble_eq_true rfl⟩) (sd_preV h (q0 := 0) (T := T_H) (N := 16) rfl rfl) rfl rfl hl.1 rfl (lv_room (Nat.le_of_ble_eq_true rfl)) d_H_clear_1 ⟨Nat.le_of_ble_eq_true rfl, Nat.le_of_ble_eq_true rfl⟩) (fun w1 H locs hq h => ?_)
  obtain rfl := hq
  have h := sd_world h (ws' := sd_H k3 q (hd_cT u)) (by simp only [List.append_assoc, List.nil_append, List.append_nil])
  refine lv_aload_n C.1 C.2.1 d_H_clear_4 rfl (lv_at hl 0 rfl) ?_
  have h := sd_world h (ws' := ([]) ++ (sd_H k3 q (hd_cT u)) ++ ([])) (by simp only [List.append_assoc, List.nil_append, List.append_nil])
  refine sd_callv h (va_runV (As := []) (rest := []) C (k_H_clearParts l D k3 H.size q (hd_cT u) ) (sd_cwV 0 C.2.2.2.2 tb_77 tb_79 tb_1 tb_23 tb_80 rfl rfl (by decide +kernel) ⟨Nat.le_of_ble_eq_true rfl, Nat.le_of_ble_eq_true rfl⟩) (sd_preV h (q0 := 0) (T := T_H) (N := 16) rfl rfl) rfl rfl hl.1 rfl (lv_room (Nat.le_of_ble_eq_true rfl)) d_H_clear_5 ⟨Nat.le_of_ble_eq_true rfl, Nat.le_of_ble_eq_true rfl⟩) (fun w1 H locs hq h => ?_)
  obtain rfl := hq
  have h := sd_world h (ws' := sd_H k3 q (hd_cP (hd_cT u))) (by simp only [List.append_assoc, List.nil_append, List.append_nil])
  refine lv_aload_n C.1 C.2.1 d_H_clear_8 rfl (lv_at hl 0 rfl) ?_
  refine lv_iconst (v := 0) C.1 C.2.1 d_H_clear_9 (by decide) ?_
  refine sd_put C h 0 8 (v := .int 0) (ci := 1) (Cn := "StockDesk$House") (T := T_H) (N := 16) (ty0 := ty_H) (ws' := sd_Hx k3 q (hf_md (hd_cP (hd_cT u))) (hf_th (hd_cP (hd_cT u))) (hf_us (hd_cP (hd_cT u))) (hf_pk (hd_cP (hd_cT u))) (hf_pb (hd_cP (hd_cT u))) (hf_pf (hd_cP (hd_cT u))) (hf_pw (hd_cP (hd_cT u))) (hf_wt (hd_cP (hd_cT u))) 0 (hf_tw (hd_cP (hd_cT u))) (hf_tp (hd_cP (hd_cT u))) (hf_tn (hd_cP (hd_cT u))) (hf_an (hd_cP (hd_cT u))) (hf_co (hd_cP (hd_cT u))) (hf_s1 (hd_cP (hd_cT u))) (hf_s2 (hd_cP (hd_cT u)))) rfl rfl (by decide) in_H tyok_H nm_H tb_89 rfl rfl rfl rfl (Nat.le_of_ble_eq_true rfl) rfl d_H_clear_10 (fun H locs h => ?_)
  refine lv_aload_n C.1 C.2.1 d_H_clear_13 rfl (lv_at hl 0 rfl) ?_
  refine lv_iconst (v := 0) C.1 C.2.1 d_H_clear_14 (by decide) ?_
  refine sd_put C h 0 9 (v := .int 0) (ci := 1) (Cn := "StockDesk$House") (T := T_H) (N := 16) (ty0 := ty_H) (ws' := sd_Hx k3 q (hf_md (hd_cP (hd_cT u))) (hf_th (hd_cP (hd_cT u))) (hf_us (hd_cP (hd_cT u))) (hf_pk (hd_cP (hd_cT u))) (hf_pb (hd_cP (hd_cT u))) (hf_pf (hd_cP (hd_cT u))) (hf_pw (hd_cP (hd_cT u))) (hf_wt (hd_cP (hd_cT u))) 0 0 (hf_tp (hd_cP (hd_cT u))) (hf_tn (hd_cP (hd_cT u))) (hf_an (hd_cP (hd_cT u))) (hf_co (hd_cP (hd_cT u))) (hf_s1 (hd_cP (hd_cT u))) (hf_s2 (hd_cP (hd_cT u)))) rfl rfl (by decide) in_H tyok_H nm_H tb_91 rfl rfl rfl rfl (Nat.le_of_ble_eq_true rfl) rfl d_H_clear_15 (fun H locs h => ?_)
  refine lv_aload_n C.1 C.2.1 d_H_clear_18 rfl (lv_at hl 0 rfl) ?_
  refine lv_iconst (v := -1) C.1 C.2.1 d_H_clear_19 (by decide) ?_
  refine sd_put C h 0 10 (v := .int (-1)) (ci := 1) (Cn := "StockDesk$House") (T := T_H) (N := 16) (ty0 := ty_H) (ws' := sd_Hx k3 q (hf_md (hd_cP (hd_cT u))) (hf_th (hd_cP (hd_cT u))) (hf_us (hd_cP (hd_cT u))) (hf_pk (hd_cP (hd_cT u))) (hf_pb (hd_cP (hd_cT u))) (hf_pf (hd_cP (hd_cT u))) (hf_pw (hd_cP (hd_cT u))) (hf_wt (hd_cP (hd_cT u))) 0 0 (-1) (hf_tn (hd_cP (hd_cT u))) (hf_an (hd_cP (hd_cT u))) (hf_co (hd_cP (hd_cT u))) (hf_s1 (hd_cP (hd_cT u))) (hf_s2 (hd_cP (hd_cT u)))) rfl rfl (by decide) in_H tyok_H nm_H tb_93 rfl rfl rfl rfl (Nat.le_of_ble_eq_true rfl) rfl d_H_clear_20 (fun H locs h => ?_)
  refine lv_aload_n C.1 C.2.1 d_H_clear_23 rfl (lv_at hl 0 rfl) ?_
  refine lv_iconst (v := -1) C.1 C.2.1 d_H_clear_24 (by decide) ?_
  refine sd_put C h 0 11 (v := .int (-1)) (ci := 1) (Cn := "StockDesk$House") (T := T_H) (N := 16) (ty0 := ty_H) (ws' := sd_Hx k3 q (hf_md (hd_cP (hd_cT u))) (hf_th (hd_cP (hd_cT u))) (hf_us (hd_cP (hd_cT u))) (hf_pk (hd_cP (hd_cT u))) (hf_pb (hd_cP (hd_cT u))) (hf_pf (hd_cP (hd_cT u))) (hf_pw (hd_cP (hd_cT u))) (hf_wt (hd_cP (hd_cT u))) 0 0 (-1) (-1) (hf_an (hd_cP (hd_cT u))) (hf_co (hd_cP (hd_cT u))) (hf_s1 (hd_cP (hd_cT u))) (hf_s2 (hd_cP (hd_cT u)))) rfl rfl (by decide) in_H tyok_H nm_H tb_95 rfl rfl rfl rfl (Nat.le_of_ble_eq_true rfl) rfl d_H_clear_25 (fun H locs h => ?_)
  refine lv_aload_n C.1 C.2.1 d_H_clear_28 rfl (lv_at hl 0 rfl) ?_
  refine lv_iconst (v := 0) C.1 C.2.1 d_H_clear_29 (by decide) ?_
  refine sd_put C h 0 12 (v := .int 0) (ci := 1) (Cn := "StockDesk$House") (T := T_H) (N := 16) (ty0 := ty_H) (ws' := sd_Hx k3 q (hf_md (hd_cP (hd_cT u))) (hf_th (hd_cP (hd_cT u))) (hf_us (hd_cP (hd_cT u))) (hf_pk (hd_cP (hd_cT u))) (hf_pb (hd_cP (hd_cT u))) (hf_pf (hd_cP (hd_cT u))) (hf_pw (hd_cP (hd_cT u))) (hf_wt (hd_cP (hd_cT u))) 0 0 (-1) (-1) 0 (hf_co (hd_cP (hd_cT u))) (hf_s1 (hd_cP (hd_cT u))) (hf_s2 (hd_cP (hd_cT u)))) rfl rfl (by decide) in_H tyok_H nm_H tb_97 rfl rfl rfl rfl (Nat.le_of_ble_eq_true rfl) rfl d_H_clear_30 (fun H locs h => ?_)
  refine lv_aload_n C.1 C.2.1 d_H_clear_33 rfl (lv_at hl 0 rfl) ?_
  refine lv_iconst (v := 0) C.1 C.2.1 d_H_clear_34 (by decide) ?_
  refine sd_put C h 0 13 (v := .int 0) (ci := 1) (Cn := "StockDesk$House") (T := T_H) (N := 16) (ty0 := ty_H) (ws' := sd_Hx k3 q (hf_md (hd_cP (hd_cT u))) (hf_th (hd_cP (hd_cT u))) (hf_us (hd_cP (hd_cT u))) (hf_pk (hd_cP (hd_cT u))) (hf_pb (hd_cP (hd_cT u))) (hf_pf (hd_cP (hd_cT u))) (hf_pw (hd_cP (hd_cT u))) (hf_wt (hd_cP (hd_cT u))) 0 0 (-1) (-1) 0 0 (hf_s1 (hd_cP (hd_cT u))) (hf_s2 (hd_cP (hd_cT u)))) rfl rfl (by decide) in_H tyok_H nm_H tb_99 rfl rfl rfl rfl (Nat.le_of_ble_eq_true rfl) rfl d_H_clear_35 (fun H locs h => ?_)
  refine lv_aload_n C.1 C.2.1 d_H_clear_38 rfl (lv_at hl 0 rfl) ?_
  refine lv_iconst (v := 1) C.1 C.2.1 d_H_clear_39 (by decide) ?_
  refine sd_put C h 0 14 (v := .int 1) (ci := 1) (Cn := "StockDesk$House") (T := T_H) (N := 16) (ty0 := ty_H) (ws' := sd_Hx k3 q (hf_md (hd_cP (hd_cT u))) (hf_th (hd_cP (hd_cT u))) (hf_us (hd_cP (hd_cT u))) (hf_pk (hd_cP (hd_cT u))) (hf_pb (hd_cP (hd_cT u))) (hf_pf (hd_cP (hd_cT u))) (hf_pw (hd_cP (hd_cT u))) (hf_wt (hd_cP (hd_cT u))) 0 0 (-1) (-1) 0 0 1 (hf_s2 (hd_cP (hd_cT u)))) rfl rfl (by decide) in_H tyok_H nm_H tb_101 rfl rfl rfl rfl (Nat.le_of_ble_eq_true rfl) rfl d_H_clear_40 (fun H locs h => ?_)
  refine lv_aload_n C.1 C.2.1 d_H_clear_43 rfl (lv_at hl 0 rfl) ?_
  refine lv_iconst (v := 0) C.1 C.2.1 d_H_clear_44 (by decide) ?_
  refine sd_put C h 0 15 (v := .int 0) (ci := 1) (Cn := "StockDesk$House") (T := T_H) (N := 16) (ty0 := ty_H) (ws' := sd_Hx k3 q (hf_md (hd_cP (hd_cT u))) (hf_th (hd_cP (hd_cT u))) (hf_us (hd_cP (hd_cT u))) (hf_pk (hd_cP (hd_cT u))) (hf_pb (hd_cP (hd_cT u))) (hf_pf (hd_cP (hd_cT u))) (hf_pw (hd_cP (hd_cT u))) (hf_wt (hd_cP (hd_cT u))) 0 0 (-1) (-1) 0 0 1 0) rfl rfl (by decide) in_H tyok_H nm_H tb_102 rfl rfl rfl rfl (Nat.le_of_ble_eq_true rfl) rfl d_H_clear_45 (fun H locs h => ?_)
  have h := sd_world h (ws' := sd_H k3 q (hd_cl u)) (by simp only [sd_H, hd_make, hd_drop, hd_kind, hd_answer, hd_way, hd_tell, hd_work, hd_byte, hd_m, hd_ans, hf_md, hf_th, hf_us, hf_pk, hf_pb, hf_pf, hf_pw, hf_wt, hf_fl, hf_tw, hf_tp, hf_tn, hf_an, hf_co, hf_s1, hf_s2, hd_cT, hd_cP, hd_cl])
  have h := sd_world h (ws' := [] ++ sd_H k3 q (hd_cl u) ++ []) (by simp only [List.append_assoc, List.nil_append, List.append_nil])
  have h := sd_H_w h (v := sd_h0) (hd_cl_eq u)
  have h := sd_world h (ws' := sd_H k3 q sd_h0) (by simp only [List.append_assoc, List.nil_append, List.append_nil])
  exact sd_vret C hr hlk h rfl d_H_clear_48

set_option maxHeartbeats 4000000 in
set_option maxRecDepth 100000 in
theorem k_H_init (l : Launch) (D : va_G) (k3 : ClassId × ClassId × ClassId) (sz : Nat) (h0 : Nat) : Met l y_H_init (sd_ws y_H_init c_H_init 1 none) ({ frames := 2, cells := 8, slots := 125, locals := 41 }) (sd_Pc D (sd_t3 k3) [.ref h0] sz ([(h0, .inr (1, [.null, .null, .null, .null, .null, .null, .null, .null, .int 0, .int 0, .int 0, .int 0, .int 0, .int 0, .int 0, .int 0]))])) (sd_Qv D (sd_t3 k3) (va_A ([(h0, .inr (1, [.null, .null, .null, .null, .null, .null, .null, .null, .int 0, .int 0, .int 0, .int 0, .int 0, .int 0, .int 0, .int 0]))]) sz) (fun w => ∃ q : Nat → Nat, q 0 = h0 ∧ w = sd_H k3 q sd_h0)) 8 125 (va_A ([(h0, .inr (1, [.null, .null, .null, .null, .null, .null, .null, .null, .int 0, .int 0, .int 0, .int 0, .int 0, .int 0, .int 0, .int 0]))]) sz) := by
  refine sd_met (cc := c_H_init) (maxL := 1) (ret := none) (by decide) (Nat.le_of_ble_eq_true rfl) (fun p e s m below meth c C hr hlk hnm hsz h ls hl => ?_)
  generalize va_A ([(h0, .inr (1, [.null, .null, .null, .null, .null, .null, .null, .null, .int 0, .int 0, .int 0, .int 0, .int 0, .int 0, .int 0, .int 0]))]) sz = A at h ⊢
  have hl : lv_has ls 1 [(0, .ref h0)] := hl
  generalize hH : s.heap = H at h ⊢
  refine lv_aload_n C.1 C.2.1 d_H_init_0 rfl (lv_at hl 0 rfl) ?_
  refine W.objInit C.1 C.2.1 C.2.2.2.1 (C.2.2.2.2 _ (List.mem_cons_of_mem _ tb_68)) (C.2.2.2.2 _ (List.mem_cons_of_mem _ tb_38)) (C.2.2.2.2 _ (List.mem_cons_of_mem _ tb_39)) rfl (by rw [C.2.2.1]; exact hl.1) rfl d_H_init_1 (Nat.le_of_ble_eq_true rfl) (Nat.le_of_ble_eq_true rfl) ?_
  refine W.eq (g2 := F0 m 4 ls []) rfl ?_
  refine lv_aload_n C.1 C.2.1 d_H_init_4 rfl (lv_at hl 0 rfl) ?_
  refine lv_iconst (v := 5) C.1 C.2.1 d_H_init_5 (by decide) ?_
  refine sd_newa C h 0 (ty := .int) (a0 := (5, .inl (fun _ => 0))) (N' := 5) rfl rfl (fun _ => rfl) tb_62 (fun _ => rfl) (by decide) (by decide) (by decide) (Nat.le_of_ble_eq_true rfl) (Nat.le_of_ble_eq_true rfl) d_H_init_6 (fun q6 H h => ?_)
  refine W.widen (k := 1) (n := 5) (by decide) (by decide) ?_
  refine sd_putF C h hnm 0 0 (v := .ref q6) (ci := 1) (Cn := "StockDesk$House") (T := T_H) (N := 16) (ty0 := ty_H) (ws' := [(h0, .inr (1, [.ref q6, .null, .null, .null, .null, .null, .null, .null, .int 0, .int 0, .int 0, .int 0, .int 0, .int 0, .int 0, .int 0]))] ++ [(q6, .inl (k3.1, 5, .inl (fun _ => 0)))]) rfl rfl (by decide) in_H tyok_H nm_H tb_81 rfl rfl rfl rfl rfl (Nat.le_of_ble_eq_true rfl) rfl d_H_init_8 (fun H locs h => ?_)
  refine lv_aload_n C.1 C.2.1 d_H_init_11 rfl (lv_at hl 0 rfl) ?_
  refine lv_bipush (v := 45) C.1 C.2.1 d_H_init_12 (by decide) ?_
  refine sd_newa C h 1 (ty := .boolean) (a0 := (45, .inl (fun _ => 0))) (N' := 45) rfl rfl (fun _ => rfl) tb_136 (fun _ => rfl) (by decide) (by decide) (by decide) (Nat.le_of_ble_eq_true rfl) (Nat.le_of_ble_eq_true rfl) d_H_init_14 (fun q14 H h => ?_)
  refine W.widen (k := 2) (n := 50) (by decide) (by decide) ?_
  refine sd_putF C h hnm 0 1 (v := .ref q14) (ci := 1) (Cn := "StockDesk$House") (T := T_H) (N := 16) (ty0 := ty_H) (ws' := [(h0, .inr (1, [.ref q6, .ref q14, .null, .null, .null, .null, .null, .null, .int 0, .int 0, .int 0, .int 0, .int 0, .int 0, .int 0, .int 0]))] ++ [(q6, .inl (k3.1, 5, .inl (fun _ => 0)))] ++ [(q14, .inl (k3.2.1, 45, .inl (fun _ => 0)))]) rfl rfl (by decide) in_H tyok_H nm_H tb_82 rfl rfl rfl rfl rfl (Nat.le_of_ble_eq_true rfl) rfl d_H_init_16 (fun H locs h => ?_)
  refine lv_aload_n C.1 C.2.1 d_H_init_19 rfl (lv_at hl 0 rfl) ?_
  refine lv_bipush (v := 45) C.1 C.2.1 d_H_init_20 (by decide) ?_
  refine sd_newa C h 0 (ty := .int) (a0 := (45, .inl (fun _ => 0))) (N' := 45) rfl rfl (fun _ => rfl) tb_62 (fun _ => rfl) (by decide) (by decide) (by decide) (Nat.le_of_ble_eq_true rfl) (Nat.le_of_ble_eq_true rfl) d_H_init_22 (fun q22 H h => ?_)
  refine W.widen (k := 3) (n := 95) (by decide) (by decide) ?_
  refine sd_putF C h hnm 0 2 (v := .ref q22) (ci := 1) (Cn := "StockDesk$House") (T := T_H) (N := 16) (ty0 := ty_H) (ws' := [(h0, .inr (1, [.ref q6, .ref q14, .ref q22, .null, .null, .null, .null, .null, .int 0, .int 0, .int 0, .int 0, .int 0, .int 0, .int 0, .int 0]))] ++ [(q6, .inl (k3.1, 5, .inl (fun _ => 0)))] ++ [(q14, .inl (k3.2.1, 45, .inl (fun _ => 0)))] ++ [(q22, .inl (k3.1, 45, .inl (fun _ => 0)))]) rfl rfl (by decide) in_H tyok_H nm_H tb_83 rfl rfl rfl rfl rfl (Nat.le_of_ble_eq_true rfl) rfl d_H_init_24 (fun H locs h => ?_)
  refine lv_aload_n C.1 C.2.1 d_H_init_27 rfl (lv_at hl 0 rfl) ?_
  refine lv_bipush (v := 6) C.1 C.2.1 d_H_init_28 (by decide) ?_
  refine sd_newa C h 0 (ty := .int) (a0 := (6, .inl (fun _ => 0))) (N' := 6) rfl rfl (fun _ => rfl) tb_62 (fun _ => rfl) (by decide) (by decide) (by decide) (Nat.le_of_ble_eq_true rfl) (Nat.le_of_ble_eq_true rfl) d_H_init_30 (fun q30 H h => ?_)
  refine W.widen (k := 4) (n := 101) (by decide) (by decide) ?_
  refine sd_putF C h hnm 0 3 (v := .ref q30) (ci := 1) (Cn := "StockDesk$House") (T := T_H) (N := 16) (ty0 := ty_H) (ws' := [(h0, .inr (1, [.ref q6, .ref q14, .ref q22, .ref q30, .null, .null, .null, .null, .int 0, .int 0, .int 0, .int 0, .int 0, .int 0, .int 0, .int 0]))] ++ [(q6, .inl (k3.1, 5, .inl (fun _ => 0)))] ++ [(q14, .inl (k3.2.1, 45, .inl (fun _ => 0)))] ++ [(q22, .inl (k3.1, 45, .inl (fun _ => 0)))] ++ [(q30, .inl (k3.1, 6, .inl (fun _ => 0)))]) rfl rfl (by decide) in_H tyok_H nm_H tb_84 rfl rfl rfl rfl rfl (Nat.le_of_ble_eq_true rfl) rfl d_H_init_32 (fun H locs h => ?_)
  refine lv_aload_n C.1 C.2.1 d_H_init_35 rfl (lv_at hl 0 rfl) ?_
  refine lv_bipush (v := 6) C.1 C.2.1 d_H_init_36 (by decide) ?_
  refine sd_newa C h 0 (ty := .int) (a0 := (6, .inl (fun _ => 0))) (N' := 6) rfl rfl (fun _ => rfl) tb_62 (fun _ => rfl) (by decide) (by decide) (by decide) (Nat.le_of_ble_eq_true rfl) (Nat.le_of_ble_eq_true rfl) d_H_init_38 (fun q38 H h => ?_)
  refine W.widen (k := 5) (n := 107) (by decide) (by decide) ?_
  refine sd_putF C h hnm 0 4 (v := .ref q38) (ci := 1) (Cn := "StockDesk$House") (T := T_H) (N := 16) (ty0 := ty_H) (ws' := [(h0, .inr (1, [.ref q6, .ref q14, .ref q22, .ref q30, .ref q38, .null, .null, .null, .int 0, .int 0, .int 0, .int 0, .int 0, .int 0, .int 0, .int 0]))] ++ [(q6, .inl (k3.1, 5, .inl (fun _ => 0)))] ++ [(q14, .inl (k3.2.1, 45, .inl (fun _ => 0)))] ++ [(q22, .inl (k3.1, 45, .inl (fun _ => 0)))] ++ [(q30, .inl (k3.1, 6, .inl (fun _ => 0)))] ++ [(q38, .inl (k3.1, 6, .inl (fun _ => 0)))]) rfl rfl (by decide) in_H tyok_H nm_H tb_85 rfl rfl rfl rfl rfl (Nat.le_of_ble_eq_true rfl) rfl d_H_init_40 (fun H locs h => ?_)
  refine lv_aload_n C.1 C.2.1 d_H_init_43 rfl (lv_at hl 0 rfl) ?_
  refine lv_bipush (v := 6) C.1 C.2.1 d_H_init_44 (by decide) ?_
  refine sd_newa C h 0 (ty := .int) (a0 := (6, .inl (fun _ => 0))) (N' := 6) rfl rfl (fun _ => rfl) tb_62 (fun _ => rfl) (by decide) (by decide) (by decide) (Nat.le_of_ble_eq_true rfl) (Nat.le_of_ble_eq_true rfl) d_H_init_46 (fun q46 H h => ?_)
  refine W.widen (k := 6) (n := 113) (by decide) (by decide) ?_
  refine sd_putF C h hnm 0 5 (v := .ref q46) (ci := 1) (Cn := "StockDesk$House") (T := T_H) (N := 16) (ty0 := ty_H) (ws' := [(h0, .inr (1, [.ref q6, .ref q14, .ref q22, .ref q30, .ref q38, .ref q46, .null, .null, .int 0, .int 0, .int 0, .int 0, .int 0, .int 0, .int 0, .int 0]))] ++ [(q6, .inl (k3.1, 5, .inl (fun _ => 0)))] ++ [(q14, .inl (k3.2.1, 45, .inl (fun _ => 0)))] ++ [(q22, .inl (k3.1, 45, .inl (fun _ => 0)))] ++ [(q30, .inl (k3.1, 6, .inl (fun _ => 0)))] ++ [(q38, .inl (k3.1, 6, .inl (fun _ => 0)))] ++ [(q46, .inl (k3.1, 6, .inl (fun _ => 0)))]) rfl rfl (by decide) in_H tyok_H nm_H tb_86 rfl rfl rfl rfl rfl (Nat.le_of_ble_eq_true rfl) rfl d_H_init_48 (fun H locs h => ?_)
  refine lv_aload_n C.1 C.2.1 d_H_init_51 rfl (lv_at hl 0 rfl) ?_
  refine lv_bipush (v := 6) C.1 C.2.1 d_H_init_52 (by decide) ?_
  refine sd_newa C h 0 (ty := .int) (a0 := (6, .inl (fun _ => 0))) (N' := 6) rfl rfl (fun _ => rfl) tb_62 (fun _ => rfl) (by decide) (by decide) (by decide) (Nat.le_of_ble_eq_true rfl) (Nat.le_of_ble_eq_true rfl) d_H_init_54 (fun q54 H h => ?_)
  refine W.widen (k := 7) (n := 119) (by decide) (by decide) ?_
  refine sd_putF C h hnm 0 6 (v := .ref q54) (ci := 1) (Cn := "StockDesk$House") (T := T_H) (N := 16) (ty0 := ty_H) (ws' := [(h0, .inr (1, [.ref q6, .ref q14, .ref q22, .ref q30, .ref q38, .ref q46, .ref q54, .null, .int 0, .int 0, .int 0, .int 0, .int 0, .int 0, .int 0, .int 0]))] ++ [(q6, .inl (k3.1, 5, .inl (fun _ => 0)))] ++ [(q14, .inl (k3.2.1, 45, .inl (fun _ => 0)))] ++ [(q22, .inl (k3.1, 45, .inl (fun _ => 0)))] ++ [(q30, .inl (k3.1, 6, .inl (fun _ => 0)))] ++ [(q38, .inl (k3.1, 6, .inl (fun _ => 0)))] ++ [(q46, .inl (k3.1, 6, .inl (fun _ => 0)))] ++ [(q54, .inl (k3.1, 6, .inl (fun _ => 0)))]) rfl rfl (by decide) in_H tyok_H nm_H tb_87 rfl rfl rfl rfl rfl (Nat.le_of_ble_eq_true rfl) rfl d_H_init_56 (fun H locs h => ?_)
  refine lv_aload_n C.1 C.2.1 d_H_init_59 rfl (lv_at hl 0 rfl) ?_
  refine lv_bipush (v := 6) C.1 C.2.1 d_H_init_60 (by decide) ?_
  refine sd_newa C h 2 (ty := .long) (a0 := (6, .inr (.inl (fun _ => 0)))) (N' := 6) rfl rfl (fun _ => rfl) tb_137 (fun _ => rfl) (by decide) (by decide) (by decide) (Nat.le_of_ble_eq_true rfl) (Nat.le_of_ble_eq_true rfl) d_H_init_62 (fun q62 H h => ?_)
  refine W.widen (k := 8) (n := 125) (by decide) (by decide) ?_
  refine sd_putF C h hnm 0 7 (v := .ref q62) (ci := 1) (Cn := "StockDesk$House") (T := T_H) (N := 16) (ty0 := ty_H) (ws' := [(h0, .inr (1, [.ref q6, .ref q14, .ref q22, .ref q30, .ref q38, .ref q46, .ref q54, .ref q62, .int 0, .int 0, .int 0, .int 0, .int 0, .int 0, .int 0, .int 0]))] ++ [(q6, .inl (k3.1, 5, .inl (fun _ => 0)))] ++ [(q14, .inl (k3.2.1, 45, .inl (fun _ => 0)))] ++ [(q22, .inl (k3.1, 45, .inl (fun _ => 0)))] ++ [(q30, .inl (k3.1, 6, .inl (fun _ => 0)))] ++ [(q38, .inl (k3.1, 6, .inl (fun _ => 0)))] ++ [(q46, .inl (k3.1, 6, .inl (fun _ => 0)))] ++ [(q54, .inl (k3.1, 6, .inl (fun _ => 0)))] ++ [(q62, .inl (k3.2.2, 6, .inr (.inl (fun _ => 0))))]) rfl rfl (by decide) in_H tyok_H nm_H tb_88 rfl rfl rfl rfl rfl (Nat.le_of_ble_eq_true rfl) rfl d_H_init_64 (fun H locs h => ?_)
  refine lv_aload_n C.1 C.2.1 d_H_init_67 rfl (lv_at hl 0 rfl) ?_
  have h := sd_world h (ws' := sd_H k3 (sd_q9 h0 q6 q14 q22 q30 q38 q46 q54 q62) sd_z0) rfl
  have h := sd_world h (ws' := ([]) ++ (sd_H k3 (sd_q9 h0 q6 q14 q22 q30 q38 q46 q54 q62) sd_z0) ++ ([])) (by simp only [List.append_assoc, List.nil_append, List.append_nil])
  refine sd_callv h (va_runV (As := []) (rest := []) C (k_H_clear l D k3 H.size (sd_q9 h0 q6 q14 q22 q30 q38 q46 q54 q62) sd_z0 ) (sd_cwV 0 C.2.2.2.2 tb_69 tb_70 tb_71 tb_23 tb_72 rfl rfl (by decide +kernel) ⟨Nat.le_of_ble_eq_true rfl, Nat.le_of_ble_eq_true rfl⟩) (sd_preV h (q0 := 0) (T := T_H) (N := 16) rfl rfl) rfl rfl hl.1 rfl (lv_room (Nat.le_of_ble_eq_true rfl)) d_H_init_68 ⟨Nat.le_of_ble_eq_true rfl, Nat.le_of_ble_eq_true rfl⟩) (fun w1 H locs hq h => ?_)
  obtain rfl := hq
  have h := sd_world h (ws' := sd_H k3 (sd_q9 h0 q6 q14 q22 q30 q38 q46 q54 q62) sd_h0) (by simp only [List.append_assoc, List.nil_append, List.append_nil])
  exact sd_vret C hr hlk h ⟨_, rfl, rfl⟩ d_H_init_71
end
section
set_option maxHeartbeats 4000000 in
set_option maxRecDepth 100000 in
theorem k_A_size (l : Launch) (D : va_G) (k3 : ClassId × ClassId × ClassId) (sz : Nat) (q : Nat → Nat) (n : Int32) (f0 : Nat → Int32) (f1 : Nat → Int32) (f2 : Nat → Int32) (f3 : Nat → Int32) : Met l y_A_size (sd_ws y_A_size c_A_size 1 (some FieldType.int)) ({ frames := 0, cells := 0, slots := 0, locals := 0 }) (sd_Pc D (sd_t3 k3) [.ref (q 0)] sz (sd_A k3 q n f0 f1 f2 f3)) (sd_Qi D (sd_t3 k3) (va_A (sd_A k3 q n f0 f1 f2 f3) sz) (fun r w => r = n ∧ w = sd_A k3 q n f0 f1 f2 f3)) 0 0 (va_A (sd_A k3 q n f0 f1 f2 f3) sz) := by
  refine sd_met (cc := c_A_size) (maxL := 1) (ret := some .int) (by decide) (Nat.le_of_ble_eq_true rfl) (fun p e s m below meth c C hr hlk hnm hsz h ls hl => ?_)
  generalize va_A (sd_A k3 q n f0 f1 f2 f3) sz = A at h ⊢
  have hl : lv_has ls 1 [(0, .ref (q 0))] := hl
  generalize hH : s.heap = H at h ⊢
  refine lv_aload_n C.1 C.2.1 d_A_size_0 rfl (lv_at hl 0 rfl) ?_
  refine sd_get C h 0 4 (v := .int n) (ci := 0) (Cn := "StockDesk$ActRow") (T := T_A) (N := 5) rfl rfl (by decide) in_A tb_50 rfl d_A_size_1 ?_
  exact sd_iret (v := n) C hr hlk h ⟨rfl, rfl⟩ d_A_size_4

set_option maxHeartbeats 4000000 in
set_option maxRecDepth 100000 in
theorem k_A_keep (l : Launch) (D : va_G) (k3 : ClassId × ClassId × ClassId) (sz : Nat) (q : Nat → Nat) (nn : Nat) (f0 : Nat → Int32) (f1 : Nat → Int32) (f2 : Nat → Int32) (f3 : Nat → Int32) (a : Int32) (x : Int32) (y : Int32) (z : Int32) (hi : nn < 60) : Met l y_A_keep (sd_ws y_A_keep c_A_keep 5 none) ({ frames := 0, cells := 0, slots := 0, locals := 0 }) (sd_Pc D (sd_t3 k3) [.ref (q 0), .int a, .int x, .int y, .int z] sz (sd_A k3 q (nI nn) f0 f1 f2 f3)) (sd_Qv D (sd_t3 k3) (va_A (sd_A k3 q (nI nn) f0 f1 f2 f3) sz) (fun w => w = sd_A k3 q (nI (nn + 1)) (upd f0 nn a) (upd f1 nn x) (upd f2 nn y) (upd f3 nn z))) 0 0 (va_A (sd_A k3 q (nI nn) f0 f1 f2 f3) sz) := by
  refine sd_met (cc := c_A_keep) (maxL := 5) (ret := none) (by decide) (Nat.le_of_ble_eq_true rfl) (fun p e s m below meth c C hr hlk hnm hsz h ls hl => ?_)
  generalize va_A (sd_A k3 q (nI nn) f0 f1 f2 f3) sz = A at h ⊢
  have hl : lv_has ls 5 [(0, .ref (q 0)), (1, .int a), (2, .int x), (3, .int y), (4, .int z)] := hl
  generalize hH : s.heap = H at h ⊢
  refine lv_aload_n C.1 C.2.1 d_A_keep_0 rfl (lv_at hl 0 rfl) ?_
  refine sd_get C h 0 4 (v := .int (nI nn)) (ci := 0) (Cn := "StockDesk$ActRow") (T := T_A) (N := 5) rfl rfl (by decide) in_A tb_50 rfl d_A_keep_1 ?_
  refine lv_bipush (v := 60) C.1 C.2.1 d_A_keep_4 (by decide) ?_
  refine lv_icmp_lt (tgt := 10) C.1 C.2.1 d_A_keep_6 (by decide) (fun c6 => ?_) (fun c6 => ?_)
  · refine lv_aload_n C.1 C.2.1 d_A_keep_10 rfl (lv_at hl 0 rfl) ?_
    refine sd_get C h 0 0 (v := .ref (q 1)) (ci := 0) (Cn := "StockDesk$ActRow") (T := T_A) (N := 5) rfl rfl (by decide) in_A tb_46 rfl d_A_keep_11 ?_
    refine lv_aload_n C.1 C.2.1 d_A_keep_14 rfl (lv_at hl 0 rfl) ?_
    refine sd_get C h 0 4 (v := .int (nI nn)) (ci := 0) (Cn := "StockDesk$ActRow") (T := T_A) (N := 5) rfl rfl (by decide) in_A tb_50 rfl d_A_keep_15 ?_
    refine lv_iload_n C.1 C.2.1 d_A_keep_18 rfl (lv_at hl 1 rfl) ?_
    refine sd_iast C h 1 0 (i := nn) (ws' := sd_A k3 q (nI nn) (upd f0 nn a) f1 f2 f3) rfl rfl (by omega) (by decide) rfl d_A_keep_19 (fun H locs h => ?_)
    refine lv_aload_n C.1 C.2.1 d_A_keep_20 rfl (lv_at hl 0 rfl) ?_
    refine sd_get C h 0 1 (v := .ref (q 2)) (ci := 0) (Cn := "StockDesk$ActRow") (T := T_A) (N := 5) rfl rfl (by decide) in_A tb_47 rfl d_A_keep_21 ?_
    refine lv_aload_n C.1 C.2.1 d_A_keep_24 rfl (lv_at hl 0 rfl) ?_
    refine sd_get C h 0 4 (v := .int (nI nn)) (ci := 0) (Cn := "StockDesk$ActRow") (T := T_A) (N := 5) rfl rfl (by decide) in_A tb_50 rfl d_A_keep_25 ?_
    refine lv_iload_n C.1 C.2.1 d_A_keep_28 rfl (lv_at hl 2 rfl) ?_
    refine sd_iast C h 2 0 (i := nn) (ws' := sd_A k3 q (nI nn) (upd f0 nn a) (upd f1 nn x) f2 f3) rfl rfl (by omega) (by decide) rfl d_A_keep_29 (fun H locs h => ?_)
    refine lv_aload_n C.1 C.2.1 d_A_keep_30 rfl (lv_at hl 0 rfl) ?_
    refine sd_get C h 0 2 (v := .ref (q 3)) (ci := 0) (Cn := "StockDesk$ActRow") (T := T_A) (N := 5) rfl rfl (by decide) in_A tb_48 rfl d_A_keep_31 ?_
    refine lv_aload_n C.1 C.2.1 d_A_keep_34 rfl (lv_at hl 0 rfl) ?_
    refine sd_get C h 0 4 (v := .int (nI nn)) (ci := 0) (Cn := "StockDesk$ActRow") (T := T_A) (N := 5) rfl rfl (by decide) in_A tb_50 rfl d_A_keep_35 ?_
    refine lv_iload_n C.1 C.2.1 d_A_keep_38 rfl (lv_at hl 3 rfl) ?_
    refine sd_iast C h 3 0 (i := nn) (ws' := sd_A k3 q (nI nn) (upd f0 nn a) (upd f1 nn x) (upd f2 nn y) f3) rfl rfl (by omega) (by decide) rfl d_A_keep_39 (fun H locs h => ?_)
    refine lv_aload_n C.1 C.2.1 d_A_keep_40 rfl (lv_at hl 0 rfl) ?_
    refine sd_get C h 0 3 (v := .ref (q 4)) (ci := 0) (Cn := "StockDesk$ActRow") (T := T_A) (N := 5) rfl rfl (by decide) in_A tb_49 rfl d_A_keep_41 ?_
    refine lv_aload_n C.1 C.2.1 d_A_keep_44 rfl (lv_at hl 0 rfl) ?_
    refine sd_get C h 0 4 (v := .int (nI nn)) (ci := 0) (Cn := "StockDesk$ActRow") (T := T_A) (N := 5) rfl rfl (by decide) in_A tb_50 rfl d_A_keep_45 ?_
    refine lv_iload C.1 C.2.1 d_A_keep_48 (lv_at hl 4 rfl) ?_
    refine sd_iast C h 4 0 (i := nn) (ws' := sd_A k3 q (nI nn) (upd f0 nn a) (upd f1 nn x) (upd f2 nn y) (upd f3 nn z)) rfl rfl (by omega) (by decide) rfl d_A_keep_50 (fun H locs h => ?_)
    refine lv_aload_n C.1 C.2.1 d_A_keep_51 rfl (lv_at hl 0 rfl) ?_
    refine lv_dup C.1 C.2.1 d_A_keep_52 rfl ?_
    refine sd_get C h 0 4 (v := .int (nI nn)) (ci := 0) (Cn := "StockDesk$ActRow") (T := T_A) (N := 5) rfl rfl (by decide) in_A tb_50 rfl d_A_keep_53 ?_
    refine lv_iconst (v := 1) C.1 C.2.1 d_A_keep_56 (by decide) ?_
    refine lv_iadd C.1 C.2.1 d_A_keep_57 ?_
    refine sd_top (v := .int ((nI nn) + 1)) (v' := .int (nI (nn + 1))) (congrArg Value.int (nI_1 nn)) ?_
    refine sd_put C h 0 4 (v := .int (nI (nn + 1))) (ci := 0) (Cn := "StockDesk$ActRow") (T := T_A) (N := 5) (ty0 := ty_A) (ws' := sd_A k3 q (nI (nn + 1)) (upd f0 nn a) (upd f1 nn x) (upd f2 nn y) (upd f3 nn z)) rfl rfl (by decide) in_A tyok_A nm_A tb_50 rfl rfl rfl rfl (Nat.le_of_ble_eq_true rfl) rfl d_A_keep_58 (fun H locs h => ?_)
    exact sd_vret C hr hlk h rfl d_A_keep_61
  · exact absurd (nI_lt (a := nn) (b := 60) (by omega) (by decide)) c6

set_option maxHeartbeats 4000000 in
set_option maxRecDepth 100000 in
theorem k_A_removeLatest (l : Launch) (D : va_G) (k3 : ClassId × ClassId × ClassId) (sz : Nat) (q : Nat → Nat) (nn : Nat) (f0 : Nat → Int32) (f1 : Nat → Int32) (f2 : Nat → Int32) (f3 : Nat → Int32) (hi : nn < 60) : Met l y_A_removeLatest (sd_ws y_A_removeLatest c_A_removeLatest 1 none) ({ frames := 0, cells := 0, slots := 0, locals := 0 }) (sd_Pc D (sd_t3 k3) [.ref (q 0)] sz (sd_A k3 q (nI (nn + 1)) f0 f1 f2 f3)) (sd_Qv D (sd_t3 k3) (va_A (sd_A k3 q (nI (nn + 1)) f0 f1 f2 f3) sz) (fun w => w = sd_A k3 q (nI nn) f0 f1 f2 f3)) 0 0 (va_A (sd_A k3 q (nI (nn + 1)) f0 f1 f2 f3) sz) := by
  refine sd_met (cc := c_A_removeLatest) (maxL := 1) (ret := none) (by decide) (Nat.le_of_ble_eq_true rfl) (fun p e s m below meth c C hr hlk hnm hsz h ls hl => ?_)
  generalize va_A (sd_A k3 q (nI (nn + 1)) f0 f1 f2 f3) sz = A at h ⊢
  have hl : lv_has ls 1 [(0, .ref (q 0))] := hl
  generalize hH : s.heap = H at h ⊢
  refine lv_aload_n C.1 C.2.1 d_A_removeLatest_0 rfl (lv_at hl 0 rfl) ?_
  refine sd_get C h 0 4 (v := .int (nI (nn + 1))) (ci := 0) (Cn := "StockDesk$ActRow") (T := T_A) (N := 5) rfl rfl (by decide) in_A tb_50 rfl d_A_removeLatest_1 ?_
  refine lv_if_le (tgt := 17) C.1 C.2.1 d_A_removeLatest_4 (by decide) (fun c4 => ?_) (fun c4 => ?_)
  · exact absurd c4 (nI_nle (by omega) (by omega))
  · refine lv_aload_n C.1 C.2.1 d_A_removeLatest_7 rfl (lv_at hl 0 rfl) ?_
    refine lv_dup C.1 C.2.1 d_A_removeLatest_8 rfl ?_
    refine sd_get C h 0 4 (v := .int (nI (nn + 1))) (ci := 0) (Cn := "StockDesk$ActRow") (T := T_A) (N := 5) rfl rfl (by decide) in_A tb_50 rfl d_A_removeLatest_9 ?_
    refine lv_iconst (v := 1) C.1 C.2.1 d_A_removeLatest_12 (by decide) ?_
    refine lv_isub C.1 C.2.1 d_A_removeLatest_13 ?_
    refine sd_top (v := .int ((nI (nn + 1)) - 1)) (v' := .int (nI nn)) (congrArg Value.int (nI_pred nn)) ?_
    refine sd_put C h 0 4 (v := .int (nI nn)) (ci := 0) (Cn := "StockDesk$ActRow") (T := T_A) (N := 5) (ty0 := ty_A) (ws' := sd_A k3 q (nI nn) f0 f1 f2 f3) rfl rfl (by decide) in_A tyok_A nm_A tb_50 rfl rfl rfl rfl (Nat.le_of_ble_eq_true rfl) rfl d_A_removeLatest_14 (fun H locs h => ?_)
    exact sd_vret C hr hlk h rfl d_A_removeLatest_17

set_option maxHeartbeats 4000000 in
set_option maxRecDepth 100000 in
theorem k_A_doAllOn (l : Launch) (D : va_G) (k3 : ClassId × ClassId × ClassId) (sz : Nat) (q : Nat → Nat) (nn : Nat) (f0 : Nat → Int32) (f1 : Nat → Int32) (f2 : Nat → Int32) (f3 : Nat → Int32) (qh : Nat → Nat) (u : sd_HS) (hi : nn ≤ 60) (hok : ∀ j, j < nn → sd_ok (sd_run f0 f1 f2 f3 j) (f0 j) (f1 j) (f2 j)) : Met l y_A_doAllOn (sd_ws y_A_doAllOn c_A_doAllOn 3 none) ({ frames := 3, cells := 0, slots := 0, locals := 72 }) (sd_Pc D (sd_t3 k3) [.ref (q 0), .ref (qh 0)] sz (sd_A k3 q (nI nn) f0 f1 f2 f3 ++ sd_H k3 qh u)) (sd_Qv D (sd_t3 k3) (va_A (sd_A k3 q (nI nn) f0 f1 f2 f3 ++ sd_H k3 qh u) sz) (fun w => w = sd_A k3 q (nI nn) f0 f1 f2 f3 ++ sd_H k3 qh (sd_run f0 f1 f2 f3 nn))) 0 0 (va_A (sd_A k3 q (nI nn) f0 f1 f2 f3 ++ sd_H k3 qh u) sz) := by
  refine sd_met (cc := c_A_doAllOn) (maxL := 3) (ret := none) (by decide) (Nat.le_of_ble_eq_true rfl) (fun p e s m below meth c C hr hlk hnm hsz h ls hl => ?_)
  generalize va_A (sd_A k3 q (nI nn) f0 f1 f2 f3 ++ sd_H k3 qh u) sz = A at h ⊢
  have hl : lv_has ls 3 [(0, .ref (q 0)), (1, .ref (qh 0))] := hl
  generalize hH : s.heap = H at h ⊢
  refine lv_aload_n C.1 C.2.1 d_A_doAllOn_0 rfl (lv_at hl 1 rfl) ?_
  have h := sd_world h (ws' := (sd_A k3 q (nI nn) f0 f1 f2 f3) ++ (sd_H k3 qh u) ++ ([])) (by simp only [List.append_assoc, List.nil_append, List.append_nil])
  refine sd_callv h (va_runV (As := []) (rest := []) C (k_H_clear l D k3 H.size qh u ) (sd_cwV 0 C.2.2.2.2 tb_439 tb_70 tb_71 tb_23 tb_72 rfl rfl (by decide +kernel) ⟨Nat.le_of_ble_eq_true rfl, Nat.le_of_ble_eq_true rfl⟩) (sd_preV h (q0 := 5) (T := T_H) (N := 16) rfl rfl) rfl rfl hl.1 rfl (lv_room (Nat.le_of_ble_eq_true rfl)) d_A_doAllOn_1 ⟨Nat.le_of_ble_eq_true rfl, Nat.le_of_ble_eq_true rfl⟩) (fun w1 H locs hq h => ?_)
  obtain rfl := hq
  have h := sd_world h (ws' := sd_A k3 q (nI nn) f0 f1 f2 f3 ++ sd_H k3 qh sd_h0) (by simp only [List.append_assoc, List.nil_append, List.append_nil])
  refine lv_iconst (v := 0) C.1 C.2.1 d_A_doAllOn_4 (by decide) ?_
  refine lv_istore_n (lv' := [(2, .int 0), (0, .ref (q 0)), (1, .ref (qh 0))]) C.1 C.2.1 d_A_doAllOn_5 rfl hl (by decide) rfl (fun ls hl => ?_)
  have loop : ∀ (d i : Nat), i + d = nn → ∀ (H : Heap) (locs : List Loc) (ls : Array Slot), sd_w D A s (sd_t3 k3) (sd_A k3 q (nI nn) f0 f1 f2 f3 ++ sd_H k3 qh (sd_run f0 f1 f2 f3 i)) H locs → lv_has ls 3 [(0, .ref (q 0)), (1, .ref (qh 0)), (2, .int (nI i))] → W p l e ({ frames := 3, cells := 0, slots := 0, locals := 72 }) s m [.ref (q 0), .ref (qh 0)].toArray below meth c H locs 0 0 (MQ below (sd_Qv D (sd_t3 k3) (A) (fun w => w = sd_A k3 q (nI nn) f0 f1 f2 f3 ++ sd_H k3 qh (sd_run f0 f1 f2 f3 nn))) [.ref (q 0), .ref (qh 0)].toArray s 0 0 A) (F0 m 6 ls []) := by
    intro d
    induction d with
    | zero =>
      intro i hi H locs ls h hl
      have hi : nn = i := by omega
      subst hi
      refine lv_iload_n C.1 C.2.1 d_A_doAllOn_6 rfl (lv_at hl 2 rfl) ?_
      refine lv_aload_n C.1 C.2.1 d_A_doAllOn_7 rfl (lv_at hl 0 rfl) ?_
      refine sd_get C h 0 4 (v := .int (nI nn)) (ci := 0) (Cn := "StockDesk$ActRow") (T := T_A) (N := 5) rfl rfl (by decide) in_A tb_50 rfl d_A_doAllOn_8 ?_
      refine lv_icmp_ge (tgt := 49) C.1 C.2.1 d_A_doAllOn_11 (by decide) (fun c11 => ?_) (fun c11 => ?_)
      · exact sd_vret C hr hlk h rfl d_A_doAllOn_49
      · exact absurd (nI_le (a := nn) (b := nn) (by omega) (by omega)) c11
    | succ d ih =>
      intro i hi H locs ls h hl
      refine lv_iload_n C.1 C.2.1 d_A_doAllOn_6 rfl (lv_at hl 2 rfl) ?_
      refine lv_aload_n C.1 C.2.1 d_A_doAllOn_7 rfl (lv_at hl 0 rfl) ?_
      refine sd_get C h 0 4 (v := .int (nI nn)) (ci := 0) (Cn := "StockDesk$ActRow") (T := T_A) (N := 5) rfl rfl (by decide) in_A tb_50 rfl d_A_doAllOn_8 ?_
      refine lv_icmp_ge (tgt := 49) C.1 C.2.1 d_A_doAllOn_11 (by decide) (fun c11 => ?_) (fun c11 => ?_)
      · exact absurd c11 (nI_ge (a := i) (b := nn) (by omega) (by omega))
      · refine lv_aload_n C.1 C.2.1 d_A_doAllOn_14 rfl (lv_at hl 1 rfl) ?_
        refine lv_aload_n C.1 C.2.1 d_A_doAllOn_15 rfl (lv_at hl 0 rfl) ?_
        refine sd_get C h 0 0 (v := .ref (q 1)) (ci := 0) (Cn := "StockDesk$ActRow") (T := T_A) (N := 5) rfl rfl (by decide) in_A tb_46 rfl d_A_doAllOn_16 ?_
        refine lv_iload_n C.1 C.2.1 d_A_doAllOn_19 rfl (lv_at hl 2 rfl) ?_
        refine sd_iald C h 1 0 (i := i) rfl rfl (by omega) (by decide) d_A_doAllOn_20 ?_
        refine lv_aload_n C.1 C.2.1 d_A_doAllOn_21 rfl (lv_at hl 0 rfl) ?_
        refine sd_get C h 0 1 (v := .ref (q 2)) (ci := 0) (Cn := "StockDesk$ActRow") (T := T_A) (N := 5) rfl rfl (by decide) in_A tb_47 rfl d_A_doAllOn_22 ?_
        refine lv_iload_n C.1 C.2.1 d_A_doAllOn_25 rfl (lv_at hl 2 rfl) ?_
        refine sd_iald C h 2 0 (i := i) rfl rfl (by omega) (by decide) d_A_doAllOn_26 ?_
        refine lv_aload_n C.1 C.2.1 d_A_doAllOn_27 rfl (lv_at hl 0 rfl) ?_
        refine sd_get C h 0 2 (v := .ref (q 3)) (ci := 0) (Cn := "StockDesk$ActRow") (T := T_A) (N := 5) rfl rfl (by decide) in_A tb_48 rfl d_A_doAllOn_28 ?_
        refine lv_iload_n C.1 C.2.1 d_A_doAllOn_31 rfl (lv_at hl 2 rfl) ?_
        refine sd_iald C h 3 0 (i := i) rfl rfl (by omega) (by decide) d_A_doAllOn_32 ?_
        refine lv_aload_n C.1 C.2.1 d_A_doAllOn_33 rfl (lv_at hl 0 rfl) ?_
        refine sd_get C h 0 3 (v := .ref (q 4)) (ci := 0) (Cn := "StockDesk$ActRow") (T := T_A) (N := 5) rfl rfl (by decide) in_A tb_49 rfl d_A_doAllOn_34 ?_
        refine lv_iload_n C.1 C.2.1 d_A_doAllOn_37 rfl (lv_at hl 2 rfl) ?_
        refine sd_iald C h 4 0 (i := i) rfl rfl (by omega) (by decide) d_A_doAllOn_38 ?_
        have h := sd_world h (ws' := (sd_A k3 q (nI nn) f0 f1 f2 f3) ++ (sd_H k3 qh (sd_run f0 f1 f2 f3 i)) ++ ([])) (by simp only [List.append_assoc, List.nil_append, List.append_nil])
        refine sd_calll h (va_runV (As := [.int (f0 i), .int (f1 i), .int (f2 i), .int (f3 i)]) (rest := []) C (k_H_perform l D k3 H.size qh (sd_run f0 f1 f2 f3 i) (f0 i) (f1 i) (f2 i) (f3 i) (hok i (by omega))) (sd_cwV 4 C.2.2.2.2 tb_440 tb_294 tb_295 tb_23 tb_296 rfl rfl (by decide +kernel) ⟨Nat.le_of_ble_eq_true rfl, Nat.le_of_ble_eq_true rfl⟩) (sd_preV h (q0 := 5) (T := T_H) (N := 16) rfl rfl) rfl rfl hl.1 rfl (lv_room (Nat.le_of_ble_eq_true rfl)) d_A_doAllOn_39 ⟨Nat.le_of_ble_eq_true rfl, Nat.le_of_ble_eq_true rfl⟩) (fun r w1 H locs hq h => ?_)
        obtain ⟨rfl, rfl⟩ := hq
        have h := sd_world h (ws' := sd_A k3 q (nI nn) f0 f1 f2 f3 ++ sd_H k3 qh (sd_do (sd_run f0 f1 f2 f3 i) (f0 i) (f1 i) (f2 i) (f3 i))) (by simp only [List.append_assoc, List.nil_append, List.append_nil])
        refine lv_pop2_2 C.1 C.2.1 d_A_doAllOn_42 rfl ?_
        refine lv_iinc (v := nI (i + 1)) (lv' := [(2, .int (nI (i + 1))), (0, .ref (q 0)), (1, .ref (qh 0))]) C.1 C.2.1 d_A_doAllOn_43 hl (k := 2) rfl (nI_1 i) (by decide) rfl (fun ls hl => ?_)
        refine lv_goto (tgt := 6) C.1 C.2.1 d_A_doAllOn_46 (by decide) ?_
        exact ih (i + 1) (by omega) _ _ _ h (lv_sub hl [1, 2, 0] rfl)
  exact loop (nn - 0) 0 (by omega) _ _ _ h (lv_sub hl [1, 2, 0] rfl)

set_option maxHeartbeats 4000000 in
set_option maxRecDepth 100000 in
theorem k_A_init (l : Launch) (D : va_G) (k3 : ClassId × ClassId × ClassId) (sz : Nat) (h0 : Nat) : Met l y_A_init (sd_ws y_A_init c_A_init 1 none) ({ frames := 1, cells := 4, slots := 240, locals := 12 }) (sd_Pc D (sd_t3 k3) [.ref h0] sz ([(h0, .inr (0, [.null, .null, .null, .null, .int 0]))])) (sd_Qv D (sd_t3 k3) (va_A ([(h0, .inr (0, [.null, .null, .null, .null, .int 0]))]) sz) (fun w => ∃ q : Nat → Nat, q 0 = h0 ∧ w = sd_A k3 q 0 (fun _ => 0) (fun _ => 0) (fun _ => 0) (fun _ => 0))) 4 240 (va_A ([(h0, .inr (0, [.null, .null, .null, .null, .int 0]))]) sz) := by
  refine sd_met (cc := c_A_init) (maxL := 1) (ret := none) (by decide) (Nat.le_of_ble_eq_true rfl) (fun p e s m below meth c C hr hlk hnm hsz h ls hl => ?_)
  generalize va_A ([(h0, .inr (0, [.null, .null, .null, .null, .int 0]))]) sz = A at h ⊢
  have hl : lv_has ls 1 [(0, .ref h0)] := hl
  generalize hH : s.heap = H at h ⊢
  refine lv_aload_n C.1 C.2.1 d_A_init_0 rfl (lv_at hl 0 rfl) ?_
  refine W.objInit C.1 C.2.1 C.2.2.2.1 (C.2.2.2.2 _ (List.mem_cons_of_mem _ tb_45)) (C.2.2.2.2 _ (List.mem_cons_of_mem _ tb_38)) (C.2.2.2.2 _ (List.mem_cons_of_mem _ tb_39)) rfl (by rw [C.2.2.1]; exact hl.1) rfl d_A_init_1 (Nat.le_of_ble_eq_true rfl) (Nat.le_of_ble_eq_true rfl) ?_
  refine W.eq (g2 := F0 m 4 ls []) rfl ?_
  refine lv_aload_n C.1 C.2.1 d_A_init_4 rfl (lv_at hl 0 rfl) ?_
  refine lv_bipush (v := 60) C.1 C.2.1 d_A_init_5 (by decide) ?_
  refine sd_newa C h 0 (ty := .int) (a0 := (60, .inl (fun _ => 0))) (N' := 60) rfl rfl (fun _ => rfl) tb_62 (fun _ => rfl) (by decide) (by decide) (by decide) (Nat.le_of_ble_eq_true rfl) (Nat.le_of_ble_eq_true rfl) d_A_init_7 (fun q7 H h => ?_)
  refine W.widen (k := 1) (n := 60) (by decide) (by decide) ?_
  refine sd_putF C h hnm 0 0 (v := .ref q7) (ci := 0) (Cn := "StockDesk$ActRow") (T := T_A) (N := 5) (ty0 := ty_A) (ws' := [(h0, .inr (0, [.ref q7, .null, .null, .null, .int 0]))] ++ [(q7, .inl (k3.1, 60, .inl (fun _ => 0)))]) rfl rfl (by decide) in_A tyok_A nm_A tb_46 rfl rfl rfl rfl rfl (Nat.le_of_ble_eq_true rfl) rfl d_A_init_9 (fun H locs h => ?_)
  refine lv_aload_n C.1 C.2.1 d_A_init_12 rfl (lv_at hl 0 rfl) ?_
  refine lv_bipush (v := 60) C.1 C.2.1 d_A_init_13 (by decide) ?_
  refine sd_newa C h 0 (ty := .int) (a0 := (60, .inl (fun _ => 0))) (N' := 60) rfl rfl (fun _ => rfl) tb_62 (fun _ => rfl) (by decide) (by decide) (by decide) (Nat.le_of_ble_eq_true rfl) (Nat.le_of_ble_eq_true rfl) d_A_init_15 (fun q15 H h => ?_)
  refine W.widen (k := 2) (n := 120) (by decide) (by decide) ?_
  refine sd_putF C h hnm 0 1 (v := .ref q15) (ci := 0) (Cn := "StockDesk$ActRow") (T := T_A) (N := 5) (ty0 := ty_A) (ws' := [(h0, .inr (0, [.ref q7, .ref q15, .null, .null, .int 0]))] ++ [(q7, .inl (k3.1, 60, .inl (fun _ => 0)))] ++ [(q15, .inl (k3.1, 60, .inl (fun _ => 0)))]) rfl rfl (by decide) in_A tyok_A nm_A tb_47 rfl rfl rfl rfl rfl (Nat.le_of_ble_eq_true rfl) rfl d_A_init_17 (fun H locs h => ?_)
  refine lv_aload_n C.1 C.2.1 d_A_init_20 rfl (lv_at hl 0 rfl) ?_
  refine lv_bipush (v := 60) C.1 C.2.1 d_A_init_21 (by decide) ?_
  refine sd_newa C h 0 (ty := .int) (a0 := (60, .inl (fun _ => 0))) (N' := 60) rfl rfl (fun _ => rfl) tb_62 (fun _ => rfl) (by decide) (by decide) (by decide) (Nat.le_of_ble_eq_true rfl) (Nat.le_of_ble_eq_true rfl) d_A_init_23 (fun q23 H h => ?_)
  refine W.widen (k := 3) (n := 180) (by decide) (by decide) ?_
  refine sd_putF C h hnm 0 2 (v := .ref q23) (ci := 0) (Cn := "StockDesk$ActRow") (T := T_A) (N := 5) (ty0 := ty_A) (ws' := [(h0, .inr (0, [.ref q7, .ref q15, .ref q23, .null, .int 0]))] ++ [(q7, .inl (k3.1, 60, .inl (fun _ => 0)))] ++ [(q15, .inl (k3.1, 60, .inl (fun _ => 0)))] ++ [(q23, .inl (k3.1, 60, .inl (fun _ => 0)))]) rfl rfl (by decide) in_A tyok_A nm_A tb_48 rfl rfl rfl rfl rfl (Nat.le_of_ble_eq_true rfl) rfl d_A_init_25 (fun H locs h => ?_)
  refine lv_aload_n C.1 C.2.1 d_A_init_28 rfl (lv_at hl 0 rfl) ?_
  refine lv_bipush (v := 60) C.1 C.2.1 d_A_init_29 (by decide) ?_
  refine sd_newa C h 0 (ty := .int) (a0 := (60, .inl (fun _ => 0))) (N' := 60) rfl rfl (fun _ => rfl) tb_62 (fun _ => rfl) (by decide) (by decide) (by decide) (Nat.le_of_ble_eq_true rfl) (Nat.le_of_ble_eq_true rfl) d_A_init_31 (fun q31 H h => ?_)
  refine W.widen (k := 4) (n := 240) (by decide) (by decide) ?_
  refine sd_putF C h hnm 0 3 (v := .ref q31) (ci := 0) (Cn := "StockDesk$ActRow") (T := T_A) (N := 5) (ty0 := ty_A) (ws' := [(h0, .inr (0, [.ref q7, .ref q15, .ref q23, .ref q31, .int 0]))] ++ [(q7, .inl (k3.1, 60, .inl (fun _ => 0)))] ++ [(q15, .inl (k3.1, 60, .inl (fun _ => 0)))] ++ [(q23, .inl (k3.1, 60, .inl (fun _ => 0)))] ++ [(q31, .inl (k3.1, 60, .inl (fun _ => 0)))]) rfl rfl (by decide) in_A tyok_A nm_A tb_49 rfl rfl rfl rfl rfl (Nat.le_of_ble_eq_true rfl) rfl d_A_init_33 (fun H locs h => ?_)
  exact sd_vret C hr hlk h ⟨sd_q5 h0 q7 q15 q23 q31, rfl, rfl⟩ d_A_init_36
end
