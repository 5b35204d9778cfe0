/-! a text handed up by a constructor whose own call has another index (NoSuchElementException), no stack traces: the kit's row is of the common index -/
/-- the words that such a constructor stands on -/
def sd_ownX (own : String) (ic : Nat) (X : String) (ix : Nat) (rx : ByteArray) (Y : String) (r : List String) : List Cond :=
  Bundle.throwableAtoms ++ Bundle.throwableSAtoms ++ Bundle.passSAtoms X Y ix rx ++ Bundle.chainSAtoms Y r ++
  [.methodLink own ic (Bundle.initS X), .instantiable X 6, .selects X Bundle.tFill0 Bundle.tFill0, .selects X Bundle.tFill Bundle.tFill,
   .lays X Bundle.tN "cause" "Ljava/lang/Throwable;", .lays X Bundle.tN "stackTrace" Bundle.steD, .lays X Bundle.tN "suppressedExceptions" Bundle.listD, .lays X Bundle.tN "detailMessage" "Ljava/lang/String;", .lays X Bundle.tN "backtrace" "Ljava/lang/Object;",
   .isRef (.static Bundle.tN "UNASSIGNED_STACK" Bundle.steD), .isRef (.static Bundle.tN "SUPPRESSED_SENTINEL" Bundle.listD), .fieldLink Bundle.tN 198 Bundle.tN "backtrace" "Ljava/lang/Object;", .lays Bundle.tN Bundle.tN "backtrace" "Ljava/lang/Object;"]
section SDCX
variable {p : Program} {l : Launch} {e : Env} {R : Room} {s : State} {m₀ : MethodId} {args : Array Value} {below : List Frame} {meth : Method} {c : Code} {W : State} {locs : List Loc} {cells slots : Nat}
set_option maxHeartbeats 1000000 in
theorem sd_ctorX (X : Stand p l e R s m₀ args below meth c W locs cells slots) (hexec : p.tables.exec = Jvm.exec) (htr : e.platform.stackTraces = false) {own cls Y0 : String} {r0 : List String} {ic ix : Nat} {rx : ByteArray}
    (x0 : decode rx 0 = .ok (.aload_n 0, 1)) (x1 : decode rx 1 = .ok (.aload_n 1, 1)) (x2 : decode rx 2 = .ok (.invokespecial ix, 3)) (x5 : decode rx 5 = .ok (.return_, 1))
    (hown : s.vm.findClass own = some m₀.cls) (hcls : Bundle.fit cls = true) (hnames : ∀ n ∈ Y0 :: r0, Bundle.fit n = true) (h : ∀ w ∈ sd_ownX own ic cls ix rx Y0 r0, w.before args s = true)
    (hlocs : ∀ x ∈ locs, ∀ cell, s.heap[x.base]? = some cell → cell.vm.isStatics = false)
    {a : Addr} {cX : ClassId} {kX : Class} (hfX : s.vm.findClass cls = some cX) (hkX : s.vm.classes[cX]? = some kX) (hcell : W.heap[a]? = some (freshCell cX kX)) (hnew : s.heap.size ≤ a)
    {msg : Value} (hmsg : msg.isRef = true) {g : JFrame} (hg : g.method = m₀) (hsize : g.locals.size = c.maxLocals) (hlocked : g.locked = none) (hentered : g.entered = []) {rest : List Value} (hstack : g.stack = msg :: .ref a :: .ref a :: rest)
    (hd6 : decode c.code g.pc = .ok (.invokespecial ic, 3)) (hd9 : decode c.code (g.pc + 3) = .ok (.athrow, 1)) (hout : ∀ x ∈ c.exceptionTable.toList, covers x (g.pc + 3) = false)
    (hRf : (Y0 :: r0).length + 3 < R.frames) (hRl : 2 * g.monitorRoom + ((Value.ref a :: rest).map fun v => v.category).sum + (13 * ((Y0 :: r0).length + 1) + 42) ≤ R.locals) (hlocks : meth.locks = false) :
    ∃ U : State, Steps p.tables e below (W.setTop g) U ∧ U.status = .running ∧ Ended U below (.threw a) ∧ s.WarmedH U.vm ∧ s.sameButNew ({ U with vm := s.vm } : State) locs cells slots ∧ ∃ ce, U.heap[a]? = some ce ∧ s.vm.findClass cls = some ce.cls ∧ ce.vm = .none := by
  have hpl : e.platform.magicAccessors = ({} : Platform).magicAccessors := by rw [X.admits.platform]
  have w : ∀ x, x ∈ sd_ownX own ic cls ix rx Y0 r0 → x.holds args s none s [] = true := fun x hx => h x hx
  obtain ⟨T, Z0, L, -, Y⟩ := ThrowableC.of_atoms (args := args) (by rw [X.admits.platform]) (by rw [X.admits.platform]) hpl (fun x hx => h x (by simp [sd_ownX, hx]))
  obtain ⟨Z, M, LZ, LM, hnZ⟩ := Init0T.ofS_atoms (args := args) hpl L Y (fun x hx => h x (by simp [sd_ownX, hx]))
  have hY0 := hnames Y0 List.mem_cons_self
  obtain ⟨P1, L1, hP1, hs1⟩ := PassC.ofS_atoms (args := args) (s := s) hpl (X := cls) (Y := Y0) (Bundle.fit_spec hcls).1 (Bundle.fit_spec hY0).2 x0 x1 x2 x5 (fun x hx => h x (by simp [sd_ownX, hx]))
  obtain ⟨P2, Qs, hlen2, L2, hL2, hP2, hl3, hl4⟩ := Bundle.chainS (args := args) hpl hnZ r0 Y0 hY0 (fun n hn => hnames n (List.mem_cons_of_mem _ hn)) (fun x hx => h x (by simp [sd_ownX, hx]))
  obtain ⟨Ps, hlen, hL, hl1, hl2⟩ : ∃ Ps : List PassC, Ps.length = (Y0 :: r0).length ∧ (∀ P, P ∈ Ps → P.LinksS e.platform s) ∧ P1.sup = firstOf _ (Ps.map (·.toPassT)) ∧ PassesOn _ (Ps.map (·.toPassT)) :=
    ⟨P2 :: Qs, by simp [hlen2], fun P hP => by rcases List.mem_cons.mp hP with rfl | hP; exact L2; exact hL2 P hP, Option.some.inj (hs1.symm.trans hP2), hl3, hl4⟩
  have hf : s.vm.findClass cls = some P1.m.cls := findClass_of_methodNamed hP1
  cases Option.some.inj (hfX.symm.trans hf)
  obtain ⟨_, _, q1, hk, hord, -, -, -⟩ := Cond.instantiable_spec (w (.instantiable cls 6) (by simp [sd_ownX]))
  cases Option.some.inj (q1.symm.trans hf)
  cases Option.some.inj (hkX.symm.trans hk)
  have sel : ∀ (t : MethodName) (i : MethodId), s.methodNamed? t = some i → (t.cls ≠ "java/lang/invoke/MethodHandle" ∧ t.cls ≠ "java/lang/invoke/VarHandle") → (Cond.selects cls t t).holds args s none s [] = true → selectMethod e.platform s.vm P1.m.cls i = .method i := by
    intro t i hi ht hs
    obtain ⟨_, _, _, r1, r2, r3, r4, -⟩ := Cond.selects_spec hs
    cases Option.some.inj (r1.symm.trans hf)
    cases Option.some.inj (r2.symm.trans (State.methodFound?_of_named hi ht))
    cases Option.some.inj (r3.symm.trans hi)
    rw [Launch.admits_selectMethod X.admits]
    exact r4
  have s0 := sel Bundle.tFill0 T.fill0 Y.fill0 (by decide) (w (.selects cls Bundle.tFill0 Bundle.tFill0) (by simp [sd_ownX]))
  have s1 := sel Bundle.tFill T.fill Y.fill (by decide) (w (.selects cls Bundle.tFill Bundle.tFill) (by simp [sd_ownX]))
  obtain ⟨cS0, hcS0, hiss⟩ := Y.statics
  obtain ⟨u0, hu0⟩ := Cond.staticRefV Y.unassigned L.unassignedStatic L.statics hcS0 hiss (w (.isRef (.static Bundle.tN "UNASSIGNED_STACK" Bundle.steD)) (by simp [sd_ownX]))
  obtain ⟨sen, hsen⟩ := Cond.staticRefV Y.sentinel L.sentinelStatic L.statics hcS0 hiss (w (.isRef (.static Bundle.tN "SUPPRESSED_SENTINEL" Bundle.listD)) (by simp [sd_ownX]))
  obtain ⟨ci, i, fB, k1, k2, k3, k4, -, hnB, htB, hfB⟩ := Cond.ownField (t := .object "java/lang/Object") Y.found L.cls (by decide +kernel) (w (.fieldLink Bundle.tN 198 Bundle.tN "backtrace" "Ljava/lang/Object;") (by simp [sd_ownX])) (w (.lays Bundle.tN Bundle.tN "backtrace" "Ljava/lang/Object;") (by simp [sd_ownX])) e.platform hpl
  obtain ⟨cS, hcS, heS, -, hkeep⟩ := X.same.2.2.2.2.2 T.aS cS0 hcS0
  have hno : ∀ j, (⟨T.aS, j⟩ : Loc) ∉ locs := fun j hj => by
    have z := hlocs _ hj cS0 hcS0
    rw [hiss] at z
    cases z
  have hkn : cS.vm ≠ .unknown := by
    rw [heS]
    intro z
    rw [show cS0.vm = .unknown from z] at hiss
    cases hiss
  obtain ⟨_, hfM⟩ := Y.msg
  have lay : ∀ {n d : String}, (Cond.lays cls Bundle.tN n d) ∈ sd_ownX own ic cls ix rx Y0 r0 → (Cond.lays cls Bundle.tN n d).holds args s none s [] = true := fun hm => w _ hm
  obtain ⟨tC, dC, eC, nC⟩ := Cond.laysAt hf hk Y.cause (lay (by simp [sd_ownX]))
  obtain ⟨tS, dS, eS, nS⟩ := Cond.laysAt hf hk Y.stack (lay (by simp [sd_ownX]))
  obtain ⟨tP, dP, eP, nP⟩ := Cond.laysAt hf hk Y.supp (lay (by simp [sd_ownX]))
  obtain ⟨tM, dM, eM, nM⟩ := Cond.laysAt hf hk hfM (lay (by simp [sd_ownX]))
  obtain ⟨tB, dB, eB, nB⟩ := Cond.laysAt hf hk hfB (lay (by simp [sd_ownX]))
  have bC := Cond.laysApart eB eC nB nC (by rw [hnB, Y.causeName]; decide)
  have bS := Cond.laysApart eB eS nB nS (by rw [hnB, Y.stackName]; decide)
  have bP := Cond.laysApart eB eP nB nP (by rw [hnB, Y.suppName]; decide)
  have hskip : SkipFacts T e.platform s (fun u => u) u0 ((preparedCellV T.toThrowableT (freshCell P1.m.cls kX) a u0 sen).withEntry W.cur) :=
    ⟨{ ci198 := ci, i198 := i, fBack := fB }, ⟨k1, k2, k3, k4⟩, by
      have z := fresh_default (c := P1.m.cls) tB
      rw [htB] at z
      simpa [preparedCellV, Cell.setSlot, Cell.withEntry, Array.getElem?_setIfInBounds, bC, bS, bP, bC.symm, bS.symm, bP.symm, defaultValue] using z, fun _ _ => rfl⟩
  obtain ⟨_, _, _, _, vm₁, hn1, -, -, -, -, -, -, -, hW₁, st1⟩ := Steps.initColdS (tb := p.tables) (e := e) (below := below) (s := s) (U := W) X.here hexec X.warmed hpl hown (t := Bundle.initS cls) rfl rfl (Bundle.fit_spec hcls).2
    (w (.methodLink own ic (Bundle.initS cls)) (by simp [sd_ownX])) (h (.instanceMethod (Bundle.initS cls)) (by simp [sd_ownX, Bundle.passSAtoms])) (bytes := rx) (maxL := 2) (h (.code (Bundle.initS cls) rx 2 none) (by simp [sd_ownX, Bundle.passSAtoms]))
    (f := g) hg (a := a) (msg := msg) (rest := .ref a :: rest) hstack hd6
  cases Option.some.inj (hn1.symm.trans hP1)
  have X₁ := X.noted hW₁
  obtain ⟨vm₂, X₂, st2⟩ := X₁.ctorMessageOffV hexec (g := { g with stack := .ref a :: rest }) hg hsize T L Z LZ M LM (P1 :: Ps)
    (fun P hP => by rcases List.mem_cons.mp hP with rfl | hP; exact L1; exact hL P hP) ⟨hl1, hl2⟩ (u0 := u0) (sen := sen) (self := a) hmsg (cell := freshCell P1.m.cls kX) (cellS := cS)
    hcell (fun _ => by simp) (by simp) rfl rfl s0 s1 hcS (Nat.ne_of_lt (Nat.lt_of_lt_of_le (Array.getElem?_eq_some_iff.mp hcS0).1 hnew)) hkn (by rw [hkeep _ (hno _)]; exact hu0) (by rw [hkeep _ (hno _)]; exact hsen)
    (Takes.of_laid hk hord tC (by rw [Y.causeType]; rfl)) (Takes.of_laid hk hord tS (by rw [Y.stackType]; exact fits_refV_array _ u0)) (Takes.of_laid hk hord tP (by rw [Y.suppType]; exact fits_refV_object _ sen))
    (Takes.of_laid hk hord tM (by rw [Y.msgType]; exact fits_refV_object _ ⟨msg, hmsg⟩)) Y.objLocals hskip htr [] hd6 (by simp only [List.length_cons, hlen]; omega) (by simp only [List.length_cons, hlen]; exact hRl)
  obtain ⟨hwalk, hrun, hended, hWU, hsame⟩ := X₂.athrowLeaves hexec (g := { g with stack := .ref a :: rest, pc := g.pc + 3 }) hg hlocked hentered hout (a := a) (rest := rest) rfl hd9
  have hU := heapAt_setCell_self (s := (W.setVm vm₁).setVm vm₂) (plainBareV T.toThrowableT (freshCell P1.m.cls kX) a u0 sen msg) (Array.getElem?_eq_some_iff.mp hcell).1
  refine ⟨_, st1 _ (fun acts => ?_), hrun, hended, hWU, hsame.weaken (fun y hy hlt => ?_) (Nat.le_refl _) (Nat.le_refl _), _, hU, hf, rfl⟩
  · rw [doInvoke_state]
    exact st2 _ hwalk
  · rcases List.mem_append.mp hy with z | z
    · exact z
    · have hb : y.base = a := by
        simp only [List.mem_cons, List.not_mem_nil, or_false] at z
        rcases z with rfl | rfl | rfl | rfl | rfl <;> rfl
      rw [hb] at hlt
      exact absurd hlt (Nat.not_lt.mpr hnew)
end SDCX
def sd_atX (own : String) (ic : Nat) (X : String) (ix : Nat) (rx : ByteArray) (Y0 : String) (r0 : List String) : List Cond := (sd_ownX own ic X ix rx Y0 r0).filter vx_no
section SDVX
variable {p : Program} {l : Launch} {e : Env} {R : Room} {s : State} {m : MethodId} {args : Array Value} {below : List Frame} {meth : Method} {c : Code} {H : Heap} {locs : List Loc} {cells slots : Nat} {free : Addr → Prop} {ls : Array Slot} {rest : List Value} {Qc : Array Value → State → Outcome → State → Prop} {XC : String → State → State → Prop}
theorem sd_vxthrowX {cc : ByteArray} {pc : Nat} (hexec : p.tables.exec = Jvm.exec) (hb : c.code = cc) (hl : l.stackTraces = false) {own cls text Y0 : String} {r0 : List String} {ik is ic ix mc ms sa : Nat} {rx : ByteArray} {A : Nat → Prop}
    (x0 : decode rx 0 = .ok (.aload_n 0, 1)) (x1 : decode rx 1 = .ok (.aload_n 1, 1)) (x2 : decode rx 2 = .ok (.invokespecial ix, 3)) (x5 : decode rx 5 = .ok (.return_, 1)) (hown : s.vm.findClass own = some m.cls) (hcls : Bundle.fit cls = true) (hnames : ∀ n ∈ (Y0 :: r0), Bundle.fit n = true)
    (hk : (Cond.classLink own ik cls).before args s = true) (hini : (Cond.initialized cls).before args s = true) (hstr : vk_R own is text sa s) (hat : ∀ w ∈ sd_atX own ic cls ix rx Y0 r0, w.before args s = true)
    (hgood : ∀ w ∈ Cond.classLink own ik cls :: Cond.initialized cls :: sd_atX own ic cls ix rx Y0 r0, vx_ot w = true)
    (hU : vx_Zq Bundle.tN "UNASSIGNED_STACK" Bundle.steD A s s.heap) (hN : vx_Zq Bundle.tN "SUPPRESSED_SENTINEL" Bundle.listD A s s.heap) (hS : va_S A s.heap H locs) (hsize : ls.size = c.maxLocals)
    (d0 : decode cc pc = .ok (.new ik, 3)) (d3 : decode cc (pc + 3) = .ok (.dup, 1)) (d4 : decode cc (pc + 4) = .ok (.ldc is, 2)) (d6 : decode cc (pc + 6) = .ok (.invokespecial ic, 3)) (d9 : decode cc (pc + 9) = .ok (.athrow, 1))
    (hout : ∀ x ∈ c.exceptionTable.toList, covers x (pc + 9) = false)
    (hRframes : (Y0 :: r0).length + 3 < R.frames) (hRlocals : (rest.map fun v => v.category).sum + (13 * ((Y0 :: r0).length + 1) + 43) ≤ R.locals) (hRcells : cells + 1 ≤ R.cells) (hRslots : slots + 6 ≤ R.slots) (hlocks : meth.locks = false)
    (hx : ∀ t : State, s.vm.Alike t.vm → H.size ≤ t.heap.size → (∀ q : Nat, q < H.size → t.heap[q]? = H[q]?) → XC cls s t)
    (hf : ∀ z ∈ locs, free z.base) (hc : cells + 1 ≤ mc) (hs : slots + 6 ≤ ms) :
    W p l e R s m args below meth c H locs cells slots (vx_MQ below Qc XC args s mc ms free) (F0 m pc ls rest) := by
  intro T hT X
  have htr : e.platform.stackTraces = false := (show e.platform.stackTraces = l.stackTraces by rw [X.admits.platform]).trans hl
  have Y := vx_rebase X (R' := { frames := R.frames, locals := R.locals, cells := 1, slots := 6 }) (Nat.le_refl _) (Nat.le_refl _) hRcells hRslots
  obtain ⟨s', hA⟩ : ∃ z, z = (T.setVm s.vm).setFrames (.invoking m args :: below) := ⟨_, rfl⟩
  rw [← hA] at Y
  have hvm : s'.vm = s.vm := by rw [hA]; rfl
  have hhp : s'.heap = H := by rw [hA]; exact hT
  have hW0 : s.WarmedH s'.vm := by rw [hvm]; exact State.WarmedH.refl s
  have hat' : ∀ w ∈ sd_atX own ic cls ix rx Y0 r0, w.before args s' = true := fun w hw => vx_ot_at hW0 hvm.symm (hgood w (List.mem_cons_of_mem _ (List.mem_cons_of_mem _ hw))) (hat w hw)
  have hk' : (Cond.classLink own ik cls).before args s' = true := vx_ot_at hW0 hvm.symm (hgood _ List.mem_cons_self) hk
  have hini' : (Cond.initialized cls).before args s' = true := vx_ot_at hW0 hvm.symm (hgood _ (List.mem_cons_of_mem _ List.mem_cons_self)) hini
  have hU' : vx_Zq Bundle.tN "UNASSIGNED_STACK" Bundle.steD A s' s'.heap := by rw [hhp]; exact vx_Zq.moved hW0.alike (hU.kept hS.2.1)
  have hN' : vx_Zq Bundle.tN "SUPPRESSED_SENTINEL" Bundle.listD A s' s'.heap := by rw [hhp]; exact vx_Zq.moved hW0.alike (hN.kept hS.2.1)
  have h : ∀ w ∈ sd_ownX own ic cls ix rx Y0 r0, w.before args s' = true := vx_own hat' (vx_isRefq hU'.1) (vx_isRefq hN'.1) hU'.2.word hN'.2.word
  have hown' : s'.vm.findClass own = some m.cls := by rw [hvm]; exact hown
  have hins : (Cond.instantiable cls 6).before args s' = true := h _ (by simp [sd_ownX])
  obtain ⟨vm₁, cX, kX, hfX, hkX, -, -, X₁, st1⟩ := Y.newCold hexec (own := own) (C := cls) (index := ik) (n := 6) hown' hk' hins hini'
    (g := F0 m pc ls rest) rfl (by rw [hb]; exact d0) (Nat.le_refl _) (Nat.le_refl _)
  generalize hT1 : (T.setVm vm₁).pushCell { cls := cX, slots := kX.instanceTypes.map defaultValue, vm := .none } = T1 at X₁ st1
  have hcat : (Value.ref T.heap.size).category = 1 := rfl
  have hcellA : T1.heap[T.heap.size]? = some (freshCell cX kX) := by rw [← hT1]; exact State.heap_pushCell_size _ _
  have d3' : decode c.code (pc + 3) = .ok (.dup, 1) := by rw [hb]; exact d3
  have d4' : decode c.code (pc + 4) = .ok (.ldc is, 2) := by rw [hb]; exact d4
  have hstr' : vk_R own is text sa s' := vk_R.warm hW0 hstr
  obtain ⟨U, hsteps, hrun, hend, hW, hsame, ce, hce, hO⟩ := sd_ctorX X₁ hexec htr x0 x1 x2 x5 (own := own) (cls := cls) (Y0 := Y0) (r0 := r0) (ic := ic) hown' hcls hnames h (fun x hx => nomatch hx) hfX hkX hcellA (by rw [hhp, hT]; exact Nat.le_refl _) (msg := .ref sa) rfl
    (g := { method := m, pc := pc + 6, locals := ls, stack := .ref sa :: .ref T.heap.size :: .ref T.heap.size :: rest, locked := none }) rfl hsize rfl rfl (rest := rest) rfl
    (by rw [hb]; exact d6) (by rw [hb]; exact d9) hout hRframes (by simp only [List.map_cons, List.sum_cons, hcat]; omega) hlocks
  obtain ⟨f1, f2⟩ := vx_frame hsame
  rw [hhp] at f1 f2
  have hWs : s.WarmedH U.vm := State.WarmedH.trans hW0 hW
  have hcl : s.vm.findClass cls = some ce.cls := by
    have h9 := hO.1
    rw [hvm] at h9
    exact h9
  have hall : s.sameButNew ({ U with vm := s.vm } : State) locs mc ms := by
    subst hA
    obtain ⟨e1, e2⟩ := hsame
    rw [State.setFrames_setFrames] at e1
    have h2 : (T.setVm s.vm).sameButNew ({ U with vm := s.vm } : State) [] (0 + 1) (0 + 6) := ⟨e1, e2⟩
    have h3 := X.same.trans h2
    rw [List.append_nil] at h3
    exact h3.mono hc hs
  refine ⟨U, ?_, .threw T.heap.size, hrun, hend, Or.inr ⟨T.heap.size, rfl, cls, ce, locs, hx U hWs.alike f1 (fun q hq => f2 q hq (fun z hz => nomatch hz)), hce, hO.2, hcl, hWs, hall, hf⟩⟩
  refine st1 _ ?_
  show Steps p.tables e below (T1.setTop { method := m, pc := pc + 3, locals := ls, stack := .ref T.heap.size :: rest, locked := none }) _
  jvm_step X₁.here [X₁.here.top, hexec, d3', Value.category]
  exact X₁.ldcString hexec (own := own) (text := text) (index := is) (a := sa) hown' hstr'.1 hstr'.2
    (g := { method := m, pc := pc + 4, locals := ls, stack := .ref T.heap.size :: .ref T.heap.size :: rest, locked := none }) rfl d4' _ hsteps
end SDVX
abbrev xIA : String := "java/lang/IllegalArgumentException"
abbrev xUO : String := "java/lang/UnsupportedOperationException"
abbrev xNS : String := "java/util/NoSuchElementException"
abbrev xIS : String := "java/lang/IllegalStateException"
/-! throws: what they stand on is carried in the contracts; calls of methods that may throw -/
def sd_strs : List (String × Nat × String) := [("StockDesk", 144, "a number is outside its range"), ("StockDesk", 36, "no room for another thing of this kind"), ("StockDesk", 142, "no room for another act"), ("StockDesk", 156, "there is no such thing"), ("StockDesk", 148, "an amount is outside its range"), ("StockDesk", 71, "the part failed"), ("StockDesk", 78, "the part would fail"), ("StockDesk", 92, "there is no act to take back"), ("StockDesk", 112, "nothing else is told")]
def sd_nws : List Cond := [Cond.methodLinkNest "StockDesk" 9 ⟨"StockDesk$ActRow", "<init>", "()V"⟩ "StockDesk", Cond.fieldLinkNest "StockDesk" 97 "StockDesk$House" "failures" "I" "StockDesk", Cond.fieldLinkNest "StockDesk" 101 "StockDesk$House" "toldWay" "I" "StockDesk", Cond.fieldLinkNest "StockDesk" 104 "StockDesk$House" "toldPart" "I" "StockDesk", Cond.fieldLinkNest "StockDesk" 107 "StockDesk$House" "toldNumber" "I" "StockDesk", Cond.fieldLinkNest "StockDesk" 132 "StockDesk$House" "answered" "I" "StockDesk", Cond.fieldLinkNest "StockDesk" 129 "StockDesk$House" "collected" "I" "StockDesk", Cond.castable "java/lang/IllegalArgumentException" "java/lang/IllegalArgumentException", Cond.declares ⟨"java/lang/RuntimeException", "<init>", "()V"⟩, Cond.declares ⟨"java/lang/RuntimeException", "<init>", "(Ljava/lang/String;)V"⟩, Cond.declares ⟨"java/lang/Exception", "<init>", "()V"⟩, Cond.declares ⟨"java/lang/Exception", "<init>", "(Ljava/lang/String;)V"⟩, Cond.declares ⟨"java/lang/Throwable", "<init>", "()V"⟩, Cond.declares ⟨"java/lang/Throwable", "<init>", "(Ljava/lang/String;)V"⟩, Cond.castable "java/lang/UnsupportedOperationException" "java/lang/UnsupportedOperationException", Cond.castable "java/util/NoSuchElementException" "java/util/NoSuchElementException", Cond.castable "java/lang/IllegalStateException" "java/lang/IllegalStateException"]
def sd_ncs : List (String × String) := [("java/lang/UnsupportedOperationException", "java/lang/IllegalArgumentException"), ("java/util/NoSuchElementException", "java/lang/IllegalArgumentException"), ("java/lang/IllegalStateException", "java/lang/IllegalArgumentException"), ("java/lang/IllegalArgumentException", "java/lang/UnsupportedOperationException"), ("java/util/NoSuchElementException", "java/lang/UnsupportedOperationException"), ("java/lang/IllegalStateException", "java/lang/UnsupportedOperationException"), ("java/lang/IllegalArgumentException", "java/util/NoSuchElementException"), ("java/lang/UnsupportedOperationException", "java/util/NoSuchElementException"), ("java/lang/IllegalStateException", "java/util/NoSuchElementException"), ("java/lang/IllegalArgumentException", "java/lang/IllegalStateException"), ("java/lang/UnsupportedOperationException", "java/lang/IllegalStateException"), ("java/util/NoSuchElementException", "java/lang/IllegalStateException")]
theorem sd_nws_ok : ∀ w ∈ sd_nws, w.onTables = true ∧ ∀ s U : State, s.WarmedH U.vm → va_Nw w s → va_Nw w U := by
  intro w hw
  simp only [sd_nws, List.mem_cons, List.not_mem_nil, or_false] at hw
  rcases hw with rfl | rfl | rfl | rfl | rfl | rfl | rfl | rfl | rfl | rfl | rfl | rfl | rfl | rfl | rfl | rfl | rfl
  · exact ⟨rfl, fun _ _ hW h => va_Nw.warmM hW h⟩
  · exact ⟨rfl, fun _ _ hW h => va_Nw.warmF hW h⟩
  · exact ⟨rfl, fun _ _ hW h => va_Nw.warmF hW h⟩
  · exact ⟨rfl, fun _ _ hW h => va_Nw.warmF hW h⟩
  · exact ⟨rfl, fun _ _ hW h => va_Nw.warmF hW h⟩
  · exact ⟨rfl, fun _ _ hW h => va_Nw.warmF hW h⟩
  · exact ⟨rfl, fun _ _ hW h => va_Nw.warmF hW h⟩
  · exact ⟨rfl, fun _ _ hW h => va_Nw.warmC hW h⟩
  · exact ⟨rfl, fun _ _ hW h => va_Nw.warmD hW h⟩
  · exact ⟨rfl, fun _ _ hW h => va_Nw.warmD hW h⟩
  · exact ⟨rfl, fun _ _ hW h => va_Nw.warmD hW h⟩
  · exact ⟨rfl, fun _ _ hW h => va_Nw.warmD hW h⟩
  · exact ⟨rfl, fun _ _ hW h => va_Nw.warmD hW h⟩
  · exact ⟨rfl, fun _ _ hW h => va_Nw.warmD hW h⟩
  · exact ⟨rfl, fun _ _ hW h => va_Nw.warmC hW h⟩
  · exact ⟨rfl, fun _ _ hW h => va_Nw.warmC hW h⟩
  · exact ⟨rfl, fun _ _ hW h => va_Nw.warmC hW h⟩
/-- the two statics of Throwable, the texts, the words that aren't the tables' good ones, who isn't whose -/
def sd_tz (A : Nat → Prop) (U : State) (H : Heap) : Prop := vx_Zq Bundle.tN "UNASSIGNED_STACK" Bundle.steD A U H ∧ vx_Zq Bundle.tN "SUPPRESSED_SENTINEL" Bundle.listD A U H ∧ (∀ x ∈ sd_strs, ∃ q, vk_R x.1 x.2.1 x.2.2 q U) ∧ (∀ w ∈ sd_nws, va_Nw w U) ∧ (∀ x ∈ sd_ncs, va_Nc x.1 x.2 U)
theorem sd_tz.go {A B : Nat → Prop} {s U : State} {H : Heap} {locs : List Loc} (h : sd_tz A s s.heap) (hS : va_S A s.heap H locs) (hU : U.heap = H) (hW : s.WarmedH U.vm) (hAB : ∀ q, B q → A q) : sd_tz B U U.heap := by
  obtain ⟨h1, h2, h3, h4, h5⟩ := h
  rw [hU]
  refine ⟨vx_Zq.moved hW.alike ((h1.kept hS.2.1).narrow hAB), vx_Zq.moved hW.alike ((h2.kept hS.2.1).narrow hAB), fun x hx => ?_, fun w hw => (sd_nws_ok w hw).2 s U hW (h4 w hw), fun x hx => va_Nc.moved hW.alike (h5 x hx)⟩
  obtain ⟨q, hq⟩ := h3 x hx
  exact ⟨q, vk_R.warm hW hq⟩
def sd_Px (D : va_G) (tys : List (ClassId × FieldType)) (av : List Value) (sz : Nat) (wc : va_W) : Array Value → State → Prop := va_Pc av (fun U => U.heap.size = sz ∧ va_P D vwCl wc U.heap ∧ va_K D vwCl tys U ∧ va_D (fun _ => True) wc ∧ sd_tz (va_A wc sz) U U.heap)
def sd_X (D : va_G) (tys : List (ClassId × FieldType)) (A : Nat → Prop) (PX : String → va_W → Prop) : String → State → State → Prop := vx_X (S := va_W) (fun _ => True) (fun E w t => PX E w ∧ sd_B D tys A w t) A
theorem sd_tz_calling {A : Nat → Prop} {U : State} {g : JFrame} {mk : MethodId} {a : Array Value} (h : sd_tz A U U.heap) : sd_tz A (U.calling g mk a) (U.calling g mk a).heap := by
  obtain ⟨h1, h2, h3, h4, h5⟩ := h
  refine ⟨vx_Zq.moved (u := U) (U := U.calling g mk a) (Vm.Alike.refl U.vm) h1, vx_Zq.moved (u := U) (U := U.calling g mk a) (Vm.Alike.refl U.vm) h2, fun x hx => ?_, fun w hw => va_Nw.same (sd_nws_ok w hw).1 (u := U) (U := U.calling g mk a) rfl (h4 w hw), fun x hx => va_Nc.moved (u := U) (U := U.calling g mk a) (Vm.Alike.refl U.vm) (h5 x hx)⟩
  obtain ⟨q, hq⟩ := h3 x hx
  exact ⟨q, vk_R.same (u := U) (U := U.calling g mk a) rfl hq⟩
theorem sd_blindx {D : va_G} {tys : List (ClassId × FieldType)} {av : List Value} {sz : Nat} {wc : va_W} : FrameBlind (sd_Px D tys av sz wc) := by
  intro a U g mk h
  obtain ⟨h0, h1, h2, h3, h4, h5⟩ := h
  exact ⟨h0, h1, h2, va_K.moved (u := U) (U := U.calling g mk a) (Vm.Alike.refl U.vm) h3, h4, sd_tz_calling h5⟩
section SDXE
variable {l : Launch} {y : MethodName} {rm : Room} {Qc : Array Value → State → Outcome → State → Prop} {XC : String → State → State → Prop} {mc ms sz maxL : Nat} {cc : ByteArray} {ret : Option FieldType} {D : va_G} {tys : List (ClassId × FieldType)} {av : List Value} {wc : va_W}
theorem sd_metx (hy : plainName y.cls = true) (hav : (lg_sl av).length ≤ maxL)
    (body : ∀ (p : Program) (e : Env) (s : State) (m : MethodId) (below : List Frame) (meth : Method) (c : Code), CallFix p m c cc maxL s av.toArray (Cond.code y cc maxL ret :: sd_all) y.cls → meth.sig.returnType = ret → meth.locks = false → (∀ x ∈ c.exceptionTable.toList, False) → sd_tz (va_A wc sz) s s.heap → sd_w D (va_A wc sz) s tys wc s.heap [] → ∀ ls : Array Slot, lv_has ls maxL (lv_args 0 av) → W p l e rm s m av.toArray below meth c s.heap [] 0 0 (vx_MQ below Qc XC av.toArray s mc ms (va_A wc sz)) (F0 m 0 ls [])) :
    vx_Met l y (sd_ws y cc maxL ret) rm (sd_Px D tys av sz wc) Qc XC mc ms (va_A wc sz) := by
  refine vx_ofW (cc := cc) (maxL := maxL) (ret := ret) (ws' := sd_all) hy rfl ?_
  intro p e s m args below meth c s₁ B hml htb hv
  obtain ⟨rfl, hsz, hP, hK, hD0, hz⟩ := hv
  have hl := lv_entry av (n := maxL) hav
  rw [lg_entry_eq]
  refine body p e s m below meth c ⟨B.exec, B.bytes, hml, findClass_of_methodNamed B.named, atoms_spec (ws := sd_ws y cc maxL ret) B.pre⟩ B.returns B.notSynchronized htb hz ⟨hP, hD0.self, hK, va_S.rf, ?_⟩ _ hl
  intro q h
  exact Or.inr (by omega)
/-- a body that throws nothing, with the words that throws stand on -/
theorem sd_mett (hy : plainName y.cls = true) (hav : (lg_sl av).length ≤ maxL)
    (body : ∀ (p : Program) (e : Env) (s : State) (m : MethodId) (below : List Frame) (meth : Method) (c : Code), CallFix p m c cc maxL s av.toArray (Cond.code y cc maxL ret :: sd_all) y.cls → meth.sig.returnType = ret → meth.locks = false → meth.name = y.name → sd_tz (va_A wc sz) s s.heap → sd_w D (va_A wc sz) s tys wc s.heap [] → ∀ ls : Array Slot, lv_has ls maxL (lv_args 0 av) → W p l e rm s m av.toArray below meth c s.heap [] 0 0 (MQ below Qc av.toArray s mc ms (va_A wc sz)) (F0 m 0 ls [])) :
    Met l y (sd_ws y cc maxL ret) rm (sd_Px D tys av sz wc) Qc mc ms (va_A wc sz) := by
  refine Met.ofW (cc := cc) (maxL := maxL) (ret := ret) (ws' := sd_all) hy rfl ?_
  intro p e s m args below meth c s₁ B hml hv
  obtain ⟨rfl, hsz, hP, hK, hD0, hz⟩ := hv
  have hl := lv_entry av (n := maxL) hav
  rw [lg_entry_eq]
  refine body p e s m below meth c ⟨B.exec, B.bytes, hml, findClass_of_methodNamed B.named, atoms_spec (ws := sd_ws y cc maxL ret) B.pre⟩ B.returns B.notSynchronized (name_of_methodNamed B.named B.method).1 hz ⟨hP, hD0.self, hK, va_S.rf, ?_⟩ _ hl
  intro q h
  exact Or.inr (by omega)
/-- a body that catches -/
theorem sd_metw {hh : List (Nat × Nat × Nat × Nat)} (hy : plainName y.cls = true) (hav : (lg_sl av).length ≤ maxL)
    (body : ∀ (p : Program) (e : Env) (s : State) (m : MethodId) (below : List Frame) (meth : Method) (c : Code), CallFix p m c cc maxL s av.toArray (Cond.codeWith y cc maxL ret hh :: sd_all) y.cls → meth.sig.returnType = ret → meth.locks = false → c.exceptionTable.toList = tableOf hh → sd_tz (va_A wc sz) s s.heap → sd_w D (va_A wc sz) s tys wc s.heap [] → ∀ ls : Array Slot, lv_has ls maxL (lv_args 0 av) → W p l e rm s m av.toArray below meth c s.heap [] 0 0 (MQ below Qc av.toArray s mc ms (va_A wc sz)) (F0 m 0 ls [])) :
    Met l y (Cond.codeWith y cc maxL ret hh :: sd_all) rm (sd_Px D tys av sz wc) Qc mc ms (va_A wc sz) := by
  refine va_MetW (cc := cc) (maxL := maxL) (ret := ret) (hh := hh) (ws' := sd_all) hy rfl ?_
  intro p e s m args below meth c s₁ B hml hv
  obtain ⟨rfl, hsz, hP, hK, hD0, hz⟩ := hv
  have hl := lv_entry av (n := maxL) hav
  have hts := atoms_spec (ws := Cond.codeWith y cc maxL ret hh :: sd_all) B.pre
  rw [lg_entry_eq]
  refine body p e s m below meth c ⟨B.exec, B.bytes, hml, findClass_of_methodNamed B.named, hts⟩ B.returns B.notSynchronized (vx_table (x := y) B (hts _ List.mem_cons_self)) hz ⟨hP, hD0.self, hK, va_S.rf, ?_⟩ _ hl
  intro q h
  exact Or.inr (by omega)
end SDXE
section SDXR
variable {p : Program} {l : Launch} {e : Env} {R : Room} {s : State} {m : MethodId} {args : Array Value} {below : List Frame} {meth : Method} {c : Code} {H : Heap} {locs : List Loc} {cells slots : Nat} {Q : State → Prop}
variable {cc : ByteArray} {nL pc : Nat} {ls : Array Slot} {st0 rest : List Value} {D : va_G} {A : Nat → Prop} {w : va_W} {tys : List (ClassId × FieldType)} {cw : Cond} {own : String}
variable {wa wc wb : va_W} {mc ms : Nat} {aa : Array Value} {As : List Value}
theorem sd_preSx (h : sd_w D A s tys (wa ++ wc ++ wb) H locs) (hz : sd_tz A s s.heap) : PreS s H (sd_Px D tys As H.size wc) As :=
  ⟨sd_blindx, fun U hU hW => ⟨rfl, by rw [hU], by rw [hU]; exact sd_piece h.1, va_K.moved hW.alike h.2.2.1, sd_pieceD h.2.1, hz.go h.2.2.2.1 hU hW (sd_pieceF h.2.1 h.2.2.2.1 h.2.2.2.2)⟩⟩
theorem sd_preVx {b q0 ci N : Nat} {Cn : String} {T : u_T} {fs : List Value} (h : sd_w D A s tys (wa ++ wc ++ wb) H locs) (hz : sd_tz A s s.heap) (he : (wa ++ wc ++ wb)[q0]? = some (b, .inr (ci, fs))) (hc : vwCl[ci]? = some (Cn, T, N)) : PreV s H Cn b (sd_Px D tys (.ref b :: As) H.size wc) As :=
  ⟨sd_blindx, va_recv h.2.2.1 h.1 hc he, fun U hU hW => ⟨rfl, by rw [hU], by rw [hU]; exact sd_piece h.1, va_K.moved hW.alike h.2.2.1, sd_pieceD h.2.1, hz.go h.2.2.2.1 hU hW (sd_pieceF h.2.1 h.2.2.2.1 h.2.2.2.2)⟩⟩
theorem sd_xcalli {PR : Int32 → va_W → Prop} {PX : String → va_W → Prop} (h : sd_w D A s tys (wa ++ wc ++ wb) H locs) (hr : vx_Run p l e R s m args below meth c H locs cells slots mc ms (F0 m pc ls st0) rest (sd_Qi D tys (va_A wc H.size) PR aa) (sd_X D tys (va_A wc H.size) PX) (va_A wc H.size))
    (kx : ∀ (E : String) (ce : Cell) (q9 : Addr) (w1 : va_W) (H1 : Heap) (locs1 : List Loc), PX E w1 → sd_w D A s tys (wa ++ w1 ++ wb) H1 locs1 → H1[q9]? = some ce → ce.vm = .none → s.vm.findClass E = some ce.cls → vx_W p l e R s m args below meth c H1 locs1 (cells + mc) (slots + ms) Q (F0 m pc ls rest) q9)
    (kk : ∀ (r : Int32) (w1 : va_W) (H1 : Heap) (locs1 : List Loc), PR r w1 → sd_w D A s tys (wa ++ w1 ++ wb) H1 locs1 → W p l e R s m args below meth c H1 locs1 (cells + mc) (slots + ms) Q (F0 m (pc + 3) ls (.int r :: rest))) : W p l e R s m args below meth c H locs cells slots Q (F0 m pc ls st0) :=
  vx_calli hr h.2.2.2.1 (fun q _ z => sd_pieceF h.2.1 h.2.2.2.1 h.2.2.2.2 q z) (sd_pieceF h.2.1 h.2.2.2.1 h.2.2.2.2) (fun q _ z => sd_pieceF h.2.1 h.2.2.2.1 h.2.2.2.2 q z) (fun E ce q9 u t H1 locs1 ht hvm _ hB _ hk hS h1 h2 h3 => kx E ce q9 u H1 locs1 hB.1 (sd_after h ht hvm hB.2 hk hS) h1 h2 h3) (fun r u t H1 locs1 ht hvm hw hB _ hk hS => kk r u H1 locs1 hw (sd_after h ht hvm hB hk hS))
theorem sd_xcalll {PR : Int64 → va_W → Prop} {PX : String → va_W → Prop} (h : sd_w D A s tys (wa ++ wc ++ wb) H locs) (hr : vx_Run p l e R s m args below meth c H locs cells slots mc ms (F0 m pc ls st0) rest (sd_Ql D tys (va_A wc H.size) PR aa) (sd_X D tys (va_A wc H.size) PX) (va_A wc H.size))
    (kx : ∀ (E : String) (ce : Cell) (q9 : Addr) (w1 : va_W) (H1 : Heap) (locs1 : List Loc), PX E w1 → sd_w D A s tys (wa ++ w1 ++ wb) H1 locs1 → H1[q9]? = some ce → ce.vm = .none → s.vm.findClass E = some ce.cls → vx_W p l e R s m args below meth c H1 locs1 (cells + mc) (slots + ms) Q (F0 m pc ls rest) q9)
    (kk : ∀ (r : Int64) (w1 : va_W) (H1 : Heap) (locs1 : List Loc), PR r w1 → sd_w D A s tys (wa ++ w1 ++ wb) H1 locs1 → W p l e R s m args below meth c H1 locs1 (cells + mc) (slots + ms) Q (F0 m (pc + 3) ls (.long r :: rest))) : W p l e R s m args below meth c H locs cells slots Q (F0 m pc ls st0) :=
  vx_calll hr h.2.2.2.1 (fun q _ z => sd_pieceF h.2.1 h.2.2.2.1 h.2.2.2.2 q z) (sd_pieceF h.2.1 h.2.2.2.1 h.2.2.2.2) (fun q _ z => sd_pieceF h.2.1 h.2.2.2.1 h.2.2.2.2 q z) (fun E ce q9 u t H1 locs1 ht hvm _ hB _ hk hS h1 h2 h3 => kx E ce q9 u H1 locs1 hB.1 (sd_after h ht hvm hB.2 hk hS) h1 h2 h3) (fun r u t H1 locs1 ht hvm hw hB _ hk hS => kk r u H1 locs1 hw (sd_after h ht hvm hB hk hS))
theorem sd_xcallv {PR : va_W → Prop} {PX : String → va_W → Prop} (h : sd_w D A s tys (wa ++ wc ++ wb) H locs) (hr : vx_Run p l e R s m args below meth c H locs cells slots mc ms (F0 m pc ls st0) rest (sd_Qv D tys (va_A wc H.size) PR aa) (sd_X D tys (va_A wc H.size) PX) (va_A wc H.size))
    (kx : ∀ (E : String) (ce : Cell) (q9 : Addr) (w1 : va_W) (H1 : Heap) (locs1 : List Loc), PX E w1 → sd_w D A s tys (wa ++ w1 ++ wb) H1 locs1 → H1[q9]? = some ce → ce.vm = .none → s.vm.findClass E = some ce.cls → vx_W p l e R s m args below meth c H1 locs1 (cells + mc) (slots + ms) Q (F0 m pc ls rest) q9)
    (kk : ∀ (w1 : va_W) (H1 : Heap) (locs1 : List Loc), PR w1 → sd_w D A s tys (wa ++ w1 ++ wb) H1 locs1 → W p l e R s m args below meth c H1 locs1 (cells + mc) (slots + ms) Q (F0 m (pc + 3) ls rest)) : W p l e R s m args below meth c H locs cells slots Q (F0 m pc ls st0) :=
  vx_callv hr h.2.2.2.1 (fun q _ z => sd_pieceF h.2.1 h.2.2.2.1 h.2.2.2.2 q z) (sd_pieceF h.2.1 h.2.2.2.1 h.2.2.2.2) (fun q _ z => sd_pieceF h.2.1 h.2.2.2.1 h.2.2.2.2 q z) (fun E ce q9 u t H1 locs1 ht hvm _ hB _ hk hS h1 h2 h3 => kx E ce q9 u H1 locs1 hB.1 (sd_after h ht hvm hB.2 hk hS) h1 h2 h3) (fun u t H1 locs1 ht hvm hw hB _ hk hS => kk u H1 locs1 hw (sd_after h ht hvm hB hk hS))
/-- a callee's throw goes on to the caller -/
theorem sd_on {Qc : Array Value → State → Outcome → State → Prop} {PX : String → va_W → Prop} {E : String} {ce : Cell} {q9 : Addr} (hlk : meth.locks = false) (htb : ∀ x ∈ c.exceptionTable.toList, False) (h : sd_w D A s tys w H locs) (hq : PX E w) (hce : H[q9]? = some ce) (hcv : ce.vm = .none) (hcl : s.vm.findClass E = some ce.cls) (hc : cells ≤ mc) (hs : slots ≤ ms) :
    vx_W p l e R s m args below meth c H locs cells slots (vx_MQ below Qc (sd_X D tys A PX) args s mc ms A) (F0 m pc ls rest) q9 :=
  vx_out (fun x hx => absurd hx (fun z => htb x z)) hlk hce hcv hcl (fun t ht hal => ⟨w, trivial, ⟨hq, by rw [ht]; exact h.1, va_K.moved hal h.2.2.1, h.2.1⟩, h.2.2.2.1.F ht⟩) h.2.2.2.1.2.2 hc hs
/-- throw new E("text") -/
theorem sd_throw {Qc : Array Value → State → Outcome → State → Prop} {PX : String → va_W → Prop} {cls text : String} {names : List String} {ik is ic : Nat} (C : CallFix p m c cc nL s args (cw :: sd_all) own) (hst : l.stackTraces = false) (hlk : meth.locks = false) (htb : ∀ x ∈ c.exceptionTable.toList, False) (hz : sd_tz A s s.heap) (h : sd_w D A s tys w H locs) (hsz : ls.size = nL)
    (hcls : Bundle.fit cls = true) (hnames : ∀ n ∈ names, Bundle.fit n = true) (hk : Cond.classLink own ik cls ∈ sd_all) (hini : Cond.initialized cls ∈ sd_all) (hstr : (own, is, text) ∈ sd_strs) (hat : ∀ x ∈ vx_atS own ic cls names, x ∈ sd_all ∨ x ∈ sd_nws) (hgood : ∀ x ∈ Cond.classLink own ik cls :: Cond.initialized cls :: vx_atS own ic cls names, vx_ot x = true)
    (d0 : decode cc pc = .ok (.new ik, 3)) (d3 : decode cc (pc + 3) = .ok (.dup, 1)) (d4 : decode cc (pc + 4) = .ok (.ldc is, 2)) (d6 : decode cc (pc + 6) = .ok (.invokespecial ic, 3)) (d9 : decode cc (pc + 9) = .ok (.athrow, 1))
    (hf : names.length + 3 < R.frames) (hlo : (rest.map fun v => v.category).sum + (13 * (names.length + 1) + 43) ≤ R.locals) (hcells : cells + 1 ≤ R.cells) (hslots : slots + 6 ≤ R.slots) (hq : PX cls w) (hc : cells + 1 ≤ mc) (hs : slots + 6 ≤ ms) :
    W p l e R s m args below meth c H locs cells slots (vx_MQ below Qc (sd_X D tys A PX) args s mc ms A) (F0 m pc ls rest) := by
  obtain ⟨sa, hsa⟩ := hz.2.2.1 _ hstr
  refine vx_throwS C.1 C.2.1 hst C.2.2.2.1 hcls hnames (C.2.2.2.2 _ (List.mem_cons_of_mem _ hk)) (C.2.2.2.2 _ (List.mem_cons_of_mem _ hini)) hsa (fun x hx => ?_) hgood hz.1 hz.2.1 h.2.2.2.1 (by rw [hsz]; exact C.2.2.1.symm) d0 d3 d4 d6 d9 (fun x hx => absurd hx (fun z => htb x z)) hf hlo hcells hslots hlk (fun t hal hge hke => ?_) h.2.2.2.1.2.2 hc hs
  · rcases hat x hx with g | g
    · exact C.2.2.2.2 _ (List.mem_cons_of_mem _ g)
    · exact va_Nw.use (sd_nws_ok x g).1 (hz.2.2.2.1 x g)
  · refine ⟨w, trivial, ⟨hq, ?_, va_K.moved hal h.2.2.1, h.2.1⟩, Nat.le_trans h.2.2.2.1.1 hge, fun q h1 h2 => ?_⟩
    · exact h.1.kept fun k x hx => hke _ (h.1 k x hx).lt
    · rw [hke q (Nat.lt_of_lt_of_le h1 h.2.2.2.1.1)]
      exact h.2.2.2.1.2.1 q h1 h2
/-- the same, of a class whose constructor has another index -/
theorem sd_throwX {Qc : Array Value → State → Outcome → State → Prop} {PX : String → va_W → Prop} {cls text Y0 : String} {r0 : List String} {ik is ic ix : Nat} {rx : ByteArray} (C : CallFix p m c cc nL s args (cw :: sd_all) own) (hst : l.stackTraces = false) (hlk : meth.locks = false) (htb : ∀ x ∈ c.exceptionTable.toList, False) (hz : sd_tz A s s.heap) (h : sd_w D A s tys w H locs) (hsz : ls.size = nL) (x0 : decode rx 0 = .ok (.aload_n 0, 1)) (x1 : decode rx 1 = .ok (.aload_n 1, 1)) (x2 : decode rx 2 = .ok (.invokespecial ix, 3)) (x5 : decode rx 5 = .ok (.return_, 1))
    (hcls : Bundle.fit cls = true) (hnames : ∀ n ∈ (Y0 :: r0), Bundle.fit n = true) (hk : Cond.classLink own ik cls ∈ sd_all) (hini : Cond.initialized cls ∈ sd_all) (hstr : (own, is, text) ∈ sd_strs) (hat : ∀ x ∈ sd_atX own ic cls ix rx Y0 r0, x ∈ sd_all ∨ x ∈ sd_nws) (hgood : ∀ x ∈ Cond.classLink own ik cls :: Cond.initialized cls :: sd_atX own ic cls ix rx Y0 r0, vx_ot x = true)
    (d0 : decode cc pc = .ok (.new ik, 3)) (d3 : decode cc (pc + 3) = .ok (.dup, 1)) (d4 : decode cc (pc + 4) = .ok (.ldc is, 2)) (d6 : decode cc (pc + 6) = .ok (.invokespecial ic, 3)) (d9 : decode cc (pc + 9) = .ok (.athrow, 1))
    (hf : (Y0 :: r0).length + 3 < R.frames) (hlo : (rest.map fun v => v.category).sum + (13 * ((Y0 :: r0).length + 1) + 43) ≤ R.locals) (hcells : cells + 1 ≤ R.cells) (hslots : slots + 6 ≤ R.slots) (hq : PX cls w) (hc : cells + 1 ≤ mc) (hs : slots + 6 ≤ ms) :
    W p l e R s m args below meth c H locs cells slots (vx_MQ below Qc (sd_X D tys A PX) args s mc ms A) (F0 m pc ls rest) := by
  obtain ⟨sa, hsa⟩ := hz.2.2.1 _ hstr
  refine sd_vxthrowX C.1 C.2.1 hst x0 x1 x2 x5 C.2.2.2.1 hcls hnames (C.2.2.2.2 _ (List.mem_cons_of_mem _ hk)) (C.2.2.2.2 _ (List.mem_cons_of_mem _ hini)) hsa (fun x hx => ?_) hgood hz.1 hz.2.1 h.2.2.2.1 (by rw [hsz]; exact C.2.2.1.symm) d0 d3 d4 d6 d9 (fun x hx => absurd hx (fun z => htb x z)) hf hlo hcells hslots hlk (fun t hal hge hke => ?_) h.2.2.2.1.2.2 hc hs
  · rcases hat x hx with g | g
    · exact C.2.2.2.2 _ (List.mem_cons_of_mem _ g)
    · exact va_Nw.use (sd_nws_ok x g).1 (hz.2.2.2.1 x g)
  · refine ⟨w, trivial, ⟨hq, ?_, va_K.moved hal h.2.2.1, h.2.1⟩, Nat.le_trans h.2.2.2.1.1 hge, fun q h1 h2 => ?_⟩
    · exact h.1.kept fun k x hx => hke _ (h.1 k x hx).lt
    · rw [hke q (Nat.lt_of_lt_of_le h1 h.2.2.2.1.1)]
      exact h.2.2.2.1.2.1 q h1 h2
end SDXR
section SDXW
variable {R : Room} {s : State} {args : Array Value} {own C host : String} {index maxL mc ms : Nat} {y : MethodName} {bytes : ByteArray} {ret : Option FieldType} {cw : Cond} {rm : Room}
theorem sd_cwIN (n : Nat) (ht : ∀ w ∈ cw :: sd_all, w.before args s = true) (h1 : va_Nw (.methodLinkNest own index y host) s) (h2 : Cond.instanceMethod y ∈ sd_all) (h4 : Cond.initialized y.cls ∈ sd_all) (h5 : Cond.code y bytes maxL none ∈ sd_all) (hrc : rm.cells = mc) (hrs : rm.slots = ms) (hy1 : y.name = "<init>")
    (hd : y.cls ≠ "java/lang/invoke/MethodHandle" ∧ y.cls ≠ "java/lang/invoke/VarHandle" ∧ (parseMethodDescriptor y.desc).map (fun d => d.parameters.length) = some n) (hR : rm.frames + 1 ≤ R.frames ∧ 8 + (maxL + 11) + rm.locals ≤ R.locals) : va_CN R s args own index y host bytes maxL none (sd_ws y bytes maxL none) rm mc ms n ∧ y.name = "<init>" ∧ (Cond.instanceMethod y).before args s = true :=
  ⟨va_cnB n ht (sd_gi h5) rfl hrc hrs h1 (ht _ (List.mem_cons_of_mem _ h4)) hd hR, hy1, ht _ (List.mem_cons_of_mem _ h2)⟩
theorem sd_cwSW {hh : List (Nat × Nat × Nat × Nat)} (n : Nat) (ht : ∀ w ∈ cw :: sd_all, w.before args s = true) (h1 : Cond.methodLink own index y ∈ sd_all) (h2 : Cond.static y ∈ sd_all) (h4 : Cond.initialized y.cls ∈ sd_all) (h5 : Cond.codeWith y bytes maxL ret hh ∈ sd_all) (hrc : rm.cells = mc) (hrs : rm.slots = ms)
    (hd : y.cls ≠ "java/lang/invoke/MethodHandle" ∧ y.cls ≠ "java/lang/invoke/VarHandle" ∧ (parseMethodDescriptor y.desc).map (fun d => d.parameters.length) = some n) (hR : rm.frames + 1 ≤ R.frames ∧ 8 + (maxL + 11) + rm.locals ≤ R.locals) : vx_CSW R s args own index y bytes maxL ret hh (Cond.codeWith y bytes maxL ret hh :: sd_all) rm mc ms n :=
  vx_cwSW n ht (sd_gig (fun w hw => by
    simp only [List.mem_cons, List.not_mem_nil, or_false] at hw
    rcases hw with rfl | rfl | rfl
    · exact h1
    · exact h2
    · exact h4) (sd_gi h5)) rfl hrc hrs hd hR
end SDXW
theorem sd_at {L : List Cond} (h : ∀ x ∈ L, (x ∈ lw_tbl ∧ goodWord x = true) ∨ x ∈ sd_nws) : ∀ x ∈ L, x ∈ sd_all ∨ x ∈ sd_nws := fun x hx => (h x hx).elim (fun g => Or.inl (List.mem_filter.mpr g)) Or.inr
