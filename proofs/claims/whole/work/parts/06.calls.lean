/-! contracts in one form, and calls by them: the callee's cells are a piece of the caller's world -/
section SDJ
variable {D : va_G} {cl : List vw_C} {wa wc wb w1 : va_W} {H H1 : Heap} {A0 : Nat → Prop}
theorem sd_mid {q : Nat × va_E} (h : q ∈ wa ∨ q ∈ wb) : q ∈ wa ++ wc ++ wb := by
  rcases h with h | h
  · exact List.mem_append_left _ (List.mem_append_left _ h)
  · exact List.mem_append_right _ h
theorem sd_apart (hP : va_P D cl (wa ++ wc ++ wb) H) (hD : va_D A0 (wa ++ wc ++ wb)) {q : Nat × va_E} (hq : q ∈ wa ∨ q ∈ wb) : q.1 < H.size ∧ ¬ va_A wc H.size q.1 := by
  have hlt : q.1 < H.size := (sd_P_iff.mp hP q (sd_mid hq)).lt
  refine ⟨hlt, ?_⟩
  intro hA
  rcases hA with ⟨k, e, hk⟩ | hge
  · have hm : q.1 ∈ wc.map Prod.fst := List.mem_map.mpr ⟨(q.1, e), List.mem_of_getElem? hk, rfl⟩
    have hn := (sd_D_iff.mp hD).1
    rw [List.map_append, List.map_append] at hn
    obtain ⟨h1, -, h3⟩ := List.nodup_append.mp hn
    obtain ⟨-, -, h4⟩ := List.nodup_append.mp h1
    rcases hq with hq | hq
    · exact h4 q.1 (List.mem_map.mpr ⟨q, hq, rfl⟩) q.1 hm rfl
    · exact h3 q.1 (List.mem_append_right _ hm) q.1 (List.mem_map.mpr ⟨q, hq, rfl⟩) rfl
  · omega
theorem sd_join (hP : va_P D cl (wa ++ wc ++ wb) H) (hD : va_D A0 (wa ++ wc ++ wb)) (hk : ∀ q : Nat, q < H.size → ¬ va_A wc H.size q → H1[q]? = H[q]?) (hF : ∀ q, va_A wc H.size q → A0 q) (hP1 : va_P D cl w1 H1) (hD1 : va_D (va_A wc H.size) w1) : va_P D cl (wa ++ w1 ++ wb) H1 ∧ va_D A0 (wa ++ w1 ++ wb) := by
  have hP' := sd_P_iff.mp hP
  have hP1' := sd_P_iff.mp hP1
  have hD' := sd_D_iff.mp hD
  have hD1' := sd_D_iff.mp hD1
  refine ⟨sd_P_iff.mpr fun q hq => ?_, sd_D_iff.mpr ⟨?_, fun q hq => ?_⟩⟩
  · rcases List.mem_append.mp hq with hq | hq
    · rcases List.mem_append.mp hq with hq | hq
      · obtain ⟨h1, h2⟩ := sd_apart hP hD (Or.inl hq)
        exact (hP' q (sd_mid (Or.inl hq))).kept (hk _ h1 h2)
      · exact hP1' q hq
    · obtain ⟨h1, h2⟩ := sd_apart hP hD (Or.inr hq)
      exact (hP' q (sd_mid (Or.inr hq))).kept (hk _ h1 h2)
  · have hn := hD'.1
    rw [List.map_append, List.map_append] at hn ⊢
    obtain ⟨h1, h2, h3⟩ := List.nodup_append.mp hn
    obtain ⟨h4, -, -⟩ := List.nodup_append.mp h1
    have out : ∀ x ∈ w1.map Prod.fst, va_A wc H.size x := fun x hx => by
      obtain ⟨q, hq, rfl⟩ := List.mem_map.mp hx
      exact hD1'.2 q hq
    refine List.nodup_append.mpr ⟨List.nodup_append.mpr ⟨h4, hD1'.1, fun x hx y hy e => ?_⟩, h2, fun x hx y hy e => ?_⟩
    · obtain ⟨q, hq, rfl⟩ := List.mem_map.mp hx
      exact (sd_apart hP hD (Or.inl hq)).2 (e ▸ out y hy)
    · obtain ⟨q, hq, rfl⟩ := List.mem_map.mp hy
      rcases List.mem_append.mp hx with hx | hx
      · exact h3 x (List.mem_append_left _ hx) q.1 (List.mem_map.mpr ⟨q, hq, rfl⟩) e
      · exact (sd_apart hP hD (Or.inr hq)).2 (e ▸ out x hx)
  · rcases List.mem_append.mp hq with hq | hq
    · rcases List.mem_append.mp hq with hq | hq
      · exact hD'.2 q (sd_mid (Or.inl hq))
      · exact hF _ (hD1'.2 q hq)
    · exact hD'.2 q (sd_mid (Or.inr hq))
theorem sd_piece (hP : va_P D cl (wa ++ wc ++ wb) H) : va_P D cl wc H := sd_P_iff.mpr fun q hq => sd_P_iff.mp hP q (List.mem_append_left _ (List.mem_append_right _ hq))
theorem sd_pieceD (hD : va_D A0 (wa ++ wc ++ wb)) : va_D (fun _ => True) wc := by
  have h := (sd_D_iff.mp hD).1
  rw [List.map_append, List.map_append] at h
  exact sd_D_iff.mpr ⟨(List.nodup_append.mp (List.nodup_append.mp h).1).2.1, fun _ _ => trivial⟩
theorem sd_pieceF {s : State} {locs : List Loc} (hD : va_D A0 (wa ++ wc ++ wb)) (hS : va_S A0 s.heap H locs) (hA : ∀ q, s.heap.size ≤ q → A0 q) : ∀ q, va_A wc H.size q → A0 q := by
  intro q h
  rcases h with ⟨k, e, h⟩ | h
  · exact (sd_D_iff.mp hD).2 (q, e) (List.mem_append_left _ (List.mem_append_right _ (List.mem_of_getElem? h)))
  · exact hA q (Nat.le_trans hS.1 h)
end SDJ
/-- the words of a method: its own code, and the tables' good words -/
abbrev sd_ws (y : MethodName) (c : ByteArray) (n : Nat) (r : Option FieldType) : List Cond := Cond.code y c n r :: sd_all
theorem sd_gi {cw cy : Cond} (hc : cy ∈ sd_all) : GoodIn (cw :: sd_all) (cy :: sd_all) := fun w hw => by
  have h : w ∈ sd_all := by
    rcases List.mem_cons.mp hw with e | e
    · rw [e]; exact hc
    · exact e
  exact ⟨List.mem_cons_of_mem _ h, good_of_word (List.mem_filter.mp h).2⟩
theorem sd_gig {cw : Cond} {a b : List Cond} (ha : ∀ w ∈ a, w ∈ sd_all) (hb : GoodIn (cw :: sd_all) b) : GoodIn (cw :: sd_all) (a ++ b) := fun w hw => by
  rcases List.mem_append.mp hw with h | h
  · exact ⟨List.mem_cons_of_mem _ (ha w h), good_of_word (List.mem_filter.mp (ha w h)).2⟩
  · exact hb w h
section SDW
variable {R : Room} {s : State} {args : Array Value} {own C : String} {index maxL mc ms : Nat} {y : MethodName} {bytes : ByteArray} {ret : Option FieldType} {cw : Cond} {rm : Room}
theorem sd_cwV (n : Nat) (ht : ∀ w ∈ cw :: sd_all, w.before args s = true) (h1 : Cond.methodLink own index y ∈ sd_all) (h2 : Cond.instanceMethod y ∈ sd_all) (h3 : Cond.selects C y y ∈ sd_all) (h4 : Cond.initialized C ∈ sd_all) (h5 : Cond.code y bytes maxL ret ∈ sd_all) (hrc : rm.cells = mc) (hrs : rm.slots = ms)
    (hd : y.cls = C ∧ y.cls ≠ "java/lang/invoke/MethodHandle" ∧ y.cls ≠ "java/lang/invoke/VarHandle" ∧ (parseMethodDescriptor y.desc).map (fun d => d.parameters.length) = some n) (hR : rm.frames + 1 ≤ R.frames ∧ 8 + (maxL + 11) + rm.locals ≤ R.locals) : CallW R s args own C index y bytes maxL ret (sd_ws y bytes maxL ret) rm mc ms n :=
  cwV n ht (sd_gig (fun w hw => by
    simp only [List.mem_cons, List.not_mem_nil, or_false] at hw
    rcases hw with rfl | rfl | rfl | rfl
    · exact h1
    · exact h2
    · exact h3
    · exact h4) (sd_gi h5)) rfl hrc hrs hd hR
theorem sd_cwS (n : Nat) (ht : ∀ w ∈ cw :: sd_all, w.before args s = true) (h1 : Cond.methodLink own index y ∈ sd_all) (h2 : Cond.static y ∈ sd_all) (h4 : Cond.initialized y.cls ∈ sd_all) (h5 : Cond.code y bytes maxL ret ∈ sd_all) (hrc : rm.cells = mc) (hrs : rm.slots = ms)
    (hd : y.cls ≠ "java/lang/invoke/MethodHandle" ∧ y.cls ≠ "java/lang/invoke/VarHandle" ∧ (parseMethodDescriptor y.desc).map (fun d => d.parameters.length) = some n) (hR : rm.frames + 1 ≤ R.frames ∧ 8 + (maxL + 11) + rm.locals ≤ R.locals) : CallB R s args own index y bytes maxL ret (sd_ws y bytes maxL ret) rm mc ms n ∧ (Cond.static y).before args s = true :=
  va_cwS n ht (sd_gig (fun w hw => by
    simp only [List.mem_cons, List.not_mem_nil, or_false] at hw
    rcases hw with rfl | rfl | rfl
    · exact h1
    · exact h2
    · exact h4) (sd_gi h5)) rfl hrc hrs hd hR
theorem sd_cwI (n : Nat) (ht : ∀ w ∈ cw :: sd_all, w.before args s = true) (h1 : Cond.methodLink own index y ∈ sd_all) (h2 : Cond.instanceMethod y ∈ sd_all) (h4 : Cond.initialized y.cls ∈ sd_all) (h5 : Cond.code y bytes maxL none ∈ sd_all) (hrc : rm.cells = mc) (hrs : rm.slots = ms) (hy1 : y.name = "<init>")
    (hd : y.cls ≠ "java/lang/invoke/MethodHandle" ∧ y.cls ≠ "java/lang/invoke/VarHandle" ∧ (parseMethodDescriptor y.desc).map (fun d => d.parameters.length) = some n) (hR : rm.frames + 1 ≤ R.frames ∧ 8 + (maxL + 11) + rm.locals ≤ R.locals) : CallB R s args own index y bytes maxL none (sd_ws y bytes maxL none) rm mc ms n ∧ y.name = "<init>" ∧ (Cond.instanceMethod y).before args s = true :=
  cwI n ht (sd_gi h5) rfl hrc hrs (ht _ (List.mem_cons_of_mem _ h4)) (ht _ (List.mem_cons_of_mem _ h1)) (ht _ (List.mem_cons_of_mem _ h2)) hy1 hd hR
end SDW
/-- a contract's start -/
def sd_Pc (D : va_G) (tys : List (ClassId × FieldType)) (av : List Value) (sz : Nat) (wc : va_W) : Array Value → State → Prop := va_Pc av (fun U => U.heap.size = sz ∧ va_P D vwCl wc U.heap ∧ va_K D vwCl tys U ∧ va_D (fun _ => True) wc)
/-- the world behind it -/
def sd_B (D : va_G) (tys : List (ClassId × FieldType)) (A : Nat → Prop) (w : va_W) (t : State) : Prop := va_P D vwCl w t.heap ∧ va_K D vwCl tys t ∧ va_D A w
def sd_Qi (D : va_G) (tys : List (ClassId × FieldType)) (A : Nat → Prop) (PR : Int32 → va_W → Prop) : Array Value → State → Outcome → State → Prop := va_Qi PR (sd_B D tys A) A
def sd_Ql (D : va_G) (tys : List (ClassId × FieldType)) (A : Nat → Prop) (PR : Int64 → va_W → Prop) : Array Value → State → Outcome → State → Prop := va_Ql PR (sd_B D tys A) A
def sd_Qv (D : va_G) (tys : List (ClassId × FieldType)) (A : Nat → Prop) (PR : va_W → Prop) : Array Value → State → Outcome → State → Prop := va_Qv PR (sd_B D tys A) A
theorem sd_blind {D : va_G} {tys : List (ClassId × FieldType)} {av : List Value} {sz : Nat} {wc : va_W} : FrameBlind (sd_Pc D tys av sz wc) := by
  intro a U g mk h
  obtain ⟨h0, h1, h2, h3, h4⟩ := h
  exact ⟨h0, h1, h2, va_K.moved (u := U) (U := U.calling g mk a) (Vm.Alike.refl U.vm) h3, h4⟩
section SDE
variable {l : Launch} {y : MethodName} {ws' : List Cond} {rm : Room} {Qc : Array Value → State → Outcome → State → Prop} {mc ms sz maxL : Nat} {cc : ByteArray} {ret : Option FieldType} {D : va_G} {tys : List (ClassId × FieldType)} {av : List Value} {wc : va_W}
/-- a contract out of a walk -/
theorem sd_met (hy : plainName y.cls = true) (hav : (lg_sl av).length ≤ maxL)
    (body : ∀ (p : Program) (e : Env) (s : State) (m : MethodId) (below : List Frame) (meth : Method) (c : Code), CallFix p m c cc maxL s av.toArray (Cond.code y cc maxL ret :: sd_all) y.cls → meth.sig.returnType = ret → meth.locks = false → meth.name = y.name → s.heap.size = sz → sd_w D (va_A wc sz) s tys wc s.heap [] → ∀ ls : Array Slot, lv_has ls maxL (lv_args 0 av) → W p l e rm s m av.toArray below meth c s.heap [] 0 0 (MQ below Qc av.toArray s mc ms (va_A wc sz)) (F0 m 0 ls [])) :
    Met l y (sd_ws y cc maxL ret) rm (sd_Pc D tys av sz wc) Qc mc ms (va_A wc sz) := by
  refine Met.ofW (cc := cc) (maxL := maxL) (ret := ret) (ws' := sd_all) hy rfl ?_
  intro p e s m args below meth c s₁ B hml hv
  obtain ⟨rfl, hsz, hP, hK, hD0⟩ := hv
  have hl := lv_entry av (n := maxL) hav
  rw [lg_entry_eq]
  refine body p e s m below meth c ⟨B.exec, B.bytes, hml, findClass_of_methodNamed B.named, atoms_spec (ws := sd_ws y cc maxL ret) B.pre⟩ B.returns B.notSynchronized (name_of_methodNamed B.named B.method).1 hsz ⟨hP, hD0.self, hK, va_S.rf, ?_⟩ _ hl
  intro q h
  exact Or.inr (by omega)
end SDE
section SDR
variable {p : Program} {l : Launch} {e : Env} {R : Room} {s : State} {m : MethodId} {args : Array Value} {below : List Frame} {meth : Method} {c : Code} {H : Heap} {locs : List Loc} {cells slots : Nat} {Q : State → Prop}
variable {cc : ByteArray} {nL pc : Nat} {ls : Array Slot} {st0 rest : List Value} {D : va_G} {A : Nat → Prop} {w : va_W} {tys : List (ClassId × FieldType)} {cw : Cond} {own : String}
theorem sd_iret {v : Int32} {PR : Int32 → va_W → Prop} (C : CallFix p m c cc nL s args (cw :: sd_all) own) (hr : meth.sig.returnType = some .int) (hlk : meth.locks = false) (h : sd_w D A s tys w H locs) (hq : PR v w) (hd : decode cc pc = .ok (.ireturn, 1)) :
    W p l e R s m args below meth c H locs cells slots (MQ below (sd_Qi D tys A PR) args s cells slots A) (F0 m pc ls [.int v]) :=
  W.iret (v := v) C.1 C.2.1 hr (fun t ht hW => ⟨⟨v, w, rfl, hq, by rw [ht]; exact h.1, va_K.moved hW.alike h.2.2.1, h.2.1⟩, h.2.2.2.1.F ht⟩) h.2.2.2.1.2.2 hd hlk
theorem sd_zret {v : Int32} {ty : FieldType} {PR : Int32 → va_W → Prop} (C : CallFix p m c cc nL s args (cw :: sd_all) own) (hr : meth.sig.returnType = some ty) (hn : narrow ty (.int v) = .int v) (hlk : meth.locks = false) (h : sd_w D A s tys w H locs) (hq : PR v w) (hd : decode cc pc = .ok (.ireturn, 1)) :
    W p l e R s m args below meth c H locs cells slots (MQ below (sd_Qi D tys A PR) args s cells slots A) (F0 m pc ls [.int v]) :=
  W.zret (v := v) C.1 C.2.1 hr hn (fun t ht hW => ⟨⟨v, w, rfl, hq, by rw [ht]; exact h.1, va_K.moved hW.alike h.2.2.1, h.2.1⟩, h.2.2.2.1.F ht⟩) h.2.2.2.1.2.2 hd hlk
theorem sd_lret {v : Int64} {PR : Int64 → va_W → Prop} (C : CallFix p m c cc nL s args (cw :: sd_all) own) (hr : meth.sig.returnType = some .long) (hlk : meth.locks = false) (h : sd_w D A s tys w H locs) (hq : PR v w) (hd : decode cc pc = .ok (.lreturn, 1)) :
    W p l e R s m args below meth c H locs cells slots (MQ below (sd_Ql D tys A PR) args s cells slots A) (F0 m pc ls [.long v]) :=
  W.lret (v := v) C.1 C.2.1 hr (fun t ht hW => ⟨⟨v, w, rfl, hq, by rw [ht]; exact h.1, va_K.moved hW.alike h.2.2.1, h.2.1⟩, h.2.2.2.1.F ht⟩) h.2.2.2.1.2.2 hd hlk
theorem sd_vret {PR : va_W → Prop} (C : CallFix p m c cc nL s args (cw :: sd_all) own) (hr : meth.sig.returnType = none) (hlk : meth.locks = false) (h : sd_w D A s tys w H locs) (hq : PR w) (hd : decode cc pc = .ok (.return_, 1)) :
    W p l e R s m args below meth c H locs cells slots (MQ below (sd_Qv D tys A PR) args s cells slots A) (F0 m pc ls []) :=
  W.vret C.1 C.2.1 hr (fun t ht hW => ⟨⟨w, rfl, hq, by rw [ht]; exact h.1, va_K.moved hW.alike h.2.2.1, h.2.1⟩, h.2.2.2.1.F ht⟩) h.2.2.2.1.2.2 hd hlk
variable {wa wc wb : va_W} {mc ms : Nat} {aa : Array Value} {As : List Value}
theorem sd_preS (h : sd_w D A s tys (wa ++ wc ++ wb) H locs) : PreS s H (sd_Pc D tys As H.size wc) As :=
  ⟨sd_blind, fun U hU hW => ⟨rfl, by rw [hU], by rw [hU]; exact sd_piece h.1, va_K.moved hW.alike h.2.2.1, sd_pieceD h.2.1⟩⟩
theorem sd_preV {b q0 ci N : Nat} {Cn : String} {T : u_T} {fs : List Value} (h : sd_w D A s tys (wa ++ wc ++ wb) H locs) (he : (wa ++ wc ++ wb)[q0]? = some (b, .inr (ci, fs))) (hc : vwCl[ci]? = some (Cn, T, N)) : PreV s H Cn b (sd_Pc D tys (.ref b :: As) H.size wc) As :=
  ⟨sd_blind, va_recv h.2.2.1 h.1 hc he, fun U hU hW => ⟨rfl, by rw [hU], by rw [hU]; exact sd_piece h.1, va_K.moved hW.alike h.2.2.1, sd_pieceD h.2.1⟩⟩
theorem sd_after {w1 : va_W} {t : State} {H1 : Heap} {locs1 : List Loc} (h : sd_w D A s tys (wa ++ wc ++ wb) H locs) (ht : t.heap = H1) (hvm : s.vm.Alike t.vm) (hB : sd_B D tys (va_A wc H.size) w1 t) (hk : ∀ q : Nat, q < H.size → ¬ va_A wc H.size q → H1[q]? = H[q]?) (hS : va_S A s.heap H1 locs1) : sd_w D A s tys (wa ++ w1 ++ wb) H1 locs1 := by
  obtain ⟨hP1, hK1, hD1⟩ := hB
  rw [ht] at hP1
  obtain ⟨hP, hD⟩ := sd_join h.1 h.2.1 hk (sd_pieceF h.2.1 h.2.2.2.1 h.2.2.2.2) hP1 hD1
  exact ⟨hP, hD, h.2.2.1, hS, h.2.2.2.2⟩
theorem sd_calli {PR : Int32 → va_W → Prop} (h : sd_w D A s tys (wa ++ wc ++ wb) H locs) (hr : va_Run p l e R s m args below meth c H locs cells slots mc ms (F0 m pc ls st0) rest (sd_Qi D tys (va_A wc H.size) PR aa) (va_A wc H.size))
    (kk : ∀ (r : Int32) (w1 : va_W) (H1 : Heap) (locs1 : List Loc), PR r w1 → sd_w D A s tys (wa ++ w1 ++ wb) H1 locs1 → W p l e R s m args below meth c H1 locs1 (cells + mc) (slots + ms) Q (F0 m (pc + 3) ls (.int r :: rest))) : W p l e R s m args below meth c H locs cells slots Q (F0 m pc ls st0) :=
  va_calli hr h.2.2.2.1 (fun q _ z => sd_pieceF h.2.1 h.2.2.2.1 h.2.2.2.2 q z) (sd_pieceF h.2.1 h.2.2.2.1 h.2.2.2.2) (fun r u t H1 locs1 ht hvm hw hB _ hk hS => kk r u H1 locs1 hw (sd_after h ht hvm hB hk hS))
theorem sd_calll {PR : Int64 → va_W → Prop} (h : sd_w D A s tys (wa ++ wc ++ wb) H locs) (hr : va_Run p l e R s m args below meth c H locs cells slots mc ms (F0 m pc ls st0) rest (sd_Ql D tys (va_A wc H.size) PR aa) (va_A wc H.size))
    (kk : ∀ (r : Int64) (w1 : va_W) (H1 : Heap) (locs1 : List Loc), PR r w1 → sd_w D A s tys (wa ++ w1 ++ wb) H1 locs1 → W p l e R s m args below meth c H1 locs1 (cells + mc) (slots + ms) Q (F0 m (pc + 3) ls (.long r :: rest))) : W p l e R s m args below meth c H locs cells slots Q (F0 m pc ls st0) :=
  va_calll hr h.2.2.2.1 (fun q _ z => sd_pieceF h.2.1 h.2.2.2.1 h.2.2.2.2 q z) (sd_pieceF h.2.1 h.2.2.2.1 h.2.2.2.2) (fun r u t H1 locs1 ht hvm hw hB _ hk hS => kk r u H1 locs1 hw (sd_after h ht hvm hB hk hS))
theorem sd_callv {PR : va_W → Prop} (h : sd_w D A s tys (wa ++ wc ++ wb) H locs) (hr : va_Run p l e R s m args below meth c H locs cells slots mc ms (F0 m pc ls st0) rest (sd_Qv D tys (va_A wc H.size) PR aa) (va_A wc H.size))
    (kk : ∀ (w1 : va_W) (H1 : Heap) (locs1 : List Loc), PR w1 → sd_w D A s tys (wa ++ w1 ++ wb) H1 locs1 → W p l e R s m args below meth c H1 locs1 (cells + mc) (slots + ms) Q (F0 m (pc + 3) ls rest)) : W p l e R s m args below meth c H locs cells slots Q (F0 m pc ls st0) :=
  va_callv hr h.2.2.2.1 (fun q _ z => sd_pieceF h.2.1 h.2.2.2.1 h.2.2.2.2 q z) (sd_pieceF h.2.1 h.2.2.2.1 h.2.2.2.2) (fun u t H1 locs1 ht hvm hw hB _ hk hS => kk u H1 locs1 hw (sd_after h ht hvm hB hk hS))
/-- two pieces change places -/
theorem sd_swap {wd : va_W} (h : sd_w D A s tys (wa ++ wb ++ wc ++ wd) H locs) : sd_w D A s tys (wa ++ wc ++ wb ++ wd) H locs := by
  have hp : (wa ++ wb ++ wc ++ wd).Perm (wa ++ wc ++ wb ++ wd) := by
    refine List.Perm.append_right _ ?_
    rw [List.append_assoc, List.append_assoc]
    exact List.Perm.append_left _ List.perm_append_comm
  obtain ⟨h1, h2, h3⟩ := h
  refine ⟨sd_P_iff.mpr fun q hq => sd_P_iff.mp h1 q (hp.mem_iff.mpr hq), sd_D_iff.mpr ⟨(hp.map Prod.fst).nodup (sd_D_iff.mp h2).1, fun q hq => (sd_D_iff.mp h2).2 q (hp.mem_iff.mpr hq)⟩, h3⟩
end SDR
