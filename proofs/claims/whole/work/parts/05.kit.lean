/-! our own short rows over the kit's: one bundle for a walk's world, one row an instruction, one row a call -/
section SDK
variable {p : Program} {l : Launch} {e : Env} {R : Room} {s : State} {m : MethodId} {args : Array Value} {below : List Frame} {meth : Method} {c : Code} {H : Heap} {locs : List Loc} {cells slots : Nat} {Q : State → Prop}
variable {cc : ByteArray} {nL pc : Nat} {ls : Array Slot} {st0 rest : List Value} {D : va_G} {A : Nat → Prop} {ws ws' : va_W} {tys : List (ClassId × FieldType)} {cw : Cond} {own : String} {a : Nat}
theorem sd_P_iff {cl : List vw_C} : va_P D cl ws H ↔ ∀ q ∈ ws, va_at D cl q H := by
  constructor
  · intro h q hq
    obtain ⟨k, hk⟩ := List.getElem?_of_mem hq
    exact h k q hk
  · intro h k q hk
    exact h q (List.mem_of_getElem? hk)
theorem sd_D_iff : va_D A ws ↔ (ws.map Prod.fst).Nodup ∧ ∀ q ∈ ws, A q.1 := by
  constructor
  · intro h
    refine ⟨?_, fun q hq => ?_⟩
    · show List.Pairwise (fun x y => x ≠ y) (ws.map Prod.fst)
      rw [List.pairwise_iff_getElem]
      intro i j hi hj hij he
      simp only [List.length_map] at hi hj
      simp only [List.getElem_map] at he
      have h3 := h.1 i j ws[i] ws[j] (List.getElem?_eq_getElem hi) (List.getElem?_eq_getElem hj) he
      omega
    · obtain ⟨k, hk⟩ := List.getElem?_of_mem hq
      exact h.2 k q hk
  · intro h
    refine ⟨fun i j p q hi hj hpq => ?_, fun k q hk => h.2 q (List.mem_of_getElem? hk)⟩
    have hn : List.Pairwise (fun x y => x ≠ y) (ws.map Prod.fst) := h.1
    rw [List.pairwise_iff_getElem] at hn
    obtain ⟨li, ei⟩ := List.getElem?_eq_some_iff.mp hi
    obtain ⟨lj, ej⟩ := List.getElem?_eq_some_iff.mp hj
    rcases Nat.lt_trichotomy i j with q1 | q1 | q1
    · exact (hn i j (by simpa using li) (by simpa using lj) q1 (by simp only [List.getElem_map, ei, ej]; exact hpq)).elim
    · exact q1
    · exact (hn j i (by simpa using lj) (by simpa using li) q1 (by simp only [List.getElem_map, ei, ej]; exact hpq.symm)).elim
/-- the world of a walk: its cells, apart and its own, the tables, what changed since the start, the new cells are its own -/
def sd_w (D : va_G) (A : Nat → Prop) (s : State) (tys : List (ClassId × FieldType)) (ws : va_W) (H : Heap) (locs : List Loc) : Prop :=
  va_P D vwCl ws H ∧ va_D A ws ∧ va_K D vwCl tys s ∧ va_S A s.heap H locs ∧ ∀ q, s.heap.size ≤ q → A q
theorem sd_get (C : CallFix p m c cc nL s args (cw :: sd_all) own) (h : sd_w D A s tys ws H locs) (q0 k : Nat) {ci N index : Nat} {Cn : String} {T : u_T} {fs : List Value} {v : Value} (he : ws[q0]? = some (a, .inr (ci, fs))) (hc : vwCl[ci]? = some (Cn, T, N)) (hk : k < N) (hin : ∀ w ∈ u_ws Cn T N, w ∈ sd_all) (hl : Cond.fieldLink own index (T k).1 (T k).2.1 (T k).2.2.1 ∈ sd_all) (hv : fs[k]? = some v) (hd : decode cc pc = .ok (.getfield index, 3))
    (kk : W p l e R s m args below meth c H locs cells slots Q (F0 m (pc + 3) ls (v :: rest))) : W p l e R s m args below meth c H locs cells slots Q (F0 m pc ls (.ref a :: rest)) :=
  va_get (D := D) (ci := ci) (v := v) (C := Cn) (T := T) (N := N) C.1 C.2.1 C.2.2.2.2 (fun w h9 => List.mem_cons_of_mem _ (hin w h9)) C.2.2.2.1 h.2.2.1 h.1 q0 he hc k hk (C.2.2.2.2 _ (List.mem_cons_of_mem _ hl)) (fun _ h9 => h9) hv hd kk
theorem sd_put (C : CallFix p m c cc nL s args (cw :: sd_all) own) (h : sd_w D A s tys ws H locs) (q0 k : Nat) {ci N index : Nat} {Cn : String} {T : u_T} {fs : List Value} {v : Value} {ty : FieldType} {ty0 : Nat → FieldType} (he : ws[q0]? = some (a, .inr (ci, fs))) (hc : vwCl[ci]? = some (Cn, T, N)) (hk : k < N) (hin : ∀ w ∈ u_ws Cn T N, w ∈ sd_all) (hty : ∀ k, k < N → parseFieldDescriptor (T k).2.2.1 = some (ty0 k)) (hnm : ∀ a, a < N → ∀ b, b < N → a ≠ b → (T a).2.1 ≠ (T b).2.1) (hl : Cond.fieldLink own index (T k).1 (T k).2.1 (T k).2.2.1 ∈ sd_all) (hfin : (T k).2.2.2 = false) (hpd : ty0 k = ty) (hn : narrow ty v = v) (hfit : fits ty v = true) (hlen : k < fs.length) (hws : ws.set q0 (a, .inr (ci, fs.set k v)) = ws') (hd : decode cc pc = .ok (.putfield index, 3))
    (kk : ∀ (H1 : Heap) (locs1 : List Loc), sd_w D A s tys ws' H1 locs1 → W p l e R s m args below meth c H1 locs1 cells slots Q (F0 m (pc + 3) ls rest)) : W p l e R s m args below meth c H locs cells slots Q (F0 m pc ls (v :: .ref a :: rest)) :=
  va_put (D := D) (ci := ci) (v := v) (ty := ty) (C := Cn) (T := T) (N := N) C.1 C.2.1 C.2.2.2.2 (fun w h9 => List.mem_cons_of_mem _ (hin w h9)) ty0 hty hnm C.2.2.2.1 h.2.2.1 h.1 h.2.1 h.2.2.2.1 q0 he hc k hk (C.2.2.2.2 _ (List.mem_cons_of_mem _ hl)) (fun _ h9 => h9) hfin (by rw [← hpd]; exact hty k hk) hn hfit hlen hd (fun H1 locs1 hP hD hS => kk H1 locs1 (hws ▸ ⟨hP, hD, h.2.2.1, hS, h.2.2.2.2⟩))
theorem sd_putF (C : CallFix p m c cc nL s args (cw :: sd_all) own) (h : sd_w D A s tys ws H locs) (hnm2 : meth.name = "<init>") (q0 k : Nat) {ci N index : Nat} {Cn : String} {T : u_T} {fs : List Value} {v : Value} {ty : FieldType} {ty0 : Nat → FieldType} (he : ws[q0]? = some (a, .inr (ci, fs))) (hc : vwCl[ci]? = some (Cn, T, N)) (hk : k < N) (hin : ∀ w ∈ u_ws Cn T N, w ∈ sd_all) (hty : ∀ k, k < N → parseFieldDescriptor (T k).2.2.1 = some (ty0 k)) (hnm : ∀ a, a < N → ∀ b, b < N → a ≠ b → (T a).2.1 ≠ (T b).2.1) (hl : Cond.fieldLink own index (T k).1 (T k).2.1 (T k).2.2.1 ∈ sd_all) (hfin : (T k).2.2.2 = true) (hdecl : (T k).1 = own) (hpd : ty0 k = ty) (hn : narrow ty v = v) (hfit : fits ty v = true) (hlen : k < fs.length) (hws : ws.set q0 (a, .inr (ci, fs.set k v)) = ws') (hd : decode cc pc = .ok (.putfield index, 3))
    (kk : ∀ (H1 : Heap) (locs1 : List Loc), sd_w D A s tys ws' H1 locs1 → W p l e R s m args below meth c H1 locs1 cells slots Q (F0 m (pc + 3) ls rest)) : W p l e R s m args below meth c H locs cells slots Q (F0 m pc ls (v :: .ref a :: rest)) :=
  va_putF (D := D) (ci := ci) (v := v) (ty := ty) (C := Cn) (T := T) (N := N) C.1 C.2.1 C.2.2.2.2 (fun w h9 => List.mem_cons_of_mem _ (hin w h9)) ty0 hty hnm C.2.2.2.1 h.2.2.1 h.1 h.2.1 h.2.2.2.1 q0 he hc k hk (C.2.2.2.2 _ (List.mem_cons_of_mem _ hl)) (fun _ h9 => h9) hfin hnm2 hdecl (by rw [← hpd]; exact hty k hk) hn hfit hlen hd (fun H1 locs1 hP hD hS => kk H1 locs1 (hws ▸ ⟨hP, hD, h.2.2.1, hS, h.2.2.2.2⟩))
theorem sd_getN (C : CallFix p m c cc nL s args (cw :: sd_all) own) (h : sd_w D A s tys ws H locs) (q0 k : Nat) {ci N index : Nat} {Cn host : String} {T : u_T} {fs : List Value} {v : Value} (he : ws[q0]? = some (a, .inr (ci, fs))) (hc : vwCl[ci]? = some (Cn, T, N)) (hk : k < N) (hin : ∀ w ∈ u_ws Cn T N, w ∈ sd_all) (hl : (Cond.fieldLinkNest own index (T k).1 (T k).2.1 (T k).2.2.1 host).before args s = true) (hv : fs[k]? = some v) (hd : decode cc pc = .ok (.getfield index, 3))
    (kk : W p l e R s m args below meth c H locs cells slots Q (F0 m (pc + 3) ls (v :: rest))) : W p l e R s m args below meth c H locs cells slots Q (F0 m pc ls (.ref a :: rest)) :=
  va_getN (D := D) (ci := ci) (v := v) (C := Cn) (T := T) (N := N) C.1 C.2.1 C.2.2.2.2 (fun w h9 => List.mem_cons_of_mem _ (hin w h9)) C.2.2.2.1 h.2.2.1 h.1 q0 he hc k hk hl (fun _ h9 => h9) hv hd kk
theorem sd_clamp {i n : Nat} (hi : i < n) (hn : n < 2 ^ 31) : (nI i).toNatClampNeg = i := nI_clamp (Nat.lt_trans hi hn)
theorem sd_iald (C : CallFix p m c cc nL s args (cw :: sd_all) own) (h : sd_w D A s tys ws H locs) (q0 t0 : Nat) {cA : ClassId} {n i : Nat} {f : Nat → Int32} (ha : ws[q0]? = some (a, .inl (cA, n, .inl f))) (ht : tys[t0]? = some (cA, .int)) (hi : i < n) (hn : n < 2 ^ 31) (hd : decode cc pc = .ok (.iaload, 1))
    (kk : W p l e R s m args below meth c H locs cells slots Q (F0 m (pc + 1) ls (.int (f i) :: rest))) : W p l e R s m args below meth c H locs cells slots Q (F0 m pc ls (.int (nI i) :: .ref a :: rest)) :=
  va_iald C.1 C.2.1 h.2.2.1 h.1 q0 t0 ha ht (vp_in_nI hi hn) hd (by rw [sd_clamp hi hn]; exact kk)
theorem sd_zald (C : CallFix p m c cc nL s args (cw :: sd_all) own) (h : sd_w D A s tys ws H locs) (q0 t0 : Nat) {cA : ClassId} {n i : Nat} {f : Nat → Int32} (ha : ws[q0]? = some (a, .inl (cA, n, .inl f))) (ht : tys[t0]? = some (cA, .boolean)) (hi : i < n) (hn : n < 2 ^ 31) (hd : decode cc pc = .ok (.baload, 1))
    (kk : W p l e R s m args below meth c H locs cells slots Q (F0 m (pc + 1) ls (.int (f i) :: rest))) : W p l e R s m args below meth c H locs cells slots Q (F0 m pc ls (.int (nI i) :: .ref a :: rest)) :=
  va_zald C.1 C.2.1 h.2.2.1 h.1 q0 t0 ha ht (vp_in_nI hi hn) hd (by rw [sd_clamp hi hn]; exact kk)
theorem sd_lald (C : CallFix p m c cc nL s args (cw :: sd_all) own) (h : sd_w D A s tys ws H locs) (q0 t0 : Nat) {cA : ClassId} {n i : Nat} {f : Nat → Int64} (ha : ws[q0]? = some (a, .inl (cA, n, .inr (.inl f)))) (ht : tys[t0]? = some (cA, .long)) (hi : i < n) (hn : n < 2 ^ 31) (hd : decode cc pc = .ok (.laload, 1))
    (kk : W p l e R s m args below meth c H locs cells slots Q (F0 m (pc + 1) ls (.long (f i) :: rest))) : W p l e R s m args below meth c H locs cells slots Q (F0 m pc ls (.int (nI i) :: .ref a :: rest)) :=
  va_lald C.1 C.2.1 h.2.2.1 h.1 q0 t0 ha ht (vp_in_nI hi hn) hd (by rw [sd_clamp hi hn]; exact kk)
theorem sd_iast (C : CallFix p m c cc nL s args (cw :: sd_all) own) (h : sd_w D A s tys ws H locs) (q0 t0 : Nat) {cA : ClassId} {n i : Nat} {f : Nat → Int32} {x : Int32} (ha : ws[q0]? = some (a, .inl (cA, n, .inl f))) (ht : tys[t0]? = some (cA, .int)) (hi : i < n) (hn : n < 2 ^ 31) (hws : ws.set q0 (a, .inl (cA, n, .inl (upd f i x))) = ws') (hd : decode cc pc = .ok (.iastore, 1))
    (kk : ∀ (H1 : Heap) (locs1 : List Loc), sd_w D A s tys ws' H1 locs1 → W p l e R s m args below meth c H1 locs1 cells slots Q (F0 m (pc + 1) ls rest)) : W p l e R s m args below meth c H locs cells slots Q (F0 m pc ls (.int x :: .int (nI i) :: .ref a :: rest)) :=
  va_iast C.1 C.2.1 h.2.2.1 h.1 h.2.1 h.2.2.2.1 q0 t0 ha ht (vp_in_nI hi hn) hd (fun H1 locs1 hP hD hS => kk H1 locs1 (by rw [sd_clamp hi hn] at hP hD; rw [hws] at hP hD; exact ⟨hP, hD, h.2.2.1, hS, h.2.2.2.2⟩))
theorem sd_zast (C : CallFix p m c cc nL s args (cw :: sd_all) own) (h : sd_w D A s tys ws H locs) (q0 t0 : Nat) {cA : ClassId} {n i : Nat} {f : Nat → Int32} {x : Int32} (ha : ws[q0]? = some (a, .inl (cA, n, .inl f))) (ht : tys[t0]? = some (cA, .boolean)) (hi : i < n) (hn : n < 2 ^ 31) (hx : vp_nar .boolean x = x) (hws : ws.set q0 (a, .inl (cA, n, .inl (upd f i x))) = ws') (hd : decode cc pc = .ok (.bastore, 1))
    (kk : ∀ (H1 : Heap) (locs1 : List Loc), sd_w D A s tys ws' H1 locs1 → W p l e R s m args below meth c H1 locs1 cells slots Q (F0 m (pc + 1) ls rest)) : W p l e R s m args below meth c H locs cells slots Q (F0 m pc ls (.int x :: .int (nI i) :: .ref a :: rest)) :=
  va_zast C.1 C.2.1 h.2.2.1 h.1 h.2.1 h.2.2.2.1 q0 t0 ha ht (vp_in_nI hi hn) hd (fun H1 locs1 hP hD hS => kk H1 locs1 (by rw [sd_clamp hi hn, hx] at hP hD; rw [hws] at hP hD; exact ⟨hP, hD, h.2.2.1, hS, h.2.2.2.2⟩))
theorem sd_last (C : CallFix p m c cc nL s args (cw :: sd_all) own) (h : sd_w D A s tys ws H locs) (q0 t0 : Nat) {cA : ClassId} {n i : Nat} {f : Nat → Int64} {x : Int64} (ha : ws[q0]? = some (a, .inl (cA, n, .inr (.inl f)))) (ht : tys[t0]? = some (cA, .long)) (hi : i < n) (hn : n < 2 ^ 31) (hws : ws.set q0 (a, .inl (cA, n, .inr (.inl (vp_updL f i x)))) = ws') (hd : decode cc pc = .ok (.lastore, 1))
    (kk : ∀ (H1 : Heap) (locs1 : List Loc), sd_w D A s tys ws' H1 locs1 → W p l e R s m args below meth c H1 locs1 cells slots Q (F0 m (pc + 1) ls rest)) : W p l e R s m args below meth c H locs cells slots Q (F0 m pc ls (.long x :: .int (nI i) :: .ref a :: rest)) :=
  va_last C.1 C.2.1 h.2.2.1 h.1 h.2.1 h.2.2.2.1 q0 t0 ha ht (vp_in_nI hi hn) hd (fun H1 locs1 hP hD hS => kk H1 locs1 (by rw [sd_clamp hi hn] at hP hD; rw [hws] at hP hD; exact ⟨hP, hD, h.2.2.1, hS, h.2.2.2.2⟩))
/-- a new array of numbers: its class is the tables' one -/
theorem sd_newa (C : CallFix p m c cc nL s args (cw :: sd_all) own) (h : sd_w D A s tys ws H locs) (t0 : Nat) {atype : ArrayType} {ty : FieldType} {cA : ClassId} {n : Int32} {N' : Nat} {a0 : vp_A} (hty : newarray.typeOf atype = ty) (ht : tys[t0]? = some (cA, ty)) (hra : ∀ cB : ClassId, va_RA s cB ty = (s.vm.findClass ("[" ++ ty.toString) = some cB)) (harr : Cond.arrayClass ty ∈ sd_all) (ha : ∀ cA : ClassId, vp_cell cA a0 = arrV cA N' (fun _ => defaultValue ty)) (hn : ¬ n < 0) (hN : n.toNatClampNeg = N') (hbytes : N' * componentBytes ty ≤ 536870912) (hcells : cells + 1 ≤ R.cells) (hslots : slots + N' ≤ R.slots) (hd : decode cc pc = .ok (.newarray atype, 2))
    (kk : ∀ (q : Nat) (H1 : Heap), sd_w D A s tys (ws ++ [(q, .inl (cA, a0))]) H1 locs → W p l e R s m args below meth c H1 locs (cells + 1) (slots + N') Q (F0 m (pc + 2) ls (.ref q :: rest))) : W p l e R s m args below meth c H locs cells slots Q (F0 m pc ls (.int n :: rest)) := by
  subst hty
  refine va_newa C.1 C.2.1 (C.2.2.2.2 _ (List.mem_cons_of_mem _ harr)) rfl h.2.2.1 h.1 h.2.1 h.2.2.2.1 h.2.2.2.2 ha hn hN hbytes hcells hslots hd (fun q cB H1 hK hP hD hS => ?_)
  have h1 := (h.2.2.1.2 t0 _ ht).2
  have h2 := (hK.2 tys.length (cB, newarray.typeOf atype) (by simp)).2
  rw [hra] at h1 h2
  cases Option.some.inj (h1.symm.trans h2)
  exact kk q H1 ⟨hP, hD, h.2.2.1, hS, h.2.2.2.2⟩
theorem sd_new {fs : List Value} (C : CallFix p m c cc nL s args (cw :: sd_all) own) (h : sd_w D A s tys ws H locs) {ci N index : Nat} {Cn : String} {T : u_T} {ty0 : Nat → FieldType} (hc : vwCl[ci]? = some (Cn, T, N)) (hin : ∀ w ∈ u_ws Cn T N, w ∈ sd_all) (hty : ∀ k, k < N → parseFieldDescriptor (T k).2.2.1 = some (ty0 k)) (hl : Cond.classLink own index Cn ∈ sd_all) (hi : Cond.instantiable Cn N ∈ sd_all) (hii : Cond.initialized Cn ∈ sd_all) (hfs : ∀ j, j < N → defaultValue (ty0 j) = vp_V fs j) (hcells : cells + 1 ≤ R.cells) (hslots : slots + N ≤ R.slots) (hd : decode cc pc = .ok (.new index, 3))
    (kk : ∀ (q : Nat) (H1 : Heap), sd_w D A s tys (ws ++ [(q, .inr (ci, fs))]) H1 locs → W p l e R s m args below meth c H1 locs (cells + 1) (slots + N) Q (F0 m (pc + 3) ls (.ref q :: rest))) : W p l e R s m args below meth c H locs cells slots Q (F0 m pc ls rest) :=
  va_new (ci := ci) (fs := fs) (C := Cn) (T := T) (N := N) C.1 C.2.1 C.2.2.2.2 (fun w h9 => List.mem_cons_of_mem _ (hin w h9)) ty0 hty C.2.2.2.1 (C.2.2.2.2 _ (List.mem_cons_of_mem _ hl)) (C.2.2.2.2 _ (List.mem_cons_of_mem _ hi)) (C.2.2.2.2 _ (List.mem_cons_of_mem _ hii)) h.2.2.1 h.1 h.2.1 h.2.2.2.1 h.2.2.2.2 hc hfs hcells hslots hd (fun q H1 hP hD hS => kk q H1 ⟨hP, hD, h.2.2.1, hS, h.2.2.2.2⟩)
/-- the same number under another name -/
theorem sd_top {v v' : Value} (he : v = v') (k : W p l e R s m args below meth c H locs cells slots Q (F0 m pc ls (v' :: rest))) : W p l e R s m args below meth c H locs cells slots Q (F0 m pc ls (v :: rest)) := he ▸ k
theorem sd_world (h : sd_w D A s tys ws H locs) (he : ws = ws') : sd_w D A s tys ws' H locs := he ▸ h
end SDK
