/-! THE CLAIM OUT OF ONE WALK OF THE LAW'S BODY. Your part is whole_start (and what it stands on); all else here is the same for every law, but numbers. -/
def R_law : String := "StockDeskLaw"
def lw_P (b : Addr) (xs : List Int32) (args : Array Value) (s : State) : Prop := args = #[.ref b] ∧ s.IntsAt b xs ∧ xs.length ≤ 2048 ∧ (Jvm.Cond.and given_1 narrow_1).before args s = true
def lw_Q (_ : Array Value) (s : State) (o : Outcome) (t : State) : Prop := o = .returned (some (.int 1)) ∧ Framed s o t [] 1068 9171
def lw_Z (below : List Frame) (a : Array Value) (s : State) : State → Prop := fun t => ∃ o, t.status = .running ∧ Ended t below o ∧ lw_Q a s o t
/-- the law's own end, with 1 on the stack, nothing written that was there before, its room as the claim has it -/
theorem lw_ret {p : Program} {l : Launch} {e : Env} {s : State} {m : MethodId} {below : List Frame} {meth : Method} {c : Code} {b : Nat} (hx : p.tables.exec = Jvm.exec) (hb : c.code = code) (hr : meth.sig.returnType = ret) (hlocks : meth.locks = false) {pc : Nat} {H : Heap} {ls : Array Slot} (hdg : decode code pc = .ok (.ireturn, 1)) : W p l e room_1 s m #[Value.ref b] below meth c H [] 1068 9171 (lw_Z below #[Value.ref b] s) (F0 m pc ls [.int 1]) := by
  intro T hT X
  obtain ⟨fs, hret, hrun, hended, hW, hframe⟩ := X.leave (v := some (.int 1)) (hlocks := hlocks) (fun h => by rw [hr] at h; cases h)
  have hmeth' : T.vm.method? m = some meth := X.method'
  refine ⟨T.setFrames fs, ?_, .returned (some (.int 1)), hrun, hended, rfl, ⟨_, rfl⟩, hW, hframe⟩
  jvm_step X.here [X.here.top, hx, hb, hdg, hmeth', hr, ret, narrow_b1]
  (try refine ⟨rfl, ?_⟩); (try refine ⟨rfl, ?_⟩)
  first | (intro acts; rw [hret _ acts rfl rfl rfl]) | rw [hret _ _ rfl rfl rfl]
  exact Steps.refl _
/-- what holds at the law's entry: the machine, the code, the tables' words (any of lw_tbl by 'hts w (by decide +kernel)'), the script of L ints xs at the cell b, what the Statement gives of the start (any of its parts by flat_of_before) -/
def lw_At (p : Program) (s : State) (m : MethodId) (meth : Method) (c : Code) (b L : Nat) (xs : Nat → Int32) : Prop :=
  p.tables.exec = Jvm.exec ∧ c.code = code ∧ meth.sig.returnType = ret ∧ c.maxLocals = 8 ∧ s.vm.findClass R_law = some m.cls ∧ (∀ w ∈ lw_tbl, w.before #[Value.ref b] s = true) ∧ va_X b L xs s s.heap ∧ b < s.heap.size ∧ meth.locks = false ∧ (Jvm.Cond.and given_1 narrow_1).before #[Value.ref b] s = true
set_option maxHeartbeats 4000000 in
set_option maxRecDepth 100000 in
theorem law_loop (l : Launch) (hst : l.stackTraces = false) {p : Program} {e : Env} {s : State} {m : MethodId} {below : List Frame} {meth : Method} {c : Code} {cw : Cond} {b L : Nat} {xs : Nat → Int32} {D : va_G} {k3 : ClassId × ClassId × ClassId} (hL : L ≤ 2048) (C : CallFix p m c code 8 s #[Value.ref b] (cw :: sd_all) "StockDeskLaw") (hX : va_X b L xs s s.heap) (hbl : b < s.heap.size) (hbA : ¬ (fun q : Nat => s.heap.size ≤ q) b) (hz : sd_tz (fun q : Nat => s.heap.size ≤ q) s s.heap) {dk ox : Nat} {qa qh qs qm : Nat → Nat} (hr : meth.sig.returnType = ret) (hlk : meth.locks = false) : ∀ (d t : Nat), t + d = 513 → ∀ (o : sd_S) (v : sd_HS) (fo : Nat → Int64) (mo : sd_MS) (H : Heap) (locs : List Loc) (ls : Array Slot), sS_ok o → sm_all mo o → sd_w D (fun q : Nat => s.heap.size ≤ q) s (sd_t3 k3) (sd_d1 dk qa qh qs ++ sd_dA k3 qa o ++ sd_H k3 qh (sS_u o) ++ sd_H k3 qs v ++ [(ox, .inl (k3.2.2, 1, .inr (.inl fo)))] ++ sd_M k3 qm mo) H locs → lv_has ls 8 [(0, .ref b), (1, .ref dk), (2, .ref (qm 0)), (3, .ref ox), (4, .int (nI (4 * t)))] → W p l e room_1 s m #[Value.ref b] below meth c H locs (35 + t) (925 + 6 * t) (lw_Z below #[Value.ref b] s) (F0 m 23 ls []) := by
  intro d
  induction d with
  | zero =>
    intro t htd o v fo mo H locs ls ho hm h hl
    refine lv_iload C.1 C.2.1 d_L_law_23 (lv_at hl 4 rfl) ?_
    refine lv_aload_n C.1 C.2.1 d_L_law_25 rfl (lv_at hl 0 rfl) ?_
    refine sd_slen C h hX hbl hbA d_L_law_26 ?_
    refine lv_iconst (v := 4) C.1 C.2.1 d_L_law_27 (by decide) ?_
    refine lv_isub C.1 C.2.1 d_L_law_28 ?_
    refine lv_icmp_gt (tgt := 962) C.1 C.2.1 d_L_law_29 (by decide) (fun c29 => ?_) (fun c29 => ?_)
    · refine lv_iconst (v := 1) C.1 C.2.1 d_L_law_962 (by decide) ?_
      refine va_forget (fun q hq => h.2.2.2.1.2.2 q hq) ?_
      refine W.widen (k := 1068) (n := 9171) (by omega) (by omega) ?_
      exact lw_ret C.1 C.2.1 hr hlk d_L_law_963
    · exact absurd ((sl_in hL (by omega)).mpr (by omega)) c29
  | succ d ih =>
    intro t htd o v fo mo H locs ls ho hm h hl
    have K9 : ∀ (o : sd_S) (v : sd_HS) (fo : Nat → Int64) (mo : sd_MS) (H : Heap) (locs : List Loc) (ls : Array Slot), sS_ok o → sm_all mo o → sd_w D (fun q : Nat => s.heap.size ≤ q) s (sd_t3 k3) (sd_d1 dk qa qh qs ++ sd_dA k3 qa o ++ sd_H k3 qh (sS_u o) ++ sd_H k3 qs v ++ [(ox, .inl (k3.2.2, 1, .inr (.inl fo)))] ++ sd_M k3 qm mo) H locs → lv_has ls 8 [(0, .ref b), (1, .ref dk), (2, .ref (qm 0)), (3, .ref ox), (4, .int (nI (4 * t)))] → W p l e room_1 s m #[Value.ref b] below meth c H locs (35 + t + 1) (925 + 6 * t + 6) (lw_Z below #[Value.ref b] s) (F0 m 956 ls []) := by
      intro o v fo mo H locs ls ho hm h hl
      refine lv_iinc (v := nI (4 * (t + 1))) (lv' := [(4, .int (nI (4 * (t + 1)))), (0, .ref b), (1, .ref dk), (2, .ref (qm 0)), (3, .ref ox)]) C.1 C.2.1 d_L_law_956 hl (k := 4) rfl (nI_add (4 * t) 4) (by decide) rfl (fun ls hl => ?_)
      refine lv_goto (tgt := 23) C.1 C.2.1 d_L_law_959 (by decide) ?_
      refine W.widen (k := 35 + (t + 1)) (n := 925 + 6 * (t + 1)) (by omega) (by omega) ?_
      exact ih (t + 1) (by omega) o v fo mo _ _ _ ho hm h (lv_sub hl [1, 2, 3, 4, 0] rfl)
    refine lv_iload C.1 C.2.1 d_L_law_23 (lv_at hl 4 rfl) ?_
    refine lv_aload_n C.1 C.2.1 d_L_law_25 rfl (lv_at hl 0 rfl) ?_
    refine sd_slen C h hX hbl hbA d_L_law_26 ?_
    refine lv_iconst (v := 4) C.1 C.2.1 d_L_law_27 (by decide) ?_
    refine lv_isub C.1 C.2.1 d_L_law_28 ?_
    refine lv_icmp_gt (tgt := 962) C.1 C.2.1 d_L_law_29 (by decide) (fun c29 => ?_) (fun c29 => ?_)
    · refine lv_iconst (v := 1) C.1 C.2.1 d_L_law_962 (by decide) ?_
      refine va_forget (fun q hq => h.2.2.2.1.2.2 q hq) ?_
      refine W.widen (k := 1068) (n := 9171) (by omega) (by omega) ?_
      exact lw_ret C.1 C.2.1 hr hlk d_L_law_963
    · have ht : 4 * t + 4 ≤ L := Classical.byContradiction fun z => c29 ((sl_in hL (by omega)).mpr z)
      refine lv_aload_n C.1 C.2.1 d_L_law_32 rfl (lv_at hl 0 rfl) ?_
      refine lv_iload C.1 C.2.1 d_L_law_33 (lv_at hl 4 rfl) ?_
      refine sd_sld C h hX hbl hbA (i := 4 * t) (by omega) (by omega) d_L_law_35 ?_
      refine lv_bipush (v := 15) C.1 C.2.1 d_L_law_36 (by decide) ?_
      refine lv_iand C.1 C.2.1 d_L_law_38 ?_
      obtain ⟨n9, hn9, en9⟩ := sl_and (xs (4 * t))
      refine sd_top (v := .int ((xs (4 * t)) &&& 15)) (v' := .int (nI n9)) (congrArg Value.int (en9)) ?_
      rcases (show n9 = 0 ∨ n9 = 1 ∨ n9 = 2 ∨ n9 = 3 ∨ n9 = 4 ∨ n9 = 5 ∨ n9 = 6 ∨ n9 = 7 ∨ n9 = 8 ∨ n9 = 9 ∨ n9 = 10 ∨ n9 = 11 ∨ n9 = 12 ∨ n9 = 13 ∨ n9 = 14 ∨ n9 = 15 by omega) with rfl | rfl | rfl | rfl | rfl | rfl | rfl | rfl | rfl | rfl | rfl | rfl | rfl | rfl | rfl | rfl
      · refine lv_tableIn C.1 C.2.1 d_L_law_39 (off := 73) (tgt := 112) (by decide) (by decide) (by decide) (by decide) ?_
        exact lc_make l hst hL C hX hbl hbA hz t ht ho hm h (lv_sub hl [0, 1, 2, 3, 4] rfl) K9
      · refine lv_tableIn C.1 C.2.1 d_L_law_39 (off := 129) (tgt := 168) (by decide) (by decide) (by decide) (by decide) ?_
        exact lc_drop l hst hL C hX hbl hbA hz t ht ho hm h (lv_sub hl [0, 1, 2, 3, 4] rfl) K9
      · refine lv_tableIn C.1 C.2.1 d_L_law_39 (off := 197) (tgt := 236) (by decide) (by decide) (by decide) (by decide) ?_
        exact lc_serves l hst hL C hX hbl hbA hz t ht ho hm h (lv_sub hl [0, 1, 2, 3, 4] rfl) K9
      · refine lv_tableIn C.1 C.2.1 d_L_law_39 (off := 245) (tgt := 284) (by decide) (by decide) (by decide) (by decide) ?_
        exact lc_answers l hst hL C hX hbl hbA hz t ht ho hm h (lv_sub hl [0, 1, 2, 3, 4] rfl) K9
      · refine lv_tableIn C.1 C.2.1 d_L_law_39 (off := 305) (tgt := 344) (by decide) (by decide) (by decide) (by decide) ?_
        exact lc_fails l hst hL C hX hbl hbA hz t ht ho hm h (lv_sub hl [0, 1, 2, 3, 4] rfl) K9
      · refine lv_tableIn C.1 C.2.1 d_L_law_39 (off := 373) (tgt := 412) (by decide) (by decide) (by decide) (by decide) ?_
        exact lc_call l hst hL C hX hbl hbA hz t ht ho hm h (lv_sub hl [0, 1, 2, 3, 4] rfl) K9
      · refine lv_tableIn C.1 C.2.1 d_L_law_39 (off := 452) (tgt := 491) (by decide) (by decide) (by decide) (by decide) ?_
        exact lc_again l hst hL C hX hbl hbA hz t ht ho hm h (lv_sub hl [0, 1, 2, 3, 4] rfl) K9
      · refine lv_tableIn C.1 C.2.1 d_L_law_39 (off := 531) (tgt := 570) (by decide) (by decide) (by decide) (by decide) ?_
        exact lc_collect l hst hL C hX hbl hbA hz t ht ho hm h (lv_sub hl [0, 1, 2, 3, 4] rfl) K9
      · refine lv_tableIn C.1 C.2.1 d_L_law_39 (off := 587) (tgt := 626) (by decide) (by decide) (by decide) (by decide) ?_
        exact lc_sums l hst hL C hX hbl hbA hz t ht ho hm h (lv_sub hl [0, 1, 2, 3, 4] rfl) K9
      · refine lv_tableIn C.1 C.2.1 d_L_law_39 (off := 601) (tgt := 640) (by decide) (by decide) (by decide) (by decide) ?_
        exact lc_back l hst hL C hX hbl hbA hz t ht ho hm h (lv_sub hl [0, 1, 2, 3, 4] rfl) K9
      · refine lv_tableIn C.1 C.2.1 d_L_law_39 (off := 645) (tgt := 684) (by decide) (by decide) (by decide) (by decide) ?_
        exact lc_told l hst hL C hX hbl hbA hz t ht ho hm h (lv_sub hl [0, 1, 2, 3, 4] rfl) K9
      · refine lv_tableIn C.1 C.2.1 d_L_law_39 (off := 701) (tgt := 740) (by decide) (by decide) (by decide) (by decide) ?_
        exact lc_worth l hst hL C hX hbl hbA hz t ht ho hm h (lv_sub hl [0, 1, 2, 3, 4] rfl) K9
      · refine lv_tableIn C.1 C.2.1 d_L_law_39 (off := 756) (tgt := 795) (by decide) (by decide) (by decide) (by decide) ?_
        exact lc_uses l hst hL C hX hbl hbA hz t ht ho hm h (lv_sub hl [0, 1, 2, 3, 4] rfl) K9
      · refine lv_tableIn C.1 C.2.1 d_L_law_39 (off := 824) (tgt := 863) (by decide) (by decide) (by decide) (by decide) ?_
        exact lc_numbers l hst hL C hX hbl hbA hz t ht ho hm h (lv_sub hl [0, 1, 2, 3, 4] rfl) K9
      · refine lv_tableIn C.1 C.2.1 d_L_law_39 (off := 892) (tgt := 931) (by decide) (by decide) (by decide) (by decide) ?_
        exact lc_count l hst hL C hX hbl hbA hz t ht ho hm h (lv_sub hl [0, 1, 2, 3, 4] rfl) K9
      · refine lv_tableOut C.1 C.2.1 d_L_law_39 (tgt := 956) (by decide) (by decide) ?_
        refine W.widen (k := 35 + t + 1) (n := 925 + 6 * t + 6) (by omega) (by omega) ?_
        exact K9 o v fo mo _ _ _ ho hm h (lv_sub hl [0, 1, 2, 3, 4] rfl)
