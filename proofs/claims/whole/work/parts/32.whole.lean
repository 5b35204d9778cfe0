theorem sl_str {A : Array Value} {s : State} {own tx : String} {k : Nat} (w : (Cond.stringRef own k tx).before A s = true) : ∃ q, vk_R own k tx q s := by
  cases hc : s.vm.findClass own with
  | none => simp [Cond.before, Cond.holds, Cond.value, hc] at w
  | some cc =>
    obtain ⟨_, _, _, a, -, -, -, -, -, he⟩ := Cond.stringRef_spec hc w
    exact ⟨a, vk_R.of w he⟩
theorem sl_arr {A : Array Value} {s : State} {ty : FieldType} (w : (Cond.arrayClass ty).before A s = true) : ∃ cA : ClassId, ArrOfT s cA ty ∧ s.vm.findClass ("[" ++ ty.toString) = some cA := by
  obtain ⟨cA, kA, comp, h1, h2, h3⟩ := Cond.arrayClass_spec w
  exact ⟨cA, fun n z => ⟨fun k h => (by cases h), kA, h2, comp, h3⟩, h1⟩
theorem sd_nws_tb : ∀ w ∈ sd_nws, w ∈ lw_tbl := by decide +kernel
theorem sl_tz {A : Nat → Prop} {args : Array Value} {s : State} (hts : ∀ w ∈ lw_tbl, w.before args s = true) (hgv : (Jvm.Cond.and given_1 narrow_1).before args s = true) (hA : ∀ a : Nat, a < s.heap.size → ¬ A a) : sd_tz A s s.heap := by
  have hs := flat_of_before _ hgv
  refine ⟨vx_Zqof (hts _ (by decide +kernel)) (hts _ (by decide +kernel)) (hs _ (by decide +kernel)) hA, vx_Zqof (hts _ (by decide +kernel)) (hts _ (by decide +kernel)) (hs _ (by decide +kernel)) hA, fun x hx => ?_, fun w hw => va_Nw.of (sd_nws_ok w hw).1 (hts w (sd_nws_tb w hw)), fun x hx => ?_⟩
  · simp only [sd_strs, List.mem_cons, List.not_mem_nil, or_false] at hx
    rcases hx with rfl | rfl | rfl | rfl | rfl | rfl | rfl | rfl | rfl
    all_goals exact sl_str (hts _ (by decide +kernel))
  · simp only [sd_ncs, List.mem_cons, List.not_mem_nil, or_false] at hx
    rcases hx with rfl | rfl | rfl | rfl | rfl | rfl | rfl | rfl | rfl | rfl | rfl | rfl
    all_goals exact va_Nc.of (hs _ (by decide +kernel))
theorem sl_K {args : Array Value} {s : State} (hts : ∀ w ∈ lw_tbl, w.before args s = true) : ∃ (D : va_G) (k3 : ClassId × ClassId × ClassId), va_K D vwCl (sd_t3 k3) s := by
  have ha : ∀ w ∈ sd_all, w.before args s = true := fun w hw => hts w (List.mem_filter.mp hw).1
  obtain ⟨c0, i0, g0⟩ := u_known (C := "StockDesk$ActRow") (T := T_A) (N := 5) (n := 5) ha in_A (ha _ tb_41)
  obtain ⟨c1, i1, g1⟩ := u_known (C := "StockDesk$House") (T := T_H) (N := 16) (n := 16) ha in_H (ha _ tb_64)
  obtain ⟨c2, i2, g2⟩ := u_known (C := "StockDesk") (T := T_D) (N := 3) (n := 3) ha in_D (ha _ tb_33)
  obtain ⟨c3, i3, g3⟩ := u_known (C := "StockDeskModel") (T := T_M) (N := 19) (n := 19) ha in_M (ha _ tb_501)
  obtain ⟨a0, r0, q0⟩ := sl_arr (ty := .int) (ha _ tb_62)
  obtain ⟨a1, r1, q1⟩ := sl_arr (ty := .boolean) (ha _ tb_136)
  obtain ⟨a2, r2, q2⟩ := sl_arr (ty := .long) (ha _ tb_137)
  refine ⟨(fun k => if k = 0 then c0 else if k = 1 then c1 else if k = 2 then c2 else c3, fun k => if k = 0 then i0 else if k = 1 then i1 else if k = 2 then i2 else i3), (a0, a1, a2), fun k q hq => ?_, fun k q hq => ?_⟩
  · match k, hq with
    | 0, hq => cases hq; exact g0
    | 1, hq => cases hq; exact g1
    | 2, hq => cases hq; exact g2
    | 3, hq => cases hq; exact g3
    | k + 4, hq => simp [vwCl] at hq
  · match k, hq with
    | 0, hq => cases hq; exact ⟨r0, q0⟩
    | 1, hq => cases hq; exact ⟨r1, q1⟩
    | 2, hq => cases hq; exact ⟨r2, q2⟩
    | k + 3, hq => simp [sd_t3] at hq
theorem sm_all_0 : sm_all (mm_fresh sd_mz) sS_0 := ⟨rfl, fun j hj => absurd hj (Nat.not_lt_zero j), sm_rel_0 sd_mz⟩
theorem sS_ok_0 : sS_ok sS_0 := ⟨Nat.zero_le 60, fun j hj => absurd hj (Nat.not_lt_zero j)⟩
set_option maxHeartbeats 4000000 in
set_option maxRecDepth 100000 in
theorem whole_start {p : Program} {e : Env} {s : State} {m : MethodId} {below : List Frame} {meth : Method} {c : Code} (l : Launch) (hst : l.stackTraces = false) {b L : Nat} {xs : Nat → Int32} (hL : L ≤ 2048) (C0 : lw_At p s m meth c b L xs) : W p l e room_1 s m #[Value.ref b] below meth c s.heap [] 0 0 (lw_Z below #[Value.ref b] s) (entryFrame m ([Value.ref b] : List Value).toArray 8) := by
  obtain ⟨hx, hb, hr, hml, hown, hts, hX, hbl, hlk, hgv⟩ := id C0
  have C : CallFix p m c code 8 s #[Value.ref b] (Cond.initialized "StockDesk" :: sd_all) "StockDeskLaw" := ⟨hx, hb, hml, hown, fun w hw => by rcases List.mem_cons.mp hw with e9 | e9; rw [e9]; exact hts _ (List.mem_filter.mp tb_21).1; exact hts w (List.mem_filter.mp e9).1⟩
  have hbA : ¬ (fun q : Nat => s.heap.size ≤ q) b := Nat.not_le.mpr hbl
  have hz : sd_tz (fun q : Nat => s.heap.size ≤ q) s s.heap := sl_tz hts hgv (fun a h1 h2 => absurd h1 (Nat.not_lt.mpr h2))
  obtain ⟨D, k3, hK⟩ := sl_K hts
  have h : sd_w D (fun q : Nat => s.heap.size ≤ q) s (sd_t3 k3) [] s.heap [] := ⟨fun k q h9 => by simp at h9, ⟨fun i j p9 q9 h9 => by simp at h9, fun k q h9 => by simp at h9⟩, hK, va_S.rf, fun _ h9 => h9⟩
  have hl := lv_entry ([.ref b]) (n := 8) (Nat.le_of_ble_eq_true rfl)
  rw [lg_entry_eq]
  generalize (lg_sl ([.ref b]) ++ List.replicate (8 - (lg_sl ([.ref b])).length) Slot.unset).toArray = ls at hl ⊢
  have hl : lv_has ls 8 [(0, .ref b)] := hl
  obtain ⟨H, hH⟩ : ∃ H, H = s.heap := ⟨_, rfl⟩
  have h : sd_w D (fun q : Nat => s.heap.size ≤ q) s (sd_t3 k3) [] H [] := by rw [hH]; exact h
  suffices hsuf : W p l e room_1 s m #[Value.ref b] below meth c H [] 0 0 (lw_Z below #[Value.ref b] s) (F0 m 0 ls []) by rw [hH] at hsuf; exact hsuf
  refine sd_new (fs := [.null, .null, .null]) C h (ci := 2) (Cn := "StockDesk") (T := T_D) (N := 3) (ty0 := ty_D) rfl in_D tyok_D tb_32 tb_33 tb_21 (fun j hj => by rcases (show j = 0 ∨ j = 1 ∨ j = 2 by omega) with rfl | rfl | rfl <;> rfl) (Nat.le_of_ble_eq_true rfl) (Nat.le_of_ble_eq_true rfl) d_L_law_0 (fun q0 H h => ?_)
  refine W.widen (k := 1) (n := 3) (by decide) (by decide) ?_
  refine lv_dup C.1 C.2.1 d_L_law_3 rfl ?_
  have h := sd_world h (ws' := ([]) ++ ([(q0, .inr (2, [.null, .null, .null]))]) ++ ([])) (by simp only [sd_D2, sd_D3, sd_D4, List.append_assoc, List.nil_append, List.append_nil])
  refine sd_callv h (va_runI (As := []) (rest := [.ref q0]) C (k_D_init l D k3 H.size q0 ) (sd_cwI 0 C.2.2.2.2 tb_34 tb_35 tb_21 tb_36 rfl rfl rfl (by decide +kernel) ⟨Nat.le_of_ble_eq_true rfl, Nat.le_of_ble_eq_true rfl⟩) (sd_preSx h hz) rfl rfl hl.1 rfl (lv_room (Nat.le_of_ble_eq_true rfl)) d_L_law_4 ⟨Nat.le_of_ble_eq_true rfl, Nat.le_of_ble_eq_true rfl⟩) (fun w1 H locs hq h => ?_)
  refine W.widen (k := 24) (n := 530) (by decide) (by decide) ?_
  obtain ⟨qa, qh, qs, rfl⟩ := hq
  have h := sd_world h (ws' := sd_d1 q0 qa qh qs ++ sd_dA k3 qa sS_0 ++ sd_H k3 qh (sS_u sS_0) ++ sd_H k3 qs sd_h0) (by simp only [sd_D2, sd_D3, sd_D4, List.append_assoc, List.nil_append, List.append_nil])
  refine lv_astore_n (lv' := [(1, .ref q0), (0, .ref b)]) C.1 C.2.1 d_L_law_7 rfl hl (by decide) rfl (fun ls hl => ?_)
  refine sd_new (fs := [.int 0, .int 0, .null, .null, .null, .null, .null, .null, .null, .null, .null, .int 0, .int 0, .int 0, .int 0, .int 0, .int 0, .int 0, .int 0]) C h (ci := 3) (Cn := "StockDeskModel") (T := T_M) (N := 19) (ty0 := ty_M) rfl in_M tyok_M tb_500 tb_501 tb_24 (fun j hj => by rcases (show j = 0 ∨ j = 1 ∨ j = 2 ∨ j = 3 ∨ j = 4 ∨ j = 5 ∨ j = 6 ∨ j = 7 ∨ j = 8 ∨ j = 9 ∨ j = 10 ∨ j = 11 ∨ j = 12 ∨ j = 13 ∨ j = 14 ∨ j = 15 ∨ j = 16 ∨ j = 17 ∨ j = 18 by omega) with rfl | rfl | rfl | rfl | rfl | rfl | rfl | rfl | rfl | rfl | rfl | rfl | rfl | rfl | rfl | rfl | rfl | rfl | rfl <;> rfl) (Nat.le_of_ble_eq_true rfl) (Nat.le_of_ble_eq_true rfl) d_L_law_8 (fun q8 H h => ?_)
  refine W.widen (k := 25) (n := 549) (by decide) (by decide) ?_
  refine lv_dup C.1 C.2.1 d_L_law_11 rfl ?_
  have h := sd_world h (ws' := (sd_d1 q0 qa qh qs ++ sd_dA k3 qa sS_0 ++ sd_H k3 qh (sS_u sS_0) ++ sd_H k3 qs sd_h0) ++ ([(q8, .inr (3, [.int 0, .int 0, .null, .null, .null, .null, .null, .null, .null, .null, .null, .int 0, .int 0, .int 0, .int 0, .int 0, .int 0, .int 0, .int 0]))]) ++ ([])) (by simp only [sd_D2, sd_D3, sd_D4, List.append_assoc, List.nil_append, List.append_nil])
  refine sd_callv h (va_runI (As := []) (rest := [.ref q8]) C (k_M_init l D k3 H.size q8 ) (sd_cwI 0 C.2.2.2.2 tb_502 tb_503 tb_24 tb_504 rfl rfl rfl (by decide +kernel) ⟨Nat.le_of_ble_eq_true rfl, Nat.le_of_ble_eq_true rfl⟩) (sd_preS h) rfl rfl hl.1 rfl (lv_room (Nat.le_of_ble_eq_true rfl)) d_L_law_12 ⟨Nat.le_of_ble_eq_true rfl, Nat.le_of_ble_eq_true rfl⟩) (fun w1 H locs hq h => ?_)
  refine W.widen (k := 34) (n := 924) (by decide) (by decide) ?_
  obtain ⟨qm, rfl, rfl⟩ := hq
  have h := sd_world h (ws' := sd_d1 q0 qa qh qs ++ sd_dA k3 qa sS_0 ++ sd_H k3 qh (sS_u sS_0) ++ sd_H k3 qs sd_h0 ++ sd_M k3 qm (mm_fresh sd_mz)) (by simp only [sd_D2, sd_D3, sd_D4, List.append_assoc, List.nil_append, List.append_nil])
  refine lv_astore_n (lv' := [(2, .ref (qm 0)), (1, .ref q0), (0, .ref b)]) C.1 C.2.1 d_L_law_15 rfl hl (by decide) rfl (fun ls hl => ?_)
  refine lv_iconst (v := 1) C.1 C.2.1 d_L_law_16 (by decide) ?_
  refine sd_newa C h 2 (ty := .long) (a0 := (1, .inr (.inl (fun _ => 0)))) (N' := 1) rfl rfl (fun _ => rfl) tb_137 (fun _ => rfl) (by decide) (by decide) (by decide) (Nat.le_of_ble_eq_true rfl) (Nat.le_of_ble_eq_true rfl) d_L_law_17 (fun q17 H h => ?_)
  refine W.widen (k := 35) (n := 925) (by decide) (by decide) ?_
  refine lv_astore_n (lv' := [(3, .ref q17), (2, .ref (qm 0)), (1, .ref q0), (0, .ref b)]) C.1 C.2.1 d_L_law_19 rfl hl (by decide) rfl (fun ls hl => ?_)
  refine lv_iconst (v := 0) C.1 C.2.1 d_L_law_20 (by decide) ?_
  refine lv_istore (lv' := [(4, .int 0), (3, .ref q17), (2, .ref (qm 0)), (1, .ref q0), (0, .ref b)]) C.1 C.2.1 d_L_law_21 hl (by decide) rfl (fun ls hl => ?_)
  have h := sd_swap (wa := sd_d1 q0 qa qh qs ++ sd_dA k3 qa sS_0 ++ sd_H k3 qh (sS_u sS_0) ++ sd_H k3 qs sd_h0) (wb := sd_M k3 qm (mm_fresh sd_mz)) (wc := [(q17, .inl (k3.2.2, 1, .inr (.inl (fun _ => 0))))]) (wd := []) (sd_world h (by simp only [List.append_assoc, List.nil_append, List.append_nil]))
  have h := sd_world h (ws' := sd_d1 q0 qa qh qs ++ sd_dA k3 qa sS_0 ++ sd_H k3 qh (sS_u sS_0) ++ sd_H k3 qs sd_h0 ++ [(q17, .inl (k3.2.2, 1, .inr (.inl (fun _ => 0))))] ++ sd_M k3 qm (mm_fresh sd_mz)) (by simp only [List.append_assoc, List.nil_append, List.append_nil])
  exact law_loop l hst hL C hX hbl hbA hz hr hlk 513 0 (by omega) sS_0 sd_h0 (fun _ => 0) (mm_fresh sd_mz) _ _ _ sS_ok_0 sm_all_0 h (lv_sub hl [4, 3, 2, 1, 0] rfl)
theorem lw_flags {l : Launch} (h : l.flags = flags0) : l.stackTraces = false := by
  unfold Launch.stackTraces
  rw [h]
  decide +kernel
set_option maxHeartbeats 4000000 in
theorem lw_walk (l : Launch) (hst : l.stackTraces = false) (b : Addr) (xs : List Int32) : MetFree l x (headSpec (Jvm.Cond.code x code maxLocals ret :: tables_1) room_1) (lw_P b xs) (fun _ _ _ _ _ => True) lw_Q := by
  refine MetFree.of_bodyS (code := code) (maxLocals := maxLocals) (ret := ret) (by decide) ?_ ?_
  · intro args s m h hn
    obtain ⟨meth, c, h1, h2, h3, h4, h5, h6, -, -⟩ := Cond.code_spec hn (atoms_spec (ws := Jvm.Cond.code x code maxLocals ret :: tables_1) h _ List.mem_cons_self)
    exact ⟨meth, c, h1, h2, h3, h4, h5, h6⟩
  · intro p e s m args below meth c s₁ B hml0 hP _
    obtain ⟨rfl, hx, hbd, hgv⟩ := hP
    obtain ⟨scr, harrAt, hlist, hof, hsmall⟩ := hx
    obtain ⟨hcb, hkn, -, -⟩ := State.arrayAt?_spec harrAt
    have hown : s.vm.findClass R_law = some m.cls := findClass_of_methodNamed B.named
    have hts0 : ∀ c ∈ (Jvm.Cond.code x code maxLocals ret :: tables_1), c.before #[Value.ref b] s = true := atoms_spec (ws := Jvm.Cond.code x code maxLocals ret :: tables_1) B.pre
    have hts : ∀ w ∈ lw_tbl, w.before #[Value.ref b] s = true := k2_hts_sels lw_privs (fun w hw => hts0 w (List.mem_cons_of_mem _ hw)) lw_privs_ok
    have hml : c.maxLocals = 8 := B.maxLocals_eq (hts0 _ List.mem_cons_self)
    have X₀ : Stand p l e room_1 s m #[Value.ref b] below meth c s₁ [] 0 0 := Stand.of_body B
    have hh0 : s₁.heap = s.heap := by rw [B.state]; rfl
    have hsz : scr.slots.size = xs.length := by rw [← Array.length_toList, hlist, List.length_map]
    have hval : ∀ j : Nat, j < xs.length → scr.slots[j]? = some (.int (xs.getD j 0)) := fun j hj => by
      rw [← Array.getElem?_toList, hlist]
      simp [hj]
    have hbl : b < s.heap.size := (Array.getElem?_eq_some_iff.mp hcb).1
    have hX : va_X b xs.length (fun j => xs.getD j 0) s s.heap := ⟨scr, hcb, hof, hkn, hsz, hval⟩
    have K : W p l e room_1 s m #[Value.ref b] below meth c s₁.heap [] 0 0 (lw_Z below #[Value.ref b] s) (entryFrame m ([Value.ref b] : List Value).toArray 8) := by
      rw [hh0]
      exact whole_start l hst hbd ⟨B.exec, B.bytes, B.returns, hml, hown, hts, hX, hbl, B.notSynchronized, hgv⟩
    obtain ⟨t, a1, o, b1, b2, b3⟩ := K s₁ rfl X₀
    exact ⟨t, o, a1, b1, b2, b3⟩
theorem lw_pre_spec {args : Array Value} {s : State} (h : (Jvm.Cond.and given_1 narrow_1).before args s = true) (hr : rest_1_c.before args s = true) : ∃ (b : Addr) (xs : List Int32), lw_P b xs args s := by
  have hs := flat_of_before _ h
  have hq := flat_of_before _ hr
  have hc : (Cond.count 1).before args s = true := hs _ (by decide +kernel)
  have harr : (Cond.arrayOf (.arg 0) .int).before args s = true := hs _ (by decide +kernel)
  have hle : (Cond.le (.length (.arg 0)) (.int 2048)).before args s = true := hs _ (by decide +kernel)
  have hlen : (Cond.isInt (.length (.arg 0))).before args s = true := hq _ (by decide +kernel)
  have hall : (Cond.all (.arg 0) (.isInt (.elem (.arg 0) (.index 0)))).before args s = true := hq _ (by decide +kernel)
  obtain ⟨b, xs, hb, hx⟩ := State.ints_of_pre rfl harr hlen hall
  have hsm : xs.length < 2 ^ 31 := hx.choose_spec.2.2.2
  have hev : (Term.length (.arg 0)).eval args s none [] s = some (.int xs.length.toInt32) := hx.length_eval hb
  have hv := Cond.le_ints hev (show (Term.int 2048).eval args s none [] s = some (.int 2048) from rfl)
  have hd : xs.length.toInt32 ≤ 2048 := by
    simpa [Cond.before, Cond.holds, hv] using hle
  have hN : xs.length ≤ 2048 := (Int32.ofNat_le_ofNat hsm (by decide)).mp (show Int32.ofNat xs.length ≤ Int32.ofNat 2048 from hd)
  exact ⟨b, xs, Cond.one_arg hc (show args[0]? = some (.ref b) from hb), hx, hN, h⟩
theorem lw_comes (l : Launch) (hst : l.stackTraces = false) : Comes l x (Jvm.Cond.code x code maxLocals ret :: tables_1) room_1 (fun tb e args s => Calls_1 tb e args s ∧ rest_1 tb e args s ∧ Pre_1 tb e args s)
    (fun _ _ args s o t => lw_Q args s o t) := by
  intro p e ha hc hk s m args below hf hfit hheap happ hpre
  obtain ⟨b, xs, hP⟩ := lw_pre_spec hpre.2.2 hpre.2.1
  obtain ⟨k, o, h1, h2, h3, hQ⟩ := lw_walk l hst b xs p e ha hc hk s m args below hf ((Spec.applies_iff_loose hf).mp happ).1 hP trivial
  exact ⟨k, o, h1, h2, h3, hQ⟩
theorem lw_frame {s t : State} {o : Outcome} {args : Array Value} (h : Framed s o t [] 1068 9171) :
    Framed s o t (fieldLocs frame_1_writes args s ++ arrayLocs frame_1_arrays args s ++ staticLocs frame_1_statics s) 1068 9171 := h
theorem lw_limb (L : Cond) (hL : ∀ (args : Array Value) (s t : State), L.after args s (.returned (some (.int 1))) t = true) :
    ArmFor flags0 classFile x code maxLocals ret World_1 tables_1 room_1 Calls_1 rest_1 Pre_1
      (fun tb e a s o t => postC L tb e a s o t ∧ Framed s o t (fieldLocs frame_1_writes a s ++ arrayLocs frame_1_arrays a s ++ staticLocs frame_1_statics s) 1068 9171) := by
  intro l hf1 hf2 hf3 p e ha hc hk s m args below hf hfit hheap happ hpre
  obtain ⟨k, o, h1, h2, h3, rfl, hF⟩ := lw_comes l (lw_flags hf1) p e ha hc hk s m args below hf hfit hheap happ hpre
  exact ⟨k, _, h1, h2, h3, hL args s _, lw_frame hF⟩
theorem i_vc : Claimed_1_1 ∧ Claimed_1_2 := ⟨lw_limb limb_1_1 (fun args s t => by simp [limb_1_1, Cond.after, Cond.holds, Cond.value]), lw_limb limb_1_2 (fun args s t => Cond.after_iff.mpr (by
  first | (rw [show limb_1_2 = Cond.eq .result (.int 1) from rfl, Cond.eq_ints (x := 1) (y := 1) rfl rfl]; simp; done) | (simp [limb_1_2, Cond.value, Term.eval]; done)))⟩
