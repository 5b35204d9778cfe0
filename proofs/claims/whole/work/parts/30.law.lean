/-! the law -/
theorem sl_and (y : Int32) : ∃ n, n < 16 ∧ y &&& 15 = nI n := by
  refine ⟨(y &&& 15).toBitVec.toNat, ?_, ?_⟩
  · rw [Int32.toBitVec_and, BitVec.toNat_and]
    exact Nat.lt_of_le_of_lt Nat.and_le_right (by decide)
  · apply Int32.toBitVec_inj.mp
    show (y &&& 15).toBitVec = BitVec.ofNat 32 ((y &&& 15).toBitVec.toNat)
    rw [BitVec.ofNat_toNat]
    simp
theorem sl_cmp {x y : Int64} (h : x = y) : lg_cmp x y = 0 := by
  subst h
  unfold lg_cmp
  rw [if_neg (Int64.lt_irrefl), if_pos rfl]
theorem sl_in {L t : Nat} (hL : L ≤ 2048) (ht : t ≤ 513) : Int32.ofNat L - 4 < nI (4 * t) ↔ ¬ 4 * t + 4 ≤ L := by
  rcases Nat.lt_or_ge L 4 with h | h
  · have e : (Int32.ofNat L - 4).toInt < 0 := by
      rcases (show L = 0 ∨ L = 1 ∨ L = 2 ∨ L = 3 by omega) with rfl | rfl | rfl | rfl <;> decide
    rw [Int32.lt_iff_toInt_lt, nI_toInt (by omega)]
    omega
  · have e : Int32.ofNat L - 4 = nI (L - 4) := pk_sub (a := L) (b := 4) h
    rw [e, nI_ltI (by omega) (by omega)]
    omega
section SDL
variable {p : Program} {l : Launch} {e : Env} {R : Room} {s : State} {m : MethodId} {args : Array Value} {below : List Frame} {meth : Method} {c : Code} {H : Heap} {locs : List Loc} {cells slots : Nat} {Q : State → Prop}
variable {cc : ByteArray} {nL pc : Nat} {ls : Array Slot} {rest : List Value} {D : va_G} {A : Nat → Prop} {ws : va_W} {tys : List (ClassId × FieldType)} {cw : Cond} {own : String} {b L : Nat} {xs : Nat → Int32}
theorem sd_sld (C : CallFix p m c cc nL s args (cw :: sd_all) own) (h : sd_w D A s tys ws H locs) (hX : va_X b L xs s s.heap) (hbl : b < s.heap.size) (hbA : ¬ A b) {i : Nat} (hi : i < L) (hL : L < 2 ^ 31) (hd : decode cc pc = .ok (.iaload, 1))
    (kk : W p l e R s m args below meth c H locs cells slots Q (F0 m (pc + 1) ls (.int (xs i) :: rest))) : W p l e R s m args below meth c H locs cells slots Q (F0 m pc ls (.int (nI i) :: .ref b :: rest)) :=
  va_sld C.1 C.2.1 hX hbl hbA h.2.2.2.1 (vp_in_nI hi hL) hd (by rw [sd_clamp hi hL]; exact kk)
theorem sd_slen (C : CallFix p m c cc nL s args (cw :: sd_all) own) (h : sd_w D A s tys ws H locs) (hX : va_X b L xs s s.heap) (hbl : b < s.heap.size) (hbA : ¬ A b) (hd : decode cc pc = .ok (.arraylength, 1))
    (kk : W p l e R s m args below meth c H locs cells slots Q (F0 m (pc + 1) ls (.int (Int32.ofNat L) :: rest))) : W p l e R s m args below meth c H locs cells slots Q (F0 m pc ls (.ref b :: rest)) :=
  va_slen C.1 C.2.1 hX hbl hbA h.2.2.2.1 hd kk
end SDL
set_option maxHeartbeats 4000000 in
set_option maxRecDepth 100000 in
theorem lc_make (l : Launch) (hst : l.stackTraces = false) {p : Program} {e : Env} {s : State} {m : MethodId} {below : List Frame} {meth : Method} {c : Code} {Q : State → Prop} {cw : Cond} {b L : Nat} {xs : Nat → Int32} {A : Nat → Prop} {D : va_G} {k3 : ClassId × ClassId × ClassId} (hL : L ≤ 2048) (C : CallFix p m c code 8 s #[Value.ref b] (cw :: sd_all) "StockDeskLaw") (hX : va_X b L xs s s.heap) (hbl : b < s.heap.size) (hbA : ¬ A b) (hz : sd_tz A s s.heap) {dk ox : Nat} {qa qh qs qm : Nat → Nat} (t : Nat) (ht : 4 * t + 4 ≤ L) {o : sd_S} {v : sd_HS} {fo : Nat → Int64} {mo : sd_MS} {H : Heap} {locs : List Loc} {ls : Array Slot} (ho : sS_ok o) (hm : sm_all mo o) (h : sd_w D A s (sd_t3 k3) (sd_d1 dk qa qh qs ++ sd_dA k3 qa o ++ sd_H k3 qh (sS_u o) ++ sd_H k3 qs v ++ [(ox, .inl (k3.2.2, 1, .inr (.inl fo)))] ++ sd_M k3 qm mo) H locs) (hl : lv_has ls 8 [(0, .ref b), (1, .ref dk), (2, .ref (qm 0)), (3, .ref ox), (4, .int (nI (4 * t)))])
    (kk : ∀ (o : sd_S) (v : sd_HS) (fo : Nat → Int64) (mo : sd_MS) (H : Heap) (locs : List Loc) (ls : Array Slot), sS_ok o → sm_all mo o → sd_w D A s (sd_t3 k3) (sd_d1 dk qa qh qs ++ sd_dA k3 qa o ++ sd_H k3 qh (sS_u o) ++ sd_H k3 qs v ++ [(ox, .inl (k3.2.2, 1, .inr (.inl fo)))] ++ sd_M k3 qm mo) H locs → lv_has ls 8 [(0, .ref b), (1, .ref dk), (2, .ref (qm 0)), (3, .ref ox), (4, .int (nI (4 * t)))] → W p l e room_1 s m #[Value.ref b] below meth c H locs (35 + t + 1) (925 + 6 * t + 6) Q (F0 m 956 ls [])) : W p l e room_1 s m #[Value.ref b] below meth c H locs (35 + t) (925 + 6 * t) Q (F0 m 112 ls []) := by
  refine lv_aload_n C.1 C.2.1 d_L_law_112 rfl (lv_at hl 1 rfl) ?_
  refine lv_aload_n C.1 C.2.1 d_L_law_113 rfl (lv_at hl 0 rfl) ?_
  refine lv_iload C.1 C.2.1 d_L_law_114 (lv_at hl 4 rfl) ?_
  refine lv_iconst (v := 1) C.1 C.2.1 d_L_law_116 (by decide) ?_
  refine lv_iadd C.1 C.2.1 d_L_law_117 ?_
  refine sd_top (v := .int ((nI (4 * t)) + 1)) (v' := .int (nI (4 * t + 1))) (congrArg Value.int (nI_add (4 * t) 1)) ?_
  refine sd_sld C h hX hbl hbA (i := 4 * t + 1) (by omega) (by omega) d_L_law_118 ?_
  refine lv_aload_n C.1 C.2.1 d_L_law_119 rfl (lv_at hl 3 rfl) ?_
  have h := sd_world h (ws' := ([]) ++ (sd_d1 dk qa qh qs ++ sd_dA k3 qa o ++ sd_H k3 qh (sS_u o) ++ sd_H k3 qs v ++ [(ox, .inl (k3.2.2, 1, .inr (.inl fo)))]) ++ (sd_M k3 qm mo)) (by simp only [sd_D2, sd_D3, sd_D4, List.append_assoc, List.nil_append, List.append_nil])
  refine sd_calli h (vx_runSW (As := [.ref dk, .int (xs (4 * t + 1)), .ref ox]) (rest := []) C (k_L_make l hst D k3 H.size dk qa qh qs o v ox fo (xs (4 * t + 1)) ho) (sd_cwSW 3 C.2.2.2.2 tb_176 tb_177 tb_20 tb_178 rfl rfl (by decide +kernel) ⟨Nat.le_of_ble_eq_true rfl, Nat.le_of_ble_eq_true rfl⟩) (sd_preSx h hz) rfl rfl hl.1 rfl (lv_room (Nat.le_of_ble_eq_true rfl)) d_L_law_120 ⟨(show _ ≤ 1068 by omega), (show _ ≤ 9171 by omega)⟩) (fun r w1 H locs hq h => ?_)
  obtain ⟨rfl, v9, fo9, rfl, hv⟩ := hq
  have h := sd_world h (ws' := sd_d1 dk qa qh qs ++ sd_dA k3 qa ((sp_make o (xs (4 * t + 1))).2.2) ++ sd_H k3 qh (sS_u (sp_make o (xs (4 * t + 1))).2.2) ++ sd_H k3 qs v9 ++ [(ox, .inl (k3.2.2, 1, .inr (.inl fo9)))] ++ sd_M k3 qm mo) (by simp only [sd_D2, sd_D3, sd_D4, List.append_assoc, List.nil_append, List.append_nil])
  refine lv_istore (lv' := [(5, .int (sp_cd [xIA, xUO] (sp_make o (xs (4 * t + 1))).1)), (0, .ref b), (1, .ref dk), (2, .ref (qm 0)), (3, .ref ox), (4, .int (nI (4 * t)))]) C.1 C.2.1 d_L_law_123 hl (by decide) rfl (fun ls hl => ?_)
  refine lv_aload_n C.1 C.2.1 d_L_law_125 rfl (lv_at hl 3 rfl) ?_
  refine lv_aload_n C.1 C.2.1 d_L_law_126 rfl (lv_at hl 1 rfl) ?_
  refine lv_iload C.1 C.2.1 d_L_law_127 (lv_at hl 5 rfl) ?_
  refine lv_iconst (v := 1) C.1 C.2.1 d_L_law_129 (by decide) ?_
  refine lv_iadd C.1 C.2.1 d_L_law_130 ?_
  refine sd_top (v := .int ((nI (4 * t)) + 1)) (v' := .int (nI (4 * t + 1))) (congrArg Value.int (nI_add (4 * t) 1)) ?_
  refine sd_sld C h hX hbl hbA (i := 4 * t + 1) (by omega) (by omega) d_L_law_131 ?_
  have h := sd_world h (ws' := (sd_d1 dk qa qh qs ++ sd_dA k3 qa ((sp_make o (xs (4 * t + 1))).2.2) ++ sd_H k3 qh (sS_u (sp_make o (xs (4 * t + 1))).2.2) ++ sd_H k3 qs v9 ++ [(ox, .inl (k3.2.2, 1, .inr (.inl fo9)))]) ++ (sd_M k3 qm mo) ++ ([])) (by simp only [sd_D2, sd_D3, sd_D4, List.append_assoc, List.nil_append, List.append_nil])
  refine sd_calli h (va_runV (As := [.int (xs (4 * t + 1))]) (rest := []) C (k_M_make l D k3 H.size qm mo o (xs (4 * t + 1)) ho hm) (sd_cwV 1 C.2.2.2.2 tb_572 tb_573 tb_574 tb_24 tb_575 rfl rfl (by decide +kernel) ⟨Nat.le_of_ble_eq_true rfl, Nat.le_of_ble_eq_true rfl⟩) (sd_preV h (q0 := 25) (T := T_M) (N := 19) rfl rfl) rfl rfl hl.1 rfl (lv_room (Nat.le_of_ble_eq_true rfl)) d_L_law_132 ⟨(show _ ≤ 1068 by omega), (show _ ≤ 9171 by omega)⟩) (fun rb w1 H locs hq h => ?_)
  obtain ⟨m9, rfl, hm9, htc, hb9⟩ := hq
  have h := sd_world h (ws' := sd_d1 dk qa qh qs ++ sd_dA k3 qa ((sp_make o (xs (4 * t + 1))).2.2) ++ sd_H k3 qh (sS_u (sp_make o (xs (4 * t + 1))).2.2) ++ sd_H k3 qs v9 ++ [(ox, .inl (k3.2.2, 1, .inr (.inl fo9)))] ++ sd_M k3 qm m9) (by simp only [sd_D2, sd_D3, sd_D4, List.append_assoc, List.nil_append, List.append_nil])
  refine lv_istore (lv' := [(6, .int rb), (5, .int (sp_cd [xIA, xUO] (sp_make o (xs (4 * t + 1))).1)), (0, .ref b), (1, .ref dk), (2, .ref (qm 0)), (3, .ref ox), (4, .int (nI (4 * t)))]) C.1 C.2.1 d_L_law_135 hl (by decide) rfl (fun ls hl => ?_)
  refine lv_aload_n C.1 C.2.1 d_L_law_137 rfl (lv_at hl 4 rfl) ?_
  have h := sd_world h (ws' := (sd_d1 dk qa qh qs ++ sd_dA k3 qa ((sp_make o (xs (4 * t + 1))).2.2) ++ sd_H k3 qh (sS_u (sp_make o (xs (4 * t + 1))).2.2) ++ sd_H k3 qs v9 ++ [(ox, .inl (k3.2.2, 1, .inr (.inl fo9)))]) ++ (sd_M k3 qm m9) ++ ([])) (by simp only [sd_D2, sd_D3, sd_D4, List.append_assoc, List.nil_append, List.append_nil])
  refine sd_calli h (va_runV (As := []) (rest := []) C (k_M_thrown l D k3 H.size qm m9 ) (sd_cwV 0 C.2.2.2.2 tb_568 tb_569 tb_570 tb_24 tb_571 rfl rfl (by decide +kernel) ⟨Nat.le_of_ble_eq_true rfl, Nat.le_of_ble_eq_true rfl⟩) (sd_preV h (q0 := 25) (T := T_M) (N := 19) rfl rfl) rfl rfl hl.1 rfl (lv_room (Nat.le_of_ble_eq_true rfl)) d_L_law_138 ⟨(show _ ≤ 1068 by omega), (show _ ≤ 9171 by omega)⟩) (fun r w1 H locs hq h => ?_)
  obtain ⟨rfl, rfl⟩ := hq
  have h := sd_world h (ws' := sd_d1 dk qa qh qs ++ sd_dA k3 qa ((sp_make o (xs (4 * t + 1))).2.2) ++ sd_H k3 qh (sS_u (sp_make o (xs (4 * t + 1))).2.2) ++ sd_H k3 qs v9 ++ [(ox, .inl (k3.2.2, 1, .inr (.inl fo9)))] ++ sd_M k3 qm m9) (by simp only [sd_D2, sd_D3, sd_D4, List.append_assoc, List.nil_append, List.append_nil])
  refine lv_iload C.1 C.2.1 d_L_law_141 (lv_at hl 1 rfl) ?_
  refine lv_icmp_eq (tgt := 148) C.1 C.2.1 d_L_law_143 (by decide) (fun c143 => ?_) (fun c143 => ?_)
  · refine lv_iload C.1 C.2.1 d_L_law_148 (lv_at hl 1 rfl) ?_
    refine lv_if_ne (tgt := 165) C.1 C.2.1 d_L_law_150 (by decide) (fun c150 => ?_) (fun c150 => ?_)
    · refine lv_goto (tgt := 956) C.1 C.2.1 d_L_law_165 (by decide) ?_
      refine W.widen (k := 35 + t + 1) (n := 925 + 6 * t + 6) (by omega) (by omega) ?_
      exact kk (sp_make o (xs (4 * t + 1))).2.2 v9 fo9 m9 _ _ _ (ok_make (xs (4 * t + 1)) ho) hm9 h (lv_sub hl [2, 3, 4, 5, 6] rfl)
    · have hS : (sp_make o (xs (4 * t + 1))).1 = "" := by
        rcases E_make o (xs (4 * t + 1)) with e9 | e9 | e9
        · exact e9
        · rw [e9] at c150; exact absurd c150 (by decide +kernel)
        · rw [e9] at c150; exact absurd c150 (by decide +kernel)
      refine lv_aload_n C.1 C.2.1 d_L_law_153 rfl (lv_at hl 5 rfl) ?_
      refine lv_iconst (v := 0) C.1 C.2.1 d_L_law_154 (by decide) ?_
      refine sd_lald C h 24 2 (i := 0) rfl rfl (by decide) (by decide) d_L_law_155 ?_
      refine lv_iload C.1 C.2.1 d_L_law_156 (lv_at hl 0 rfl) ?_
      refine lv_i2l (v := rb.toInt64) C.1 C.2.1 d_L_law_158 rfl ?_
      refine W.lcmp C.1 C.2.1 d_L_law_159 ?_
      refine lv_if_eq (tgt := 165) C.1 C.2.1 d_L_law_160 (by decide) (fun c160 => ?_) (fun c160 => ?_)
      · refine lv_goto (tgt := 956) C.1 C.2.1 d_L_law_165 (by decide) ?_
        refine W.widen (k := 35 + t + 1) (n := 925 + 6 * t + 6) (by omega) (by omega) ?_
        exact kk (sp_make o (xs (4 * t + 1))).2.2 v9 fo9 m9 _ _ _ (ok_make (xs (4 * t + 1)) ho) hm9 h (lv_sub hl [2, 3, 4, 5, 6] rfl)
      · exact absurd (sl_cmp ((hv hS).trans (congrArg Int32.toInt64 (hb9 hS).symm))) c160
  · exact absurd htc c143

set_option maxHeartbeats 4000000 in
set_option maxRecDepth 100000 in
theorem lc_drop (l : Launch) (hst : l.stackTraces = false) {p : Program} {e : Env} {s : State} {m : MethodId} {below : List Frame} {meth : Method} {c : Code} {Q : State → Prop} {cw : Cond} {b L : Nat} {xs : Nat → Int32} {A : Nat → Prop} {D : va_G} {k3 : ClassId × ClassId × ClassId} (hL : L ≤ 2048) (C : CallFix p m c code 8 s #[Value.ref b] (cw :: sd_all) "StockDeskLaw") (hX : va_X b L xs s s.heap) (hbl : b < s.heap.size) (hbA : ¬ A b) (hz : sd_tz A s s.heap) {dk ox : Nat} {qa qh qs qm : Nat → Nat} (t : Nat) (ht : 4 * t + 4 ≤ L) {o : sd_S} {v : sd_HS} {fo : Nat → Int64} {mo : sd_MS} {H : Heap} {locs : List Loc} {ls : Array Slot} (ho : sS_ok o) (hm : sm_all mo o) (h : sd_w D A s (sd_t3 k3) (sd_d1 dk qa qh qs ++ sd_dA k3 qa o ++ sd_H k3 qh (sS_u o) ++ sd_H k3 qs v ++ [(ox, .inl (k3.2.2, 1, .inr (.inl fo)))] ++ sd_M k3 qm mo) H locs) (hl : lv_has ls 8 [(0, .ref b), (1, .ref dk), (2, .ref (qm 0)), (3, .ref ox), (4, .int (nI (4 * t)))])
    (kk : ∀ (o : sd_S) (v : sd_HS) (fo : Nat → Int64) (mo : sd_MS) (H : Heap) (locs : List Loc) (ls : Array Slot), sS_ok o → sm_all mo o → sd_w D A s (sd_t3 k3) (sd_d1 dk qa qh qs ++ sd_dA k3 qa o ++ sd_H k3 qh (sS_u o) ++ sd_H k3 qs v ++ [(ox, .inl (k3.2.2, 1, .inr (.inl fo)))] ++ sd_M k3 qm mo) H locs → lv_has ls 8 [(0, .ref b), (1, .ref dk), (2, .ref (qm 0)), (3, .ref ox), (4, .int (nI (4 * t)))] → W p l e room_1 s m #[Value.ref b] below meth c H locs (35 + t + 1) (925 + 6 * t + 6) Q (F0 m 956 ls [])) : W p l e room_1 s m #[Value.ref b] below meth c H locs (35 + t) (925 + 6 * t) Q (F0 m 168 ls []) := by
  refine lv_aload_n C.1 C.2.1 d_L_law_168 rfl (lv_at hl 1 rfl) ?_
  refine lv_aload_n C.1 C.2.1 d_L_law_169 rfl (lv_at hl 0 rfl) ?_
  refine lv_iload C.1 C.2.1 d_L_law_170 (lv_at hl 4 rfl) ?_
  refine lv_iconst (v := 1) C.1 C.2.1 d_L_law_172 (by decide) ?_
  refine lv_iadd C.1 C.2.1 d_L_law_173 ?_
  refine sd_top (v := .int ((nI (4 * t)) + 1)) (v' := .int (nI (4 * t + 1))) (congrArg Value.int (nI_add (4 * t) 1)) ?_
  refine sd_sld C h hX hbl hbA (i := 4 * t + 1) (by omega) (by omega) d_L_law_174 ?_
  refine lv_aload_n C.1 C.2.1 d_L_law_175 rfl (lv_at hl 0 rfl) ?_
  refine lv_iload C.1 C.2.1 d_L_law_176 (lv_at hl 4 rfl) ?_
  refine lv_iconst (v := 2) C.1 C.2.1 d_L_law_178 (by decide) ?_
  refine lv_iadd C.1 C.2.1 d_L_law_179 ?_
  refine sd_top (v := .int ((nI (4 * t)) + 2)) (v' := .int (nI (4 * t + 2))) (congrArg Value.int (nI_add (4 * t) 2)) ?_
  refine sd_sld C h hX hbl hbA (i := 4 * t + 2) (by omega) (by omega) d_L_law_180 ?_
  refine lv_aload_n C.1 C.2.1 d_L_law_181 rfl (lv_at hl 3 rfl) ?_
  have h := sd_world h (ws' := ([]) ++ (sd_d1 dk qa qh qs ++ sd_dA k3 qa o ++ sd_H k3 qh (sS_u o) ++ sd_H k3 qs v ++ [(ox, .inl (k3.2.2, 1, .inr (.inl fo)))]) ++ (sd_M k3 qm mo)) (by simp only [sd_D2, sd_D3, sd_D4, List.append_assoc, List.nil_append, List.append_nil])
  refine sd_calli h (vx_runSW (As := [.ref dk, .int (xs (4 * t + 1)), .int (xs (4 * t + 2)), .ref ox]) (rest := []) C (k_L_drop l hst D k3 H.size dk qa qh qs o v ox fo (xs (4 * t + 1)) (xs (4 * t + 2)) ho) (sd_cwSW 4 C.2.2.2.2 tb_338 tb_339 tb_20 tb_340 rfl rfl (by decide +kernel) ⟨Nat.le_of_ble_eq_true rfl, Nat.le_of_ble_eq_true rfl⟩) (sd_preSx h hz) rfl rfl hl.1 rfl (lv_room (Nat.le_of_ble_eq_true rfl)) d_L_law_182 ⟨(show _ ≤ 1068 by omega), (show _ ≤ 9171 by omega)⟩) (fun r w1 H locs hq h => ?_)
  obtain ⟨rfl, v9, fo9, rfl, hv⟩ := hq
  have h := sd_world h (ws' := sd_d1 dk qa qh qs ++ sd_dA k3 qa ((sp_drop o (xs (4 * t + 1)) (xs (4 * t + 2))).2.2) ++ sd_H k3 qh (sS_u (sp_drop o (xs (4 * t + 1)) (xs (4 * t + 2))).2.2) ++ sd_H k3 qs v9 ++ [(ox, .inl (k3.2.2, 1, .inr (.inl fo9)))] ++ sd_M k3 qm mo) (by simp only [sd_D2, sd_D3, sd_D4, List.append_assoc, List.nil_append, List.append_nil])
  refine lv_istore (lv' := [(5, .int (sp_cd [xNS, xIA, xUO] (sp_drop o (xs (4 * t + 1)) (xs (4 * t + 2))).1)), (0, .ref b), (1, .ref dk), (2, .ref (qm 0)), (3, .ref ox), (4, .int (nI (4 * t)))]) C.1 C.2.1 d_L_law_185 hl (by decide) rfl (fun ls hl => ?_)
  refine lv_aload_n C.1 C.2.1 d_L_law_187 rfl (lv_at hl 3 rfl) ?_
  refine lv_aload_n C.1 C.2.1 d_L_law_188 rfl (lv_at hl 1 rfl) ?_
  refine lv_iload C.1 C.2.1 d_L_law_189 (lv_at hl 5 rfl) ?_
  refine lv_iconst (v := 1) C.1 C.2.1 d_L_law_191 (by decide) ?_
  refine lv_iadd C.1 C.2.1 d_L_law_192 ?_
  refine sd_top (v := .int ((nI (4 * t)) + 1)) (v' := .int (nI (4 * t + 1))) (congrArg Value.int (nI_add (4 * t) 1)) ?_
  refine sd_sld C h hX hbl hbA (i := 4 * t + 1) (by omega) (by omega) d_L_law_193 ?_
  refine lv_aload_n C.1 C.2.1 d_L_law_194 rfl (lv_at hl 1 rfl) ?_
  refine lv_iload C.1 C.2.1 d_L_law_195 (lv_at hl 5 rfl) ?_
  refine lv_iconst (v := 2) C.1 C.2.1 d_L_law_197 (by decide) ?_
  refine lv_iadd C.1 C.2.1 d_L_law_198 ?_
  refine sd_top (v := .int ((nI (4 * t)) + 2)) (v' := .int (nI (4 * t + 2))) (congrArg Value.int (nI_add (4 * t) 2)) ?_
  refine sd_sld C h hX hbl hbA (i := 4 * t + 2) (by omega) (by omega) d_L_law_199 ?_
  have h := sd_world h (ws' := (sd_d1 dk qa qh qs ++ sd_dA k3 qa ((sp_drop o (xs (4 * t + 1)) (xs (4 * t + 2))).2.2) ++ sd_H k3 qh (sS_u (sp_drop o (xs (4 * t + 1)) (xs (4 * t + 2))).2.2) ++ sd_H k3 qs v9 ++ [(ox, .inl (k3.2.2, 1, .inr (.inl fo9)))]) ++ (sd_M k3 qm mo) ++ ([])) (by simp only [sd_D2, sd_D3, sd_D4, List.append_assoc, List.nil_append, List.append_nil])
  refine sd_calli h (va_runV (As := [.int (xs (4 * t + 1)), .int (xs (4 * t + 2))]) (rest := []) C (k_M_drop l D k3 H.size qm mo o (xs (4 * t + 1)) (xs (4 * t + 2)) ho hm) (sd_cwV 2 C.2.2.2.2 tb_592 tb_593 tb_594 tb_24 tb_595 rfl rfl (by decide +kernel) ⟨Nat.le_of_ble_eq_true rfl, Nat.le_of_ble_eq_true rfl⟩) (sd_preV h (q0 := 25) (T := T_M) (N := 19) rfl rfl) rfl rfl hl.1 rfl (lv_room (Nat.le_of_ble_eq_true rfl)) d_L_law_200 ⟨(show _ ≤ 1068 by omega), (show _ ≤ 9171 by omega)⟩) (fun rb w1 H locs hq h => ?_)
  obtain ⟨m9, rfl, hm9, htc, hb9⟩ := hq
  have h := sd_world h (ws' := sd_d1 dk qa qh qs ++ sd_dA k3 qa ((sp_drop o (xs (4 * t + 1)) (xs (4 * t + 2))).2.2) ++ sd_H k3 qh (sS_u (sp_drop o (xs (4 * t + 1)) (xs (4 * t + 2))).2.2) ++ sd_H k3 qs v9 ++ [(ox, .inl (k3.2.2, 1, .inr (.inl fo9)))] ++ sd_M k3 qm m9) (by simp only [sd_D2, sd_D3, sd_D4, List.append_assoc, List.nil_append, List.append_nil])
  refine lv_istore (lv' := [(6, .int rb), (5, .int (sp_cd [xNS, xIA, xUO] (sp_drop o (xs (4 * t + 1)) (xs (4 * t + 2))).1)), (0, .ref b), (1, .ref dk), (2, .ref (qm 0)), (3, .ref ox), (4, .int (nI (4 * t)))]) C.1 C.2.1 d_L_law_203 hl (by decide) rfl (fun ls hl => ?_)
  refine lv_aload_n C.1 C.2.1 d_L_law_205 rfl (lv_at hl 4 rfl) ?_
  have h := sd_world h (ws' := (sd_d1 dk qa qh qs ++ sd_dA k3 qa ((sp_drop o (xs (4 * t + 1)) (xs (4 * t + 2))).2.2) ++ sd_H k3 qh (sS_u (sp_drop o (xs (4 * t + 1)) (xs (4 * t + 2))).2.2) ++ sd_H k3 qs v9 ++ [(ox, .inl (k3.2.2, 1, .inr (.inl fo9)))]) ++ (sd_M k3 qm m9) ++ ([])) (by simp only [sd_D2, sd_D3, sd_D4, List.append_assoc, List.nil_append, List.append_nil])
  refine sd_calli h (va_runV (As := []) (rest := []) C (k_M_thrown l D k3 H.size qm m9 ) (sd_cwV 0 C.2.2.2.2 tb_568 tb_569 tb_570 tb_24 tb_571 rfl rfl (by decide +kernel) ⟨Nat.le_of_ble_eq_true rfl, Nat.le_of_ble_eq_true rfl⟩) (sd_preV h (q0 := 25) (T := T_M) (N := 19) rfl rfl) rfl rfl hl.1 rfl (lv_room (Nat.le_of_ble_eq_true rfl)) d_L_law_206 ⟨(show _ ≤ 1068 by omega), (show _ ≤ 9171 by omega)⟩) (fun r w1 H locs hq h => ?_)
  obtain ⟨rfl, rfl⟩ := hq
  have h := sd_world h (ws' := sd_d1 dk qa qh qs ++ sd_dA k3 qa ((sp_drop o (xs (4 * t + 1)) (xs (4 * t + 2))).2.2) ++ sd_H k3 qh (sS_u (sp_drop o (xs (4 * t + 1)) (xs (4 * t + 2))).2.2) ++ sd_H k3 qs v9 ++ [(ox, .inl (k3.2.2, 1, .inr (.inl fo9)))] ++ sd_M k3 qm m9) (by simp only [sd_D2, sd_D3, sd_D4, List.append_assoc, List.nil_append, List.append_nil])
  refine lv_iload C.1 C.2.1 d_L_law_209 (lv_at hl 1 rfl) ?_
  refine lv_icmp_eq (tgt := 216) C.1 C.2.1 d_L_law_211 (by decide) (fun c211 => ?_) (fun c211 => ?_)
  · refine lv_iload C.1 C.2.1 d_L_law_216 (lv_at hl 1 rfl) ?_
    refine lv_if_ne (tgt := 233) C.1 C.2.1 d_L_law_218 (by decide) (fun c218 => ?_) (fun c218 => ?_)
    · refine lv_goto (tgt := 956) C.1 C.2.1 d_L_law_233 (by decide) ?_
      refine W.widen (k := 35 + t + 1) (n := 925 + 6 * t + 6) (by omega) (by omega) ?_
      exact kk (sp_drop o (xs (4 * t + 1)) (xs (4 * t + 2))).2.2 v9 fo9 m9 _ _ _ (ok_drop (xs (4 * t + 1)) (xs (4 * t + 2)) ho) hm9 h (lv_sub hl [2, 3, 4, 5, 6] rfl)
    · have hS : (sp_drop o (xs (4 * t + 1)) (xs (4 * t + 2))).1 = "" := by
        rcases E_drop o (xs (4 * t + 1)) (xs (4 * t + 2)) with e9 | e9 | e9 | e9
        · exact e9
        · rw [e9] at c218; exact absurd c218 (by decide +kernel)
        · rw [e9] at c218; exact absurd c218 (by decide +kernel)
        · rw [e9] at c218; exact absurd c218 (by decide +kernel)
      refine lv_aload_n C.1 C.2.1 d_L_law_221 rfl (lv_at hl 5 rfl) ?_
      refine lv_iconst (v := 0) C.1 C.2.1 d_L_law_222 (by decide) ?_
      refine sd_lald C h 24 2 (i := 0) rfl rfl (by decide) (by decide) d_L_law_223 ?_
      refine lv_iload C.1 C.2.1 d_L_law_224 (lv_at hl 0 rfl) ?_
      refine lv_i2l (v := rb.toInt64) C.1 C.2.1 d_L_law_226 rfl ?_
      refine W.lcmp C.1 C.2.1 d_L_law_227 ?_
      refine lv_if_eq (tgt := 233) C.1 C.2.1 d_L_law_228 (by decide) (fun c228 => ?_) (fun c228 => ?_)
      · refine lv_goto (tgt := 956) C.1 C.2.1 d_L_law_233 (by decide) ?_
        refine W.widen (k := 35 + t + 1) (n := 925 + 6 * t + 6) (by omega) (by omega) ?_
        exact kk (sp_drop o (xs (4 * t + 1)) (xs (4 * t + 2))).2.2 v9 fo9 m9 _ _ _ (ok_drop (xs (4 * t + 1)) (xs (4 * t + 2)) ho) hm9 h (lv_sub hl [2, 3, 4, 5, 6] rfl)
      · exact absurd (sl_cmp ((hv hS).trans (congrArg Int32.toInt64 (hb9 hS).symm))) c228
  · exact absurd htc c211

set_option maxHeartbeats 4000000 in
set_option maxRecDepth 100000 in
theorem lc_serves (l : Launch) (hst : l.stackTraces = false) {p : Program} {e : Env} {s : State} {m : MethodId} {below : List Frame} {meth : Method} {c : Code} {Q : State → Prop} {cw : Cond} {b L : Nat} {xs : Nat → Int32} {A : Nat → Prop} {D : va_G} {k3 : ClassId × ClassId × ClassId} (hL : L ≤ 2048) (C : CallFix p m c code 8 s #[Value.ref b] (cw :: sd_all) "StockDeskLaw") (hX : va_X b L xs s s.heap) (hbl : b < s.heap.size) (hbA : ¬ A b) (hz : sd_tz A s s.heap) {dk ox : Nat} {qa qh qs qm : Nat → Nat} (t : Nat) (ht : 4 * t + 4 ≤ L) {o : sd_S} {v : sd_HS} {fo : Nat → Int64} {mo : sd_MS} {H : Heap} {locs : List Loc} {ls : Array Slot} (ho : sS_ok o) (hm : sm_all mo o) (h : sd_w D A s (sd_t3 k3) (sd_d1 dk qa qh qs ++ sd_dA k3 qa o ++ sd_H k3 qh (sS_u o) ++ sd_H k3 qs v ++ [(ox, .inl (k3.2.2, 1, .inr (.inl fo)))] ++ sd_M k3 qm mo) H locs) (hl : lv_has ls 8 [(0, .ref b), (1, .ref dk), (2, .ref (qm 0)), (3, .ref ox), (4, .int (nI (4 * t)))])
    (kk : ∀ (o : sd_S) (v : sd_HS) (fo : Nat → Int64) (mo : sd_MS) (H : Heap) (locs : List Loc) (ls : Array Slot), sS_ok o → sm_all mo o → sd_w D A s (sd_t3 k3) (sd_d1 dk qa qh qs ++ sd_dA k3 qa o ++ sd_H k3 qh (sS_u o) ++ sd_H k3 qs v ++ [(ox, .inl (k3.2.2, 1, .inr (.inl fo)))] ++ sd_M k3 qm mo) H locs → lv_has ls 8 [(0, .ref b), (1, .ref dk), (2, .ref (qm 0)), (3, .ref ox), (4, .int (nI (4 * t)))] → W p l e room_1 s m #[Value.ref b] below meth c H locs (35 + t + 1) (925 + 6 * t + 6) Q (F0 m 956 ls [])) : W p l e room_1 s m #[Value.ref b] below meth c H locs (35 + t) (925 + 6 * t) Q (F0 m 236 ls []) := by
  refine lv_aload_n C.1 C.2.1 d_L_law_236 rfl (lv_at hl 1 rfl) ?_
  refine lv_aload_n C.1 C.2.1 d_L_law_237 rfl (lv_at hl 0 rfl) ?_
  refine lv_iload C.1 C.2.1 d_L_law_238 (lv_at hl 4 rfl) ?_
  refine lv_iconst (v := 1) C.1 C.2.1 d_L_law_240 (by decide) ?_
  refine lv_iadd C.1 C.2.1 d_L_law_241 ?_
  refine sd_top (v := .int ((nI (4 * t)) + 1)) (v' := .int (nI (4 * t + 1))) (congrArg Value.int (nI_add (4 * t) 1)) ?_
  refine sd_sld C h hX hbl hbA (i := 4 * t + 1) (by omega) (by omega) d_L_law_242 ?_
  refine lv_aload_n C.1 C.2.1 d_L_law_243 rfl (lv_at hl 0 rfl) ?_
  refine lv_iload C.1 C.2.1 d_L_law_244 (lv_at hl 4 rfl) ?_
  refine lv_iconst (v := 2) C.1 C.2.1 d_L_law_246 (by decide) ?_
  refine lv_iadd C.1 C.2.1 d_L_law_247 ?_
  refine sd_top (v := .int ((nI (4 * t)) + 2)) (v' := .int (nI (4 * t + 2))) (congrArg Value.int (nI_add (4 * t) 2)) ?_
  refine sd_sld C h hX hbl hbA (i := 4 * t + 2) (by omega) (by omega) d_L_law_248 ?_
  have h := sd_world h (ws' := ([]) ++ (sd_d1 dk qa qh qs ++ sd_dA k3 qa o ++ sd_H k3 qh (sS_u o) ++ sd_H k3 qs v) ++ ([(ox, .inl (k3.2.2, 1, .inr (.inl fo)))] ++ sd_M k3 qm mo)) (by simp only [sd_D2, sd_D3, sd_D4, List.append_assoc, List.nil_append, List.append_nil])
  refine sd_calli h (vx_runSW (As := [.ref dk, .int (xs (4 * t + 1)), .int (xs (4 * t + 2))]) (rest := []) C (k_L_serves l hst D k3 H.size dk qa qh qs o v (xs (4 * t + 1)) (xs (4 * t + 2)) ho) (sd_cwSW 3 C.2.2.2.2 tb_369 tb_370 tb_20 tb_371 rfl rfl (by decide +kernel) ⟨Nat.le_of_ble_eq_true rfl, Nat.le_of_ble_eq_true rfl⟩) (sd_preSx h hz) rfl rfl hl.1 rfl (lv_room (Nat.le_of_ble_eq_true rfl)) d_L_law_249 ⟨(show _ ≤ 1068 by omega), (show _ ≤ 9171 by omega)⟩) (fun r w1 H locs hq h => ?_)
  obtain ⟨rfl, v9, rfl⟩ := hq
  have h := sd_world h (ws' := sd_d1 dk qa qh qs ++ sd_dA k3 qa ((sp_serves o (xs (4 * t + 1)) (xs (4 * t + 2))).2.2) ++ sd_H k3 qh (sS_u (sp_serves o (xs (4 * t + 1)) (xs (4 * t + 2))).2.2) ++ sd_H k3 qs v9 ++ [(ox, .inl (k3.2.2, 1, .inr (.inl fo)))] ++ sd_M k3 qm mo) (by simp only [sd_D2, sd_D3, sd_D4, List.append_assoc, List.nil_append, List.append_nil])
  refine lv_istore (lv' := [(5, .int (sp_cd [xIA, xUO] (sp_serves o (xs (4 * t + 1)) (xs (4 * t + 2))).1)), (0, .ref b), (1, .ref dk), (2, .ref (qm 0)), (3, .ref ox), (4, .int (nI (4 * t)))]) C.1 C.2.1 d_L_law_252 hl (by decide) rfl (fun ls hl => ?_)
  refine lv_aload_n C.1 C.2.1 d_L_law_254 rfl (lv_at hl 3 rfl) ?_
  refine lv_aload_n C.1 C.2.1 d_L_law_255 rfl (lv_at hl 1 rfl) ?_
  refine lv_iload C.1 C.2.1 d_L_law_256 (lv_at hl 5 rfl) ?_
  refine lv_iconst (v := 1) C.1 C.2.1 d_L_law_258 (by decide) ?_
  refine lv_iadd C.1 C.2.1 d_L_law_259 ?_
  refine sd_top (v := .int ((nI (4 * t)) + 1)) (v' := .int (nI (4 * t + 1))) (congrArg Value.int (nI_add (4 * t) 1)) ?_
  refine sd_sld C h hX hbl hbA (i := 4 * t + 1) (by omega) (by omega) d_L_law_260 ?_
  refine lv_aload_n C.1 C.2.1 d_L_law_261 rfl (lv_at hl 1 rfl) ?_
  refine lv_iload C.1 C.2.1 d_L_law_262 (lv_at hl 5 rfl) ?_
  refine lv_iconst (v := 2) C.1 C.2.1 d_L_law_264 (by decide) ?_
  refine lv_iadd C.1 C.2.1 d_L_law_265 ?_
  refine sd_top (v := .int ((nI (4 * t)) + 2)) (v' := .int (nI (4 * t + 2))) (congrArg Value.int (nI_add (4 * t) 2)) ?_
  refine sd_sld C h hX hbl hbA (i := 4 * t + 2) (by omega) (by omega) d_L_law_266 ?_
  have h := sd_world h (ws' := (sd_d1 dk qa qh qs ++ sd_dA k3 qa ((sp_serves o (xs (4 * t + 1)) (xs (4 * t + 2))).2.2) ++ sd_H k3 qh (sS_u (sp_serves o (xs (4 * t + 1)) (xs (4 * t + 2))).2.2) ++ sd_H k3 qs v9 ++ [(ox, .inl (k3.2.2, 1, .inr (.inl fo)))]) ++ (sd_M k3 qm mo) ++ ([])) (by simp only [sd_D2, sd_D3, sd_D4, List.append_assoc, List.nil_append, List.append_nil])
  refine sd_callv h (va_runV (As := [.int (xs (4 * t + 1)), .int (xs (4 * t + 2))]) (rest := []) C (k_M_serves l D k3 H.size qm mo o (xs (4 * t + 1)) (xs (4 * t + 2)) ho hm) (sd_cwV 2 C.2.2.2.2 tb_600 tb_601 tb_602 tb_24 tb_603 rfl rfl (by decide +kernel) ⟨Nat.le_of_ble_eq_true rfl, Nat.le_of_ble_eq_true rfl⟩) (sd_preV h (q0 := 25) (T := T_M) (N := 19) rfl rfl) rfl rfl hl.1 rfl (lv_room (Nat.le_of_ble_eq_true rfl)) d_L_law_267 ⟨(show _ ≤ 1068 by omega), (show _ ≤ 9171 by omega)⟩) (fun w1 H locs hq h => ?_)
  obtain ⟨m9, rfl, hm9, htc, hb9⟩ := hq
  have h := sd_world h (ws' := sd_d1 dk qa qh qs ++ sd_dA k3 qa ((sp_serves o (xs (4 * t + 1)) (xs (4 * t + 2))).2.2) ++ sd_H k3 qh (sS_u (sp_serves o (xs (4 * t + 1)) (xs (4 * t + 2))).2.2) ++ sd_H k3 qs v9 ++ [(ox, .inl (k3.2.2, 1, .inr (.inl fo)))] ++ sd_M k3 qm m9) (by simp only [sd_D2, sd_D3, sd_D4, List.append_assoc, List.nil_append, List.append_nil])
  refine lv_aload_n C.1 C.2.1 d_L_law_270 rfl (lv_at hl 3 rfl) ?_
  have h := sd_world h (ws' := (sd_d1 dk qa qh qs ++ sd_dA k3 qa ((sp_serves o (xs (4 * t + 1)) (xs (4 * t + 2))).2.2) ++ sd_H k3 qh (sS_u (sp_serves o (xs (4 * t + 1)) (xs (4 * t + 2))).2.2) ++ sd_H k3 qs v9 ++ [(ox, .inl (k3.2.2, 1, .inr (.inl fo)))]) ++ (sd_M k3 qm m9) ++ ([])) (by simp only [sd_D2, sd_D3, sd_D4, List.append_assoc, List.nil_append, List.append_nil])
  refine sd_calli h (va_runV (As := []) (rest := []) C (k_M_thrown l D k3 H.size qm m9 ) (sd_cwV 0 C.2.2.2.2 tb_568 tb_569 tb_570 tb_24 tb_571 rfl rfl (by decide +kernel) ⟨Nat.le_of_ble_eq_true rfl, Nat.le_of_ble_eq_true rfl⟩) (sd_preV h (q0 := 25) (T := T_M) (N := 19) rfl rfl) rfl rfl hl.1 rfl (lv_room (Nat.le_of_ble_eq_true rfl)) d_L_law_271 ⟨(show _ ≤ 1068 by omega), (show _ ≤ 9171 by omega)⟩) (fun r w1 H locs hq h => ?_)
  obtain ⟨rfl, rfl⟩ := hq
  have h := sd_world h (ws' := sd_d1 dk qa qh qs ++ sd_dA k3 qa ((sp_serves o (xs (4 * t + 1)) (xs (4 * t + 2))).2.2) ++ sd_H k3 qh (sS_u (sp_serves o (xs (4 * t + 1)) (xs (4 * t + 2))).2.2) ++ sd_H k3 qs v9 ++ [(ox, .inl (k3.2.2, 1, .inr (.inl fo)))] ++ sd_M k3 qm m9) (by simp only [sd_D2, sd_D3, sd_D4, List.append_assoc, List.nil_append, List.append_nil])
  refine lv_iload C.1 C.2.1 d_L_law_274 (lv_at hl 0 rfl) ?_
  refine lv_icmp_eq (tgt := 281) C.1 C.2.1 d_L_law_276 (by decide) (fun c276 => ?_) (fun c276 => ?_)
  · refine lv_goto (tgt := 956) C.1 C.2.1 d_L_law_281 (by decide) ?_
    refine W.widen (k := 35 + t + 1) (n := 925 + 6 * t + 6) (by omega) (by omega) ?_
    exact kk (sp_serves o (xs (4 * t + 1)) (xs (4 * t + 2))).2.2 v9 fo m9 _ _ _ (ok_serves (xs (4 * t + 1)) (xs (4 * t + 2)) ho) hm9 h (lv_sub hl [1, 2, 3, 4, 5] rfl)
  · exact absurd htc c276

set_option maxHeartbeats 4000000 in
set_option maxRecDepth 100000 in
theorem lc_answers (l : Launch) (hst : l.stackTraces = false) {p : Program} {e : Env} {s : State} {m : MethodId} {below : List Frame} {meth : Method} {c : Code} {Q : State → Prop} {cw : Cond} {b L : Nat} {xs : Nat → Int32} {A : Nat → Prop} {D : va_G} {k3 : ClassId × ClassId × ClassId} (hL : L ≤ 2048) (C : CallFix p m c code 8 s #[Value.ref b] (cw :: sd_all) "StockDeskLaw") (hX : va_X b L xs s s.heap) (hbl : b < s.heap.size) (hbA : ¬ A b) (hz : sd_tz A s s.heap) {dk ox : Nat} {qa qh qs qm : Nat → Nat} (t : Nat) (ht : 4 * t + 4 ≤ L) {o : sd_S} {v : sd_HS} {fo : Nat → Int64} {mo : sd_MS} {H : Heap} {locs : List Loc} {ls : Array Slot} (ho : sS_ok o) (hm : sm_all mo o) (h : sd_w D A s (sd_t3 k3) (sd_d1 dk qa qh qs ++ sd_dA k3 qa o ++ sd_H k3 qh (sS_u o) ++ sd_H k3 qs v ++ [(ox, .inl (k3.2.2, 1, .inr (.inl fo)))] ++ sd_M k3 qm mo) H locs) (hl : lv_has ls 8 [(0, .ref b), (1, .ref dk), (2, .ref (qm 0)), (3, .ref ox), (4, .int (nI (4 * t)))])
    (kk : ∀ (o : sd_S) (v : sd_HS) (fo : Nat → Int64) (mo : sd_MS) (H : Heap) (locs : List Loc) (ls : Array Slot), sS_ok o → sm_all mo o → sd_w D A s (sd_t3 k3) (sd_d1 dk qa qh qs ++ sd_dA k3 qa o ++ sd_H k3 qh (sS_u o) ++ sd_H k3 qs v ++ [(ox, .inl (k3.2.2, 1, .inr (.inl fo)))] ++ sd_M k3 qm mo) H locs → lv_has ls 8 [(0, .ref b), (1, .ref dk), (2, .ref (qm 0)), (3, .ref ox), (4, .int (nI (4 * t)))] → W p l e room_1 s m #[Value.ref b] below meth c H locs (35 + t + 1) (925 + 6 * t + 6) Q (F0 m 956 ls [])) : W p l e room_1 s m #[Value.ref b] below meth c H locs (35 + t) (925 + 6 * t) Q (F0 m 284 ls []) := by
  refine lv_aload_n C.1 C.2.1 d_L_law_284 rfl (lv_at hl 1 rfl) ?_
  refine lv_aload_n C.1 C.2.1 d_L_law_285 rfl (lv_at hl 0 rfl) ?_
  refine lv_iload C.1 C.2.1 d_L_law_286 (lv_at hl 4 rfl) ?_
  refine lv_iconst (v := 1) C.1 C.2.1 d_L_law_288 (by decide) ?_
  refine lv_iadd C.1 C.2.1 d_L_law_289 ?_
  refine sd_top (v := .int ((nI (4 * t)) + 1)) (v' := .int (nI (4 * t + 1))) (congrArg Value.int (nI_add (4 * t) 1)) ?_
  refine sd_sld C h hX hbl hbA (i := 4 * t + 1) (by omega) (by omega) d_L_law_290 ?_
  refine lv_aload_n C.1 C.2.1 d_L_law_291 rfl (lv_at hl 0 rfl) ?_
  refine lv_iload C.1 C.2.1 d_L_law_292 (lv_at hl 4 rfl) ?_
  refine lv_iconst (v := 2) C.1 C.2.1 d_L_law_294 (by decide) ?_
  refine lv_iadd C.1 C.2.1 d_L_law_295 ?_
  refine sd_top (v := .int ((nI (4 * t)) + 2)) (v' := .int (nI (4 * t + 2))) (congrArg Value.int (nI_add (4 * t) 2)) ?_
  refine sd_sld C h hX hbl hbA (i := 4 * t + 2) (by omega) (by omega) d_L_law_296 ?_
  refine lv_aload_n C.1 C.2.1 d_L_law_297 rfl (lv_at hl 0 rfl) ?_
  refine lv_iload C.1 C.2.1 d_L_law_298 (lv_at hl 4 rfl) ?_
  refine lv_iconst (v := 3) C.1 C.2.1 d_L_law_300 (by decide) ?_
  refine lv_iadd C.1 C.2.1 d_L_law_301 ?_
  refine sd_top (v := .int ((nI (4 * t)) + 3)) (v' := .int (nI (4 * t + 3))) (congrArg Value.int (nI_add (4 * t) 3)) ?_
  refine sd_sld C h hX hbl hbA (i := 4 * t + 3) (by omega) (by omega) d_L_law_302 ?_
  have h := sd_world h (ws' := ([]) ++ (sd_d1 dk qa qh qs ++ sd_dA k3 qa o ++ sd_H k3 qh (sS_u o) ++ sd_H k3 qs v) ++ ([(ox, .inl (k3.2.2, 1, .inr (.inl fo)))] ++ sd_M k3 qm mo)) (by simp only [sd_D2, sd_D3, sd_D4, List.append_assoc, List.nil_append, List.append_nil])
  refine sd_calli h (vx_runSW (As := [.ref dk, .int (xs (4 * t + 1)), .int (xs (4 * t + 2)), .int (xs (4 * t + 3))]) (rest := []) C (k_L_answers l hst D k3 H.size dk qa qh qs o v (xs (4 * t + 1)) (xs (4 * t + 2)) (xs (4 * t + 3)) ho) (sd_cwSW 4 C.2.2.2.2 tb_379 tb_380 tb_20 tb_381 rfl rfl (by decide +kernel) ⟨Nat.le_of_ble_eq_true rfl, Nat.le_of_ble_eq_true rfl⟩) (sd_preSx h hz) rfl rfl hl.1 rfl (lv_room (Nat.le_of_ble_eq_true rfl)) d_L_law_303 ⟨(show _ ≤ 1068 by omega), (show _ ≤ 9171 by omega)⟩) (fun r w1 H locs hq h => ?_)
  obtain ⟨rfl, v9, rfl⟩ := hq
  have h := sd_world h (ws' := sd_d1 dk qa qh qs ++ sd_dA k3 qa ((sp_answers o (xs (4 * t + 1)) (xs (4 * t + 2)) (xs (4 * t + 3))).2.2) ++ sd_H k3 qh (sS_u (sp_answers o (xs (4 * t + 1)) (xs (4 * t + 2)) (xs (4 * t + 3))).2.2) ++ sd_H k3 qs v9 ++ [(ox, .inl (k3.2.2, 1, .inr (.inl fo)))] ++ sd_M k3 qm mo) (by simp only [sd_D2, sd_D3, sd_D4, List.append_assoc, List.nil_append, List.append_nil])
  refine lv_istore (lv' := [(5, .int (sp_cd [xIA, xUO] (sp_answers o (xs (4 * t + 1)) (xs (4 * t + 2)) (xs (4 * t + 3))).1)), (0, .ref b), (1, .ref dk), (2, .ref (qm 0)), (3, .ref ox), (4, .int (nI (4 * t)))]) C.1 C.2.1 d_L_law_306 hl (by decide) rfl (fun ls hl => ?_)
  refine lv_aload_n C.1 C.2.1 d_L_law_308 rfl (lv_at hl 3 rfl) ?_
  refine lv_aload_n C.1 C.2.1 d_L_law_309 rfl (lv_at hl 1 rfl) ?_
  refine lv_iload C.1 C.2.1 d_L_law_310 (lv_at hl 5 rfl) ?_
  refine lv_iconst (v := 1) C.1 C.2.1 d_L_law_312 (by decide) ?_
  refine lv_iadd C.1 C.2.1 d_L_law_313 ?_
  refine sd_top (v := .int ((nI (4 * t)) + 1)) (v' := .int (nI (4 * t + 1))) (congrArg Value.int (nI_add (4 * t) 1)) ?_
  refine sd_sld C h hX hbl hbA (i := 4 * t + 1) (by omega) (by omega) d_L_law_314 ?_
  refine lv_aload_n C.1 C.2.1 d_L_law_315 rfl (lv_at hl 1 rfl) ?_
  refine lv_iload C.1 C.2.1 d_L_law_316 (lv_at hl 5 rfl) ?_
  refine lv_iconst (v := 2) C.1 C.2.1 d_L_law_318 (by decide) ?_
  refine lv_iadd C.1 C.2.1 d_L_law_319 ?_
  refine sd_top (v := .int ((nI (4 * t)) + 2)) (v' := .int (nI (4 * t + 2))) (congrArg Value.int (nI_add (4 * t) 2)) ?_
  refine sd_sld C h hX hbl hbA (i := 4 * t + 2) (by omega) (by omega) d_L_law_320 ?_
  refine lv_aload_n C.1 C.2.1 d_L_law_321 rfl (lv_at hl 1 rfl) ?_
  refine lv_iload C.1 C.2.1 d_L_law_322 (lv_at hl 5 rfl) ?_
  refine lv_iconst (v := 3) C.1 C.2.1 d_L_law_324 (by decide) ?_
  refine lv_iadd C.1 C.2.1 d_L_law_325 ?_
  refine sd_top (v := .int ((nI (4 * t)) + 3)) (v' := .int (nI (4 * t + 3))) (congrArg Value.int (nI_add (4 * t) 3)) ?_
  refine sd_sld C h hX hbl hbA (i := 4 * t + 3) (by omega) (by omega) d_L_law_326 ?_
  have h := sd_world h (ws' := (sd_d1 dk qa qh qs ++ sd_dA k3 qa ((sp_answers o (xs (4 * t + 1)) (xs (4 * t + 2)) (xs (4 * t + 3))).2.2) ++ sd_H k3 qh (sS_u (sp_answers o (xs (4 * t + 1)) (xs (4 * t + 2)) (xs (4 * t + 3))).2.2) ++ sd_H k3 qs v9 ++ [(ox, .inl (k3.2.2, 1, .inr (.inl fo)))]) ++ (sd_M k3 qm mo) ++ ([])) (by simp only [sd_D2, sd_D3, sd_D4, List.append_assoc, List.nil_append, List.append_nil])
  refine sd_callv h (va_runV (As := [.int (xs (4 * t + 1)), .int (xs (4 * t + 2)), .int (xs (4 * t + 3))]) (rest := []) C (k_M_answers l D k3 H.size qm mo o (xs (4 * t + 1)) (xs (4 * t + 2)) (xs (4 * t + 3)) ho hm) (sd_cwV 3 C.2.2.2.2 tb_604 tb_605 tb_606 tb_24 tb_607 rfl rfl (by decide +kernel) ⟨Nat.le_of_ble_eq_true rfl, Nat.le_of_ble_eq_true rfl⟩) (sd_preV h (q0 := 25) (T := T_M) (N := 19) rfl rfl) rfl rfl hl.1 rfl (lv_room (Nat.le_of_ble_eq_true rfl)) d_L_law_327 ⟨(show _ ≤ 1068 by omega), (show _ ≤ 9171 by omega)⟩) (fun w1 H locs hq h => ?_)
  obtain ⟨m9, rfl, hm9, htc, hb9⟩ := hq
  have h := sd_world h (ws' := sd_d1 dk qa qh qs ++ sd_dA k3 qa ((sp_answers o (xs (4 * t + 1)) (xs (4 * t + 2)) (xs (4 * t + 3))).2.2) ++ sd_H k3 qh (sS_u (sp_answers o (xs (4 * t + 1)) (xs (4 * t + 2)) (xs (4 * t + 3))).2.2) ++ sd_H k3 qs v9 ++ [(ox, .inl (k3.2.2, 1, .inr (.inl fo)))] ++ sd_M k3 qm m9) (by simp only [sd_D2, sd_D3, sd_D4, List.append_assoc, List.nil_append, List.append_nil])
  refine lv_aload_n C.1 C.2.1 d_L_law_330 rfl (lv_at hl 3 rfl) ?_
  have h := sd_world h (ws' := (sd_d1 dk qa qh qs ++ sd_dA k3 qa ((sp_answers o (xs (4 * t + 1)) (xs (4 * t + 2)) (xs (4 * t + 3))).2.2) ++ sd_H k3 qh (sS_u (sp_answers o (xs (4 * t + 1)) (xs (4 * t + 2)) (xs (4 * t + 3))).2.2) ++ sd_H k3 qs v9 ++ [(ox, .inl (k3.2.2, 1, .inr (.inl fo)))]) ++ (sd_M k3 qm m9) ++ ([])) (by simp only [sd_D2, sd_D3, sd_D4, List.append_assoc, List.nil_append, List.append_nil])
  refine sd_calli h (va_runV (As := []) (rest := []) C (k_M_thrown l D k3 H.size qm m9 ) (sd_cwV 0 C.2.2.2.2 tb_568 tb_569 tb_570 tb_24 tb_571 rfl rfl (by decide +kernel) ⟨Nat.le_of_ble_eq_true rfl, Nat.le_of_ble_eq_true rfl⟩) (sd_preV h (q0 := 25) (T := T_M) (N := 19) rfl rfl) rfl rfl hl.1 rfl (lv_room (Nat.le_of_ble_eq_true rfl)) d_L_law_331 ⟨(show _ ≤ 1068 by omega), (show _ ≤ 9171 by omega)⟩) (fun r w1 H locs hq h => ?_)
  obtain ⟨rfl, rfl⟩ := hq
  have h := sd_world h (ws' := sd_d1 dk qa qh qs ++ sd_dA k3 qa ((sp_answers o (xs (4 * t + 1)) (xs (4 * t + 2)) (xs (4 * t + 3))).2.2) ++ sd_H k3 qh (sS_u (sp_answers o (xs (4 * t + 1)) (xs (4 * t + 2)) (xs (4 * t + 3))).2.2) ++ sd_H k3 qs v9 ++ [(ox, .inl (k3.2.2, 1, .inr (.inl fo)))] ++ sd_M k3 qm m9) (by simp only [sd_D2, sd_D3, sd_D4, List.append_assoc, List.nil_append, List.append_nil])
  refine lv_iload C.1 C.2.1 d_L_law_334 (lv_at hl 0 rfl) ?_
  refine lv_icmp_eq (tgt := 341) C.1 C.2.1 d_L_law_336 (by decide) (fun c336 => ?_) (fun c336 => ?_)
  · refine lv_goto (tgt := 956) C.1 C.2.1 d_L_law_341 (by decide) ?_
    refine W.widen (k := 35 + t + 1) (n := 925 + 6 * t + 6) (by omega) (by omega) ?_
    exact kk (sp_answers o (xs (4 * t + 1)) (xs (4 * t + 2)) (xs (4 * t + 3))).2.2 v9 fo m9 _ _ _ (ok_answers (xs (4 * t + 1)) (xs (4 * t + 2)) (xs (4 * t + 3)) ho) hm9 h (lv_sub hl [1, 2, 3, 4, 5] rfl)
  · exact absurd htc c336

set_option maxHeartbeats 4000000 in
set_option maxRecDepth 100000 in
theorem lc_fails (l : Launch) (hst : l.stackTraces = false) {p : Program} {e : Env} {s : State} {m : MethodId} {below : List Frame} {meth : Method} {c : Code} {Q : State → Prop} {cw : Cond} {b L : Nat} {xs : Nat → Int32} {A : Nat → Prop} {D : va_G} {k3 : ClassId × ClassId × ClassId} (hL : L ≤ 2048) (C : CallFix p m c code 8 s #[Value.ref b] (cw :: sd_all) "StockDeskLaw") (hX : va_X b L xs s s.heap) (hbl : b < s.heap.size) (hbA : ¬ A b) (hz : sd_tz A s s.heap) {dk ox : Nat} {qa qh qs qm : Nat → Nat} (t : Nat) (ht : 4 * t + 4 ≤ L) {o : sd_S} {v : sd_HS} {fo : Nat → Int64} {mo : sd_MS} {H : Heap} {locs : List Loc} {ls : Array Slot} (ho : sS_ok o) (hm : sm_all mo o) (h : sd_w D A s (sd_t3 k3) (sd_d1 dk qa qh qs ++ sd_dA k3 qa o ++ sd_H k3 qh (sS_u o) ++ sd_H k3 qs v ++ [(ox, .inl (k3.2.2, 1, .inr (.inl fo)))] ++ sd_M k3 qm mo) H locs) (hl : lv_has ls 8 [(0, .ref b), (1, .ref dk), (2, .ref (qm 0)), (3, .ref ox), (4, .int (nI (4 * t)))])
    (kk : ∀ (o : sd_S) (v : sd_HS) (fo : Nat → Int64) (mo : sd_MS) (H : Heap) (locs : List Loc) (ls : Array Slot), sS_ok o → sm_all mo o → sd_w D A s (sd_t3 k3) (sd_d1 dk qa qh qs ++ sd_dA k3 qa o ++ sd_H k3 qh (sS_u o) ++ sd_H k3 qs v ++ [(ox, .inl (k3.2.2, 1, .inr (.inl fo)))] ++ sd_M k3 qm mo) H locs → lv_has ls 8 [(0, .ref b), (1, .ref dk), (2, .ref (qm 0)), (3, .ref ox), (4, .int (nI (4 * t)))] → W p l e room_1 s m #[Value.ref b] below meth c H locs (35 + t + 1) (925 + 6 * t + 6) Q (F0 m 956 ls [])) : W p l e room_1 s m #[Value.ref b] below meth c H locs (35 + t) (925 + 6 * t) Q (F0 m 344 ls []) := by
  refine lv_aload_n C.1 C.2.1 d_L_law_344 rfl (lv_at hl 1 rfl) ?_
  refine lv_aload_n C.1 C.2.1 d_L_law_345 rfl (lv_at hl 0 rfl) ?_
  refine lv_iload C.1 C.2.1 d_L_law_346 (lv_at hl 4 rfl) ?_
  refine lv_iconst (v := 1) C.1 C.2.1 d_L_law_348 (by decide) ?_
  refine lv_iadd C.1 C.2.1 d_L_law_349 ?_
  refine sd_top (v := .int ((nI (4 * t)) + 1)) (v' := .int (nI (4 * t + 1))) (congrArg Value.int (nI_add (4 * t) 1)) ?_
  refine sd_sld C h hX hbl hbA (i := 4 * t + 1) (by omega) (by omega) d_L_law_350 ?_
  refine lv_aload_n C.1 C.2.1 d_L_law_351 rfl (lv_at hl 0 rfl) ?_
  refine lv_iload C.1 C.2.1 d_L_law_352 (lv_at hl 4 rfl) ?_
  refine lv_iconst (v := 2) C.1 C.2.1 d_L_law_354 (by decide) ?_
  refine lv_iadd C.1 C.2.1 d_L_law_355 ?_
  refine sd_top (v := .int ((nI (4 * t)) + 2)) (v' := .int (nI (4 * t + 2))) (congrArg Value.int (nI_add (4 * t) 2)) ?_
  refine sd_sld C h hX hbl hbA (i := 4 * t + 2) (by omega) (by omega) d_L_law_356 ?_
  refine lv_aload_n C.1 C.2.1 d_L_law_357 rfl (lv_at hl 3 rfl) ?_
  have h := sd_world h (ws' := ([]) ++ (sd_d1 dk qa qh qs ++ sd_dA k3 qa o ++ sd_H k3 qh (sS_u o) ++ sd_H k3 qs v ++ [(ox, .inl (k3.2.2, 1, .inr (.inl fo)))]) ++ (sd_M k3 qm mo)) (by simp only [sd_D2, sd_D3, sd_D4, List.append_assoc, List.nil_append, List.append_nil])
  refine sd_calli h (vx_runSW (As := [.ref dk, .int (xs (4 * t + 1)), .int (xs (4 * t + 2)), .ref ox]) (rest := []) C (k_L_fails l hst D k3 H.size dk qa qh qs o v ox fo (xs (4 * t + 1)) (xs (4 * t + 2)) ho) (sd_cwSW 4 C.2.2.2.2 tb_392 tb_393 tb_20 tb_394 rfl rfl (by decide +kernel) ⟨Nat.le_of_ble_eq_true rfl, Nat.le_of_ble_eq_true rfl⟩) (sd_preSx h hz) rfl rfl hl.1 rfl (lv_room (Nat.le_of_ble_eq_true rfl)) d_L_law_358 ⟨(show _ ≤ 1068 by omega), (show _ ≤ 9171 by omega)⟩) (fun r w1 H locs hq h => ?_)
  obtain ⟨rfl, v9, fo9, rfl, hv⟩ := hq
  have h := sd_world h (ws' := sd_d1 dk qa qh qs ++ sd_dA k3 qa ((sp_fails o (xs (4 * t + 1)) (xs (4 * t + 2))).2.2) ++ sd_H k3 qh (sS_u (sp_fails o (xs (4 * t + 1)) (xs (4 * t + 2))).2.2) ++ sd_H k3 qs v9 ++ [(ox, .inl (k3.2.2, 1, .inr (.inl fo9)))] ++ sd_M k3 qm mo) (by simp only [sd_D2, sd_D3, sd_D4, List.append_assoc, List.nil_append, List.append_nil])
  refine lv_istore (lv' := [(5, .int (sp_cd [xIA, xUO] (sp_fails o (xs (4 * t + 1)) (xs (4 * t + 2))).1)), (0, .ref b), (1, .ref dk), (2, .ref (qm 0)), (3, .ref ox), (4, .int (nI (4 * t)))]) C.1 C.2.1 d_L_law_361 hl (by decide) rfl (fun ls hl => ?_)
  refine lv_aload_n C.1 C.2.1 d_L_law_363 rfl (lv_at hl 3 rfl) ?_
  refine lv_aload_n C.1 C.2.1 d_L_law_364 rfl (lv_at hl 1 rfl) ?_
  refine lv_iload C.1 C.2.1 d_L_law_365 (lv_at hl 5 rfl) ?_
  refine lv_iconst (v := 1) C.1 C.2.1 d_L_law_367 (by decide) ?_
  refine lv_iadd C.1 C.2.1 d_L_law_368 ?_
  refine sd_top (v := .int ((nI (4 * t)) + 1)) (v' := .int (nI (4 * t + 1))) (congrArg Value.int (nI_add (4 * t) 1)) ?_
  refine sd_sld C h hX hbl hbA (i := 4 * t + 1) (by omega) (by omega) d_L_law_369 ?_
  refine lv_aload_n C.1 C.2.1 d_L_law_370 rfl (lv_at hl 1 rfl) ?_
  refine lv_iload C.1 C.2.1 d_L_law_371 (lv_at hl 5 rfl) ?_
  refine lv_iconst (v := 2) C.1 C.2.1 d_L_law_373 (by decide) ?_
  refine lv_iadd C.1 C.2.1 d_L_law_374 ?_
  refine sd_top (v := .int ((nI (4 * t)) + 2)) (v' := .int (nI (4 * t + 2))) (congrArg Value.int (nI_add (4 * t) 2)) ?_
  refine sd_sld C h hX hbl hbA (i := 4 * t + 2) (by omega) (by omega) d_L_law_375 ?_
  have h := sd_world h (ws' := (sd_d1 dk qa qh qs ++ sd_dA k3 qa ((sp_fails o (xs (4 * t + 1)) (xs (4 * t + 2))).2.2) ++ sd_H k3 qh (sS_u (sp_fails o (xs (4 * t + 1)) (xs (4 * t + 2))).2.2) ++ sd_H k3 qs v9 ++ [(ox, .inl (k3.2.2, 1, .inr (.inl fo9)))]) ++ (sd_M k3 qm mo) ++ ([])) (by simp only [sd_D2, sd_D3, sd_D4, List.append_assoc, List.nil_append, List.append_nil])
  refine sd_calli h (va_runV (As := [.int (xs (4 * t + 1)), .int (xs (4 * t + 2))]) (rest := []) C (k_M_fails l D k3 H.size qm mo o (xs (4 * t + 1)) (xs (4 * t + 2)) ho hm) (sd_cwV 2 C.2.2.2.2 tb_610 tb_611 tb_612 tb_24 tb_613 rfl rfl (by decide +kernel) ⟨Nat.le_of_ble_eq_true rfl, Nat.le_of_ble_eq_true rfl⟩) (sd_preV h (q0 := 25) (T := T_M) (N := 19) rfl rfl) rfl rfl hl.1 rfl (lv_room (Nat.le_of_ble_eq_true rfl)) d_L_law_376 ⟨(show _ ≤ 1068 by omega), (show _ ≤ 9171 by omega)⟩) (fun rb w1 H locs hq h => ?_)
  obtain ⟨m9, rfl, hm9, htc, hb9⟩ := hq
  have h := sd_world h (ws' := sd_d1 dk qa qh qs ++ sd_dA k3 qa ((sp_fails o (xs (4 * t + 1)) (xs (4 * t + 2))).2.2) ++ sd_H k3 qh (sS_u (sp_fails o (xs (4 * t + 1)) (xs (4 * t + 2))).2.2) ++ sd_H k3 qs v9 ++ [(ox, .inl (k3.2.2, 1, .inr (.inl fo9)))] ++ sd_M k3 qm m9) (by simp only [sd_D2, sd_D3, sd_D4, List.append_assoc, List.nil_append, List.append_nil])
  refine lv_istore (lv' := [(6, .int rb), (5, .int (sp_cd [xIA, xUO] (sp_fails o (xs (4 * t + 1)) (xs (4 * t + 2))).1)), (0, .ref b), (1, .ref dk), (2, .ref (qm 0)), (3, .ref ox), (4, .int (nI (4 * t)))]) C.1 C.2.1 d_L_law_379 hl (by decide) rfl (fun ls hl => ?_)
  refine lv_aload_n C.1 C.2.1 d_L_law_381 rfl (lv_at hl 4 rfl) ?_
  have h := sd_world h (ws' := (sd_d1 dk qa qh qs ++ sd_dA k3 qa ((sp_fails o (xs (4 * t + 1)) (xs (4 * t + 2))).2.2) ++ sd_H k3 qh (sS_u (sp_fails o (xs (4 * t + 1)) (xs (4 * t + 2))).2.2) ++ sd_H k3 qs v9 ++ [(ox, .inl (k3.2.2, 1, .inr (.inl fo9)))]) ++ (sd_M k3 qm m9) ++ ([])) (by simp only [sd_D2, sd_D3, sd_D4, List.append_assoc, List.nil_append, List.append_nil])
  refine sd_calli h (va_runV (As := []) (rest := []) C (k_M_thrown l D k3 H.size qm m9 ) (sd_cwV 0 C.2.2.2.2 tb_568 tb_569 tb_570 tb_24 tb_571 rfl rfl (by decide +kernel) ⟨Nat.le_of_ble_eq_true rfl, Nat.le_of_ble_eq_true rfl⟩) (sd_preV h (q0 := 25) (T := T_M) (N := 19) rfl rfl) rfl rfl hl.1 rfl (lv_room (Nat.le_of_ble_eq_true rfl)) d_L_law_382 ⟨(show _ ≤ 1068 by omega), (show _ ≤ 9171 by omega)⟩) (fun r w1 H locs hq h => ?_)
  obtain ⟨rfl, rfl⟩ := hq
  have h := sd_world h (ws' := sd_d1 dk qa qh qs ++ sd_dA k3 qa ((sp_fails o (xs (4 * t + 1)) (xs (4 * t + 2))).2.2) ++ sd_H k3 qh (sS_u (sp_fails o (xs (4 * t + 1)) (xs (4 * t + 2))).2.2) ++ sd_H k3 qs v9 ++ [(ox, .inl (k3.2.2, 1, .inr (.inl fo9)))] ++ sd_M k3 qm m9) (by simp only [sd_D2, sd_D3, sd_D4, List.append_assoc, List.nil_append, List.append_nil])
  refine lv_iload C.1 C.2.1 d_L_law_385 (lv_at hl 1 rfl) ?_
  refine lv_icmp_eq (tgt := 392) C.1 C.2.1 d_L_law_387 (by decide) (fun c387 => ?_) (fun c387 => ?_)
  · refine lv_iload C.1 C.2.1 d_L_law_392 (lv_at hl 1 rfl) ?_
    refine lv_if_ne (tgt := 409) C.1 C.2.1 d_L_law_394 (by decide) (fun c394 => ?_) (fun c394 => ?_)
    · refine lv_goto (tgt := 956) C.1 C.2.1 d_L_law_409 (by decide) ?_
      refine W.widen (k := 35 + t + 1) (n := 925 + 6 * t + 6) (by omega) (by omega) ?_
      exact kk (sp_fails o (xs (4 * t + 1)) (xs (4 * t + 2))).2.2 v9 fo9 m9 _ _ _ (ok_fails (xs (4 * t + 1)) (xs (4 * t + 2)) ho) hm9 h (lv_sub hl [2, 3, 4, 5, 6] rfl)
    · have hS : (sp_fails o (xs (4 * t + 1)) (xs (4 * t + 2))).1 = "" := by
        rcases E_fails o (xs (4 * t + 1)) (xs (4 * t + 2)) with e9 | e9 | e9
        · exact e9
        · rw [e9] at c394; exact absurd c394 (by decide +kernel)
        · rw [e9] at c394; exact absurd c394 (by decide +kernel)
      refine lv_aload_n C.1 C.2.1 d_L_law_397 rfl (lv_at hl 5 rfl) ?_
      refine lv_iconst (v := 0) C.1 C.2.1 d_L_law_398 (by decide) ?_
      refine sd_lald C h 24 2 (i := 0) rfl rfl (by decide) (by decide) d_L_law_399 ?_
      refine lv_iload C.1 C.2.1 d_L_law_400 (lv_at hl 0 rfl) ?_
      refine lv_i2l (v := rb.toInt64) C.1 C.2.1 d_L_law_402 rfl ?_
      refine W.lcmp C.1 C.2.1 d_L_law_403 ?_
      refine lv_if_eq (tgt := 409) C.1 C.2.1 d_L_law_404 (by decide) (fun c404 => ?_) (fun c404 => ?_)
      · refine lv_goto (tgt := 956) C.1 C.2.1 d_L_law_409 (by decide) ?_
        refine W.widen (k := 35 + t + 1) (n := 925 + 6 * t + 6) (by omega) (by omega) ?_
        exact kk (sp_fails o (xs (4 * t + 1)) (xs (4 * t + 2))).2.2 v9 fo9 m9 _ _ _ (ok_fails (xs (4 * t + 1)) (xs (4 * t + 2)) ho) hm9 h (lv_sub hl [2, 3, 4, 5, 6] rfl)
      · exact absurd (sl_cmp ((hv hS).trans (congrArg Int32.toInt64 (hb9 hS).symm))) c404
  · exact absurd htc c387

set_option maxHeartbeats 4000000 in
set_option maxRecDepth 100000 in
theorem lc_call (l : Launch) (hst : l.stackTraces = false) {p : Program} {e : Env} {s : State} {m : MethodId} {below : List Frame} {meth : Method} {c : Code} {Q : State → Prop} {cw : Cond} {b L : Nat} {xs : Nat → Int32} {A : Nat → Prop} {D : va_G} {k3 : ClassId × ClassId × ClassId} (hL : L ≤ 2048) (C : CallFix p m c code 8 s #[Value.ref b] (cw :: sd_all) "StockDeskLaw") (hX : va_X b L xs s s.heap) (hbl : b < s.heap.size) (hbA : ¬ A b) (hz : sd_tz A s s.heap) {dk ox : Nat} {qa qh qs qm : Nat → Nat} (t : Nat) (ht : 4 * t + 4 ≤ L) {o : sd_S} {v : sd_HS} {fo : Nat → Int64} {mo : sd_MS} {H : Heap} {locs : List Loc} {ls : Array Slot} (ho : sS_ok o) (hm : sm_all mo o) (h : sd_w D A s (sd_t3 k3) (sd_d1 dk qa qh qs ++ sd_dA k3 qa o ++ sd_H k3 qh (sS_u o) ++ sd_H k3 qs v ++ [(ox, .inl (k3.2.2, 1, .inr (.inl fo)))] ++ sd_M k3 qm mo) H locs) (hl : lv_has ls 8 [(0, .ref b), (1, .ref dk), (2, .ref (qm 0)), (3, .ref ox), (4, .int (nI (4 * t)))])
    (kk : ∀ (o : sd_S) (v : sd_HS) (fo : Nat → Int64) (mo : sd_MS) (H : Heap) (locs : List Loc) (ls : Array Slot), sS_ok o → sm_all mo o → sd_w D A s (sd_t3 k3) (sd_d1 dk qa qh qs ++ sd_dA k3 qa o ++ sd_H k3 qh (sS_u o) ++ sd_H k3 qs v ++ [(ox, .inl (k3.2.2, 1, .inr (.inl fo)))] ++ sd_M k3 qm mo) H locs → lv_has ls 8 [(0, .ref b), (1, .ref dk), (2, .ref (qm 0)), (3, .ref ox), (4, .int (nI (4 * t)))] → W p l e room_1 s m #[Value.ref b] below meth c H locs (35 + t + 1) (925 + 6 * t + 6) Q (F0 m 956 ls [])) : W p l e room_1 s m #[Value.ref b] below meth c H locs (35 + t) (925 + 6 * t) Q (F0 m 412 ls []) := by
  refine lv_aload_n C.1 C.2.1 d_L_law_412 rfl (lv_at hl 1 rfl) ?_
  refine lv_aload_n C.1 C.2.1 d_L_law_413 rfl (lv_at hl 0 rfl) ?_
  refine lv_iload C.1 C.2.1 d_L_law_414 (lv_at hl 4 rfl) ?_
  refine lv_iconst (v := 1) C.1 C.2.1 d_L_law_416 (by decide) ?_
  refine lv_iadd C.1 C.2.1 d_L_law_417 ?_
  refine sd_top (v := .int ((nI (4 * t)) + 1)) (v' := .int (nI (4 * t + 1))) (congrArg Value.int (nI_add (4 * t) 1)) ?_
  refine sd_sld C h hX hbl hbA (i := 4 * t + 1) (by omega) (by omega) d_L_law_418 ?_
  refine lv_aload_n C.1 C.2.1 d_L_law_419 rfl (lv_at hl 0 rfl) ?_
  refine lv_iload C.1 C.2.1 d_L_law_420 (lv_at hl 4 rfl) ?_
  refine lv_iconst (v := 2) C.1 C.2.1 d_L_law_422 (by decide) ?_
  refine lv_iadd C.1 C.2.1 d_L_law_423 ?_
  refine sd_top (v := .int ((nI (4 * t)) + 2)) (v' := .int (nI (4 * t + 2))) (congrArg Value.int (nI_add (4 * t) 2)) ?_
  refine sd_sld C h hX hbl hbA (i := 4 * t + 2) (by omega) (by omega) d_L_law_424 ?_
  refine lv_aload_n C.1 C.2.1 d_L_law_425 rfl (lv_at hl 0 rfl) ?_
  refine lv_iload C.1 C.2.1 d_L_law_426 (lv_at hl 4 rfl) ?_
  refine lv_iconst (v := 3) C.1 C.2.1 d_L_law_428 (by decide) ?_
  refine lv_iadd C.1 C.2.1 d_L_law_429 ?_
  refine sd_top (v := .int ((nI (4 * t)) + 3)) (v' := .int (nI (4 * t + 3))) (congrArg Value.int (nI_add (4 * t) 3)) ?_
  refine sd_sld C h hX hbl hbA (i := 4 * t + 3) (by omega) (by omega) d_L_law_430 ?_
  refine lv_aload_n C.1 C.2.1 d_L_law_431 rfl (lv_at hl 3 rfl) ?_
  have h := sd_world h (ws' := ([]) ++ (sd_d1 dk qa qh qs ++ sd_dA k3 qa o ++ sd_H k3 qh (sS_u o) ++ sd_H k3 qs v ++ [(ox, .inl (k3.2.2, 1, .inr (.inl fo)))]) ++ (sd_M k3 qm mo)) (by simp only [sd_D2, sd_D3, sd_D4, List.append_assoc, List.nil_append, List.append_nil])
  refine sd_calli h (vx_runSW (As := [.ref dk, .int (xs (4 * t + 1)), .int (xs (4 * t + 2)), .int (xs (4 * t + 3)), .ref ox]) (rest := []) C (k_L_call l hst D k3 H.size dk qa qh qs o v ox fo (xs (4 * t + 1)) (xs (4 * t + 2)) (xs (4 * t + 3)) ho) (sd_cwSW 5 C.2.2.2.2 tb_399 tb_400 tb_20 tb_401 rfl rfl (by decide +kernel) ⟨Nat.le_of_ble_eq_true rfl, Nat.le_of_ble_eq_true rfl⟩) (sd_preSx h hz) rfl rfl hl.1 rfl (lv_room (Nat.le_of_ble_eq_true rfl)) d_L_law_432 ⟨(show _ ≤ 1068 by omega), (show _ ≤ 9171 by omega)⟩) (fun r w1 H locs hq h => ?_)
  obtain ⟨rfl, v9, fo9, rfl, hv⟩ := hq
  have h := sd_world h (ws' := sd_d1 dk qa qh qs ++ sd_dA k3 qa ((sp_call o (xs (4 * t + 1)) (xs (4 * t + 2)) (xs (4 * t + 3))).2.2) ++ sd_H k3 qh (sS_u (sp_call o (xs (4 * t + 1)) (xs (4 * t + 2)) (xs (4 * t + 3))).2.2) ++ sd_H k3 qs v9 ++ [(ox, .inl (k3.2.2, 1, .inr (.inl fo9)))] ++ sd_M k3 qm mo) (by simp only [sd_D2, sd_D3, sd_D4, List.append_assoc, List.nil_append, List.append_nil])
  refine lv_istore (lv' := [(5, .int (sp_cd [xIA, xNS, xUO, xIS] (sp_call o (xs (4 * t + 1)) (xs (4 * t + 2)) (xs (4 * t + 3))).1)), (0, .ref b), (1, .ref dk), (2, .ref (qm 0)), (3, .ref ox), (4, .int (nI (4 * t)))]) C.1 C.2.1 d_L_law_435 hl (by decide) rfl (fun ls hl => ?_)
  refine lv_aload_n C.1 C.2.1 d_L_law_437 rfl (lv_at hl 3 rfl) ?_
  refine lv_aload_n C.1 C.2.1 d_L_law_438 rfl (lv_at hl 1 rfl) ?_
  refine lv_iload C.1 C.2.1 d_L_law_439 (lv_at hl 5 rfl) ?_
  refine lv_iconst (v := 1) C.1 C.2.1 d_L_law_441 (by decide) ?_
  refine lv_iadd C.1 C.2.1 d_L_law_442 ?_
  refine sd_top (v := .int ((nI (4 * t)) + 1)) (v' := .int (nI (4 * t + 1))) (congrArg Value.int (nI_add (4 * t) 1)) ?_
  refine sd_sld C h hX hbl hbA (i := 4 * t + 1) (by omega) (by omega) d_L_law_443 ?_
  refine lv_aload_n C.1 C.2.1 d_L_law_444 rfl (lv_at hl 1 rfl) ?_
  refine lv_iload C.1 C.2.1 d_L_law_445 (lv_at hl 5 rfl) ?_
  refine lv_iconst (v := 2) C.1 C.2.1 d_L_law_447 (by decide) ?_
  refine lv_iadd C.1 C.2.1 d_L_law_448 ?_
  refine sd_top (v := .int ((nI (4 * t)) + 2)) (v' := .int (nI (4 * t + 2))) (congrArg Value.int (nI_add (4 * t) 2)) ?_
  refine sd_sld C h hX hbl hbA (i := 4 * t + 2) (by omega) (by omega) d_L_law_449 ?_
  refine lv_aload_n C.1 C.2.1 d_L_law_450 rfl (lv_at hl 1 rfl) ?_
  refine lv_iload C.1 C.2.1 d_L_law_451 (lv_at hl 5 rfl) ?_
  refine lv_iconst (v := 3) C.1 C.2.1 d_L_law_453 (by decide) ?_
  refine lv_iadd C.1 C.2.1 d_L_law_454 ?_
  refine sd_top (v := .int ((nI (4 * t)) + 3)) (v' := .int (nI (4 * t + 3))) (congrArg Value.int (nI_add (4 * t) 3)) ?_
  refine sd_sld C h hX hbl hbA (i := 4 * t + 3) (by omega) (by omega) d_L_law_455 ?_
  have h := sd_world h (ws' := (sd_d1 dk qa qh qs ++ sd_dA k3 qa ((sp_call o (xs (4 * t + 1)) (xs (4 * t + 2)) (xs (4 * t + 3))).2.2) ++ sd_H k3 qh (sS_u (sp_call o (xs (4 * t + 1)) (xs (4 * t + 2)) (xs (4 * t + 3))).2.2) ++ sd_H k3 qs v9 ++ [(ox, .inl (k3.2.2, 1, .inr (.inl fo9)))]) ++ (sd_M k3 qm mo) ++ ([])) (by simp only [sd_D2, sd_D3, sd_D4, List.append_assoc, List.nil_append, List.append_nil])
  refine sd_calll h (va_runV (As := [.int (xs (4 * t + 1)), .int (xs (4 * t + 2)), .int (xs (4 * t + 3))]) (rest := []) C (k_M_call l D k3 H.size qm mo o (xs (4 * t + 1)) (xs (4 * t + 2)) (xs (4 * t + 3)) ho hm) (sd_cwV 3 C.2.2.2.2 tb_614 tb_615 tb_616 tb_24 tb_617 rfl rfl (by decide +kernel) ⟨Nat.le_of_ble_eq_true rfl, Nat.le_of_ble_eq_true rfl⟩) (sd_preV h (q0 := 25) (T := T_M) (N := 19) rfl rfl) rfl rfl hl.1 rfl (lv_room (Nat.le_of_ble_eq_true rfl)) d_L_law_456 ⟨(show _ ≤ 1068 by omega), (show _ ≤ 9171 by omega)⟩) (fun rb w1 H locs hq h => ?_)
  obtain ⟨m9, rfl, hm9, htc, hb9⟩ := hq
  have h := sd_world h (ws' := sd_d1 dk qa qh qs ++ sd_dA k3 qa ((sp_call o (xs (4 * t + 1)) (xs (4 * t + 2)) (xs (4 * t + 3))).2.2) ++ sd_H k3 qh (sS_u (sp_call o (xs (4 * t + 1)) (xs (4 * t + 2)) (xs (4 * t + 3))).2.2) ++ sd_H k3 qs v9 ++ [(ox, .inl (k3.2.2, 1, .inr (.inl fo9)))] ++ sd_M k3 qm m9) (by simp only [sd_D2, sd_D3, sd_D4, List.append_assoc, List.nil_append, List.append_nil])
  refine lv_lstore (lv' := [(6, .long rb), (5, .int (sp_cd [xIA, xNS, xUO, xIS] (sp_call o (xs (4 * t + 1)) (xs (4 * t + 2)) (xs (4 * t + 3))).1)), (0, .ref b), (1, .ref dk), (2, .ref (qm 0)), (3, .ref ox), (4, .int (nI (4 * t)))]) C.1 C.2.1 d_L_law_459 hl (by decide) rfl (fun ls hl => ?_)
  refine lv_aload_n C.1 C.2.1 d_L_law_461 rfl (lv_at hl 4 rfl) ?_
  have h := sd_world h (ws' := (sd_d1 dk qa qh qs ++ sd_dA k3 qa ((sp_call o (xs (4 * t + 1)) (xs (4 * t + 2)) (xs (4 * t + 3))).2.2) ++ sd_H k3 qh (sS_u (sp_call o (xs (4 * t + 1)) (xs (4 * t + 2)) (xs (4 * t + 3))).2.2) ++ sd_H k3 qs v9 ++ [(ox, .inl (k3.2.2, 1, .inr (.inl fo9)))]) ++ (sd_M k3 qm m9) ++ ([])) (by simp only [sd_D2, sd_D3, sd_D4, List.append_assoc, List.nil_append, List.append_nil])
  refine sd_calli h (va_runV (As := []) (rest := []) C (k_M_thrown l D k3 H.size qm m9 ) (sd_cwV 0 C.2.2.2.2 tb_568 tb_569 tb_570 tb_24 tb_571 rfl rfl (by decide +kernel) ⟨Nat.le_of_ble_eq_true rfl, Nat.le_of_ble_eq_true rfl⟩) (sd_preV h (q0 := 25) (T := T_M) (N := 19) rfl rfl) rfl rfl hl.1 rfl (lv_room (Nat.le_of_ble_eq_true rfl)) d_L_law_462 ⟨(show _ ≤ 1068 by omega), (show _ ≤ 9171 by omega)⟩) (fun r w1 H locs hq h => ?_)
  obtain ⟨rfl, rfl⟩ := hq
  have h := sd_world h (ws' := sd_d1 dk qa qh qs ++ sd_dA k3 qa ((sp_call o (xs (4 * t + 1)) (xs (4 * t + 2)) (xs (4 * t + 3))).2.2) ++ sd_H k3 qh (sS_u (sp_call o (xs (4 * t + 1)) (xs (4 * t + 2)) (xs (4 * t + 3))).2.2) ++ sd_H k3 qs v9 ++ [(ox, .inl (k3.2.2, 1, .inr (.inl fo9)))] ++ sd_M k3 qm m9) (by simp only [sd_D2, sd_D3, sd_D4, List.append_assoc, List.nil_append, List.append_nil])
  refine lv_iload C.1 C.2.1 d_L_law_465 (lv_at hl 1 rfl) ?_
  refine lv_icmp_eq (tgt := 472) C.1 C.2.1 d_L_law_467 (by decide) (fun c467 => ?_) (fun c467 => ?_)
  · refine lv_iload C.1 C.2.1 d_L_law_472 (lv_at hl 1 rfl) ?_
    refine lv_if_ne (tgt := 488) C.1 C.2.1 d_L_law_474 (by decide) (fun c474 => ?_) (fun c474 => ?_)
    · refine lv_goto (tgt := 956) C.1 C.2.1 d_L_law_488 (by decide) ?_
      refine W.widen (k := 35 + t + 1) (n := 925 + 6 * t + 6) (by omega) (by omega) ?_
      exact kk (sp_call o (xs (4 * t + 1)) (xs (4 * t + 2)) (xs (4 * t + 3))).2.2 v9 fo9 m9 _ _ _ (ok_call (xs (4 * t + 1)) (xs (4 * t + 2)) (xs (4 * t + 3)) ho) hm9 h (lv_sub hl [2, 3, 4, 5, 6] rfl)
    · have hS : (sp_call o (xs (4 * t + 1)) (xs (4 * t + 2)) (xs (4 * t + 3))).1 = "" := by
        rcases E_call o (xs (4 * t + 1)) (xs (4 * t + 2)) (xs (4 * t + 3)) with e9 | e9 | e9 | e9 | e9
        · exact e9
        · rw [e9] at c474; exact absurd c474 (by decide +kernel)
        · rw [e9] at c474; exact absurd c474 (by decide +kernel)
        · rw [e9] at c474; exact absurd c474 (by decide +kernel)
        · rw [e9] at c474; exact absurd c474 (by decide +kernel)
      refine lv_aload_n C.1 C.2.1 d_L_law_477 rfl (lv_at hl 5 rfl) ?_
      refine lv_iconst (v := 0) C.1 C.2.1 d_L_law_478 (by decide) ?_
      refine sd_lald C h 24 2 (i := 0) rfl rfl (by decide) (by decide) d_L_law_479 ?_
      refine lv_lload C.1 C.2.1 d_L_law_480 (lv_at hl 0 rfl) ?_
      refine W.lcmp C.1 C.2.1 d_L_law_482 ?_
      refine lv_if_eq (tgt := 488) C.1 C.2.1 d_L_law_483 (by decide) (fun c483 => ?_) (fun c483 => ?_)
      · refine lv_goto (tgt := 956) C.1 C.2.1 d_L_law_488 (by decide) ?_
        refine W.widen (k := 35 + t + 1) (n := 925 + 6 * t + 6) (by omega) (by omega) ?_
        exact kk (sp_call o (xs (4 * t + 1)) (xs (4 * t + 2)) (xs (4 * t + 3))).2.2 v9 fo9 m9 _ _ _ (ok_call (xs (4 * t + 1)) (xs (4 * t + 2)) (xs (4 * t + 3)) ho) hm9 h (lv_sub hl [2, 3, 4, 5, 6] rfl)
      · exact absurd (sl_cmp ((hv hS).trans (hb9 hS).symm)) c483
  · exact absurd htc c467

set_option maxHeartbeats 4000000 in
set_option maxRecDepth 100000 in
theorem lc_again (l : Launch) (hst : l.stackTraces = false) {p : Program} {e : Env} {s : State} {m : MethodId} {below : List Frame} {meth : Method} {c : Code} {Q : State → Prop} {cw : Cond} {b L : Nat} {xs : Nat → Int32} {A : Nat → Prop} {D : va_G} {k3 : ClassId × ClassId × ClassId} (hL : L ≤ 2048) (C : CallFix p m c code 8 s #[Value.ref b] (cw :: sd_all) "StockDeskLaw") (hX : va_X b L xs s s.heap) (hbl : b < s.heap.size) (hbA : ¬ A b) (hz : sd_tz A s s.heap) {dk ox : Nat} {qa qh qs qm : Nat → Nat} (t : Nat) (ht : 4 * t + 4 ≤ L) {o : sd_S} {v : sd_HS} {fo : Nat → Int64} {mo : sd_MS} {H : Heap} {locs : List Loc} {ls : Array Slot} (ho : sS_ok o) (hm : sm_all mo o) (h : sd_w D A s (sd_t3 k3) (sd_d1 dk qa qh qs ++ sd_dA k3 qa o ++ sd_H k3 qh (sS_u o) ++ sd_H k3 qs v ++ [(ox, .inl (k3.2.2, 1, .inr (.inl fo)))] ++ sd_M k3 qm mo) H locs) (hl : lv_has ls 8 [(0, .ref b), (1, .ref dk), (2, .ref (qm 0)), (3, .ref ox), (4, .int (nI (4 * t)))])
    (kk : ∀ (o : sd_S) (v : sd_HS) (fo : Nat → Int64) (mo : sd_MS) (H : Heap) (locs : List Loc) (ls : Array Slot), sS_ok o → sm_all mo o → sd_w D A s (sd_t3 k3) (sd_d1 dk qa qh qs ++ sd_dA k3 qa o ++ sd_H k3 qh (sS_u o) ++ sd_H k3 qs v ++ [(ox, .inl (k3.2.2, 1, .inr (.inl fo)))] ++ sd_M k3 qm mo) H locs → lv_has ls 8 [(0, .ref b), (1, .ref dk), (2, .ref (qm 0)), (3, .ref ox), (4, .int (nI (4 * t)))] → W p l e room_1 s m #[Value.ref b] below meth c H locs (35 + t + 1) (925 + 6 * t + 6) Q (F0 m 956 ls [])) : W p l e room_1 s m #[Value.ref b] below meth c H locs (35 + t) (925 + 6 * t) Q (F0 m 491 ls []) := by
  refine lv_aload_n C.1 C.2.1 d_L_law_491 rfl (lv_at hl 1 rfl) ?_
  refine lv_aload_n C.1 C.2.1 d_L_law_492 rfl (lv_at hl 0 rfl) ?_
  refine lv_iload C.1 C.2.1 d_L_law_493 (lv_at hl 4 rfl) ?_
  refine lv_iconst (v := 1) C.1 C.2.1 d_L_law_495 (by decide) ?_
  refine lv_iadd C.1 C.2.1 d_L_law_496 ?_
  refine sd_top (v := .int ((nI (4 * t)) + 1)) (v' := .int (nI (4 * t + 1))) (congrArg Value.int (nI_add (4 * t) 1)) ?_
  refine sd_sld C h hX hbl hbA (i := 4 * t + 1) (by omega) (by omega) d_L_law_497 ?_
  refine lv_aload_n C.1 C.2.1 d_L_law_498 rfl (lv_at hl 0 rfl) ?_
  refine lv_iload C.1 C.2.1 d_L_law_499 (lv_at hl 4 rfl) ?_
  refine lv_iconst (v := 2) C.1 C.2.1 d_L_law_501 (by decide) ?_
  refine lv_iadd C.1 C.2.1 d_L_law_502 ?_
  refine sd_top (v := .int ((nI (4 * t)) + 2)) (v' := .int (nI (4 * t + 2))) (congrArg Value.int (nI_add (4 * t) 2)) ?_
  refine sd_sld C h hX hbl hbA (i := 4 * t + 2) (by omega) (by omega) d_L_law_503 ?_
  refine lv_aload_n C.1 C.2.1 d_L_law_504 rfl (lv_at hl 0 rfl) ?_
  refine lv_iload C.1 C.2.1 d_L_law_505 (lv_at hl 4 rfl) ?_
  refine lv_iconst (v := 3) C.1 C.2.1 d_L_law_507 (by decide) ?_
  refine lv_iadd C.1 C.2.1 d_L_law_508 ?_
  refine sd_top (v := .int ((nI (4 * t)) + 3)) (v' := .int (nI (4 * t + 3))) (congrArg Value.int (nI_add (4 * t) 3)) ?_
  refine sd_sld C h hX hbl hbA (i := 4 * t + 3) (by omega) (by omega) d_L_law_509 ?_
  refine lv_aload_n C.1 C.2.1 d_L_law_510 rfl (lv_at hl 3 rfl) ?_
  have h := sd_world h (ws' := ([]) ++ (sd_d1 dk qa qh qs ++ sd_dA k3 qa o ++ sd_H k3 qh (sS_u o) ++ sd_H k3 qs v ++ [(ox, .inl (k3.2.2, 1, .inr (.inl fo)))]) ++ (sd_M k3 qm mo)) (by simp only [sd_D2, sd_D3, sd_D4, List.append_assoc, List.nil_append, List.append_nil])
  refine sd_calli h (vx_runSW (As := [.ref dk, .int (xs (4 * t + 1)), .int (xs (4 * t + 2)), .int (xs (4 * t + 3)), .ref ox]) (rest := []) C (k_L_again l hst D k3 H.size dk qa qh qs o v ox fo (xs (4 * t + 1)) (xs (4 * t + 2)) (xs (4 * t + 3)) ho) (sd_cwSW 5 C.2.2.2.2 tb_428 tb_429 tb_20 tb_430 rfl rfl (by decide +kernel) ⟨Nat.le_of_ble_eq_true rfl, Nat.le_of_ble_eq_true rfl⟩) (sd_preSx h hz) rfl rfl hl.1 rfl (lv_room (Nat.le_of_ble_eq_true rfl)) d_L_law_511 ⟨(show _ ≤ 1068 by omega), (show _ ≤ 9171 by omega)⟩) (fun r w1 H locs hq h => ?_)
  obtain ⟨rfl, v9, fo9, rfl, hv⟩ := hq
  have h := sd_world h (ws' := sd_d1 dk qa qh qs ++ sd_dA k3 qa ((sp_again o (xs (4 * t + 1)) (xs (4 * t + 2)) (xs (4 * t + 3))).2.2) ++ sd_H k3 qh (sS_u (sp_again o (xs (4 * t + 1)) (xs (4 * t + 2)) (xs (4 * t + 3))).2.2) ++ sd_H k3 qs v9 ++ [(ox, .inl (k3.2.2, 1, .inr (.inl fo9)))] ++ sd_M k3 qm mo) (by simp only [sd_D2, sd_D3, sd_D4, List.append_assoc, List.nil_append, List.append_nil])
  refine lv_istore (lv' := [(5, .int (sp_cd [xIA, xNS, xIS] (sp_again o (xs (4 * t + 1)) (xs (4 * t + 2)) (xs (4 * t + 3))).1)), (0, .ref b), (1, .ref dk), (2, .ref (qm 0)), (3, .ref ox), (4, .int (nI (4 * t)))]) C.1 C.2.1 d_L_law_514 hl (by decide) rfl (fun ls hl => ?_)
  refine lv_aload_n C.1 C.2.1 d_L_law_516 rfl (lv_at hl 3 rfl) ?_
  refine lv_aload_n C.1 C.2.1 d_L_law_517 rfl (lv_at hl 1 rfl) ?_
  refine lv_iload C.1 C.2.1 d_L_law_518 (lv_at hl 5 rfl) ?_
  refine lv_iconst (v := 1) C.1 C.2.1 d_L_law_520 (by decide) ?_
  refine lv_iadd C.1 C.2.1 d_L_law_521 ?_
  refine sd_top (v := .int ((nI (4 * t)) + 1)) (v' := .int (nI (4 * t + 1))) (congrArg Value.int (nI_add (4 * t) 1)) ?_
  refine sd_sld C h hX hbl hbA (i := 4 * t + 1) (by omega) (by omega) d_L_law_522 ?_
  refine lv_aload_n C.1 C.2.1 d_L_law_523 rfl (lv_at hl 1 rfl) ?_
  refine lv_iload C.1 C.2.1 d_L_law_524 (lv_at hl 5 rfl) ?_
  refine lv_iconst (v := 2) C.1 C.2.1 d_L_law_526 (by decide) ?_
  refine lv_iadd C.1 C.2.1 d_L_law_527 ?_
  refine sd_top (v := .int ((nI (4 * t)) + 2)) (v' := .int (nI (4 * t + 2))) (congrArg Value.int (nI_add (4 * t) 2)) ?_
  refine sd_sld C h hX hbl hbA (i := 4 * t + 2) (by omega) (by omega) d_L_law_528 ?_
  refine lv_aload_n C.1 C.2.1 d_L_law_529 rfl (lv_at hl 1 rfl) ?_
  refine lv_iload C.1 C.2.1 d_L_law_530 (lv_at hl 5 rfl) ?_
  refine lv_iconst (v := 3) C.1 C.2.1 d_L_law_532 (by decide) ?_
  refine lv_iadd C.1 C.2.1 d_L_law_533 ?_
  refine sd_top (v := .int ((nI (4 * t)) + 3)) (v' := .int (nI (4 * t + 3))) (congrArg Value.int (nI_add (4 * t) 3)) ?_
  refine sd_sld C h hX hbl hbA (i := 4 * t + 3) (by omega) (by omega) d_L_law_534 ?_
  have h := sd_world h (ws' := (sd_d1 dk qa qh qs ++ sd_dA k3 qa ((sp_again o (xs (4 * t + 1)) (xs (4 * t + 2)) (xs (4 * t + 3))).2.2) ++ sd_H k3 qh (sS_u (sp_again o (xs (4 * t + 1)) (xs (4 * t + 2)) (xs (4 * t + 3))).2.2) ++ sd_H k3 qs v9 ++ [(ox, .inl (k3.2.2, 1, .inr (.inl fo9)))]) ++ (sd_M k3 qm mo) ++ ([])) (by simp only [sd_D2, sd_D3, sd_D4, List.append_assoc, List.nil_append, List.append_nil])
  refine sd_calll h (va_runV (As := [.int (xs (4 * t + 1)), .int (xs (4 * t + 2)), .int (xs (4 * t + 3))]) (rest := []) C (k_M_again l D k3 H.size qm mo o (xs (4 * t + 1)) (xs (4 * t + 2)) (xs (4 * t + 3)) ho hm) (sd_cwV 3 C.2.2.2.2 tb_622 tb_623 tb_624 tb_24 tb_625 rfl rfl (by decide +kernel) ⟨Nat.le_of_ble_eq_true rfl, Nat.le_of_ble_eq_true rfl⟩) (sd_preV h (q0 := 25) (T := T_M) (N := 19) rfl rfl) rfl rfl hl.1 rfl (lv_room (Nat.le_of_ble_eq_true rfl)) d_L_law_535 ⟨(show _ ≤ 1068 by omega), (show _ ≤ 9171 by omega)⟩) (fun rb w1 H locs hq h => ?_)
  obtain ⟨m9, rfl, hm9, htc, hb9⟩ := hq
  have h := sd_world h (ws' := sd_d1 dk qa qh qs ++ sd_dA k3 qa ((sp_again o (xs (4 * t + 1)) (xs (4 * t + 2)) (xs (4 * t + 3))).2.2) ++ sd_H k3 qh (sS_u (sp_again o (xs (4 * t + 1)) (xs (4 * t + 2)) (xs (4 * t + 3))).2.2) ++ sd_H k3 qs v9 ++ [(ox, .inl (k3.2.2, 1, .inr (.inl fo9)))] ++ sd_M k3 qm m9) (by simp only [sd_D2, sd_D3, sd_D4, List.append_assoc, List.nil_append, List.append_nil])
  refine lv_lstore (lv' := [(6, .long rb), (5, .int (sp_cd [xIA, xNS, xIS] (sp_again o (xs (4 * t + 1)) (xs (4 * t + 2)) (xs (4 * t + 3))).1)), (0, .ref b), (1, .ref dk), (2, .ref (qm 0)), (3, .ref ox), (4, .int (nI (4 * t)))]) C.1 C.2.1 d_L_law_538 hl (by decide) rfl (fun ls hl => ?_)
  refine lv_aload_n C.1 C.2.1 d_L_law_540 rfl (lv_at hl 4 rfl) ?_
  have h := sd_world h (ws' := (sd_d1 dk qa qh qs ++ sd_dA k3 qa ((sp_again o (xs (4 * t + 1)) (xs (4 * t + 2)) (xs (4 * t + 3))).2.2) ++ sd_H k3 qh (sS_u (sp_again o (xs (4 * t + 1)) (xs (4 * t + 2)) (xs (4 * t + 3))).2.2) ++ sd_H k3 qs v9 ++ [(ox, .inl (k3.2.2, 1, .inr (.inl fo9)))]) ++ (sd_M k3 qm m9) ++ ([])) (by simp only [sd_D2, sd_D3, sd_D4, List.append_assoc, List.nil_append, List.append_nil])
  refine sd_calli h (va_runV (As := []) (rest := []) C (k_M_thrown l D k3 H.size qm m9 ) (sd_cwV 0 C.2.2.2.2 tb_568 tb_569 tb_570 tb_24 tb_571 rfl rfl (by decide +kernel) ⟨Nat.le_of_ble_eq_true rfl, Nat.le_of_ble_eq_true rfl⟩) (sd_preV h (q0 := 25) (T := T_M) (N := 19) rfl rfl) rfl rfl hl.1 rfl (lv_room (Nat.le_of_ble_eq_true rfl)) d_L_law_541 ⟨(show _ ≤ 1068 by omega), (show _ ≤ 9171 by omega)⟩) (fun r w1 H locs hq h => ?_)
  obtain ⟨rfl, rfl⟩ := hq
  have h := sd_world h (ws' := sd_d1 dk qa qh qs ++ sd_dA k3 qa ((sp_again o (xs (4 * t + 1)) (xs (4 * t + 2)) (xs (4 * t + 3))).2.2) ++ sd_H k3 qh (sS_u (sp_again o (xs (4 * t + 1)) (xs (4 * t + 2)) (xs (4 * t + 3))).2.2) ++ sd_H k3 qs v9 ++ [(ox, .inl (k3.2.2, 1, .inr (.inl fo9)))] ++ sd_M k3 qm m9) (by simp only [sd_D2, sd_D3, sd_D4, List.append_assoc, List.nil_append, List.append_nil])
  refine lv_iload C.1 C.2.1 d_L_law_544 (lv_at hl 1 rfl) ?_
  refine lv_icmp_eq (tgt := 551) C.1 C.2.1 d_L_law_546 (by decide) (fun c546 => ?_) (fun c546 => ?_)
  · refine lv_iload C.1 C.2.1 d_L_law_551 (lv_at hl 1 rfl) ?_
    refine lv_if_ne (tgt := 567) C.1 C.2.1 d_L_law_553 (by decide) (fun c553 => ?_) (fun c553 => ?_)
    · refine lv_goto (tgt := 956) C.1 C.2.1 d_L_law_567 (by decide) ?_
      refine W.widen (k := 35 + t + 1) (n := 925 + 6 * t + 6) (by omega) (by omega) ?_
      exact kk (sp_again o (xs (4 * t + 1)) (xs (4 * t + 2)) (xs (4 * t + 3))).2.2 v9 fo9 m9 _ _ _ (ok_again (xs (4 * t + 1)) (xs (4 * t + 2)) (xs (4 * t + 3)) ho) hm9 h (lv_sub hl [2, 3, 4, 5, 6] rfl)
    · have hS : (sp_again o (xs (4 * t + 1)) (xs (4 * t + 2)) (xs (4 * t + 3))).1 = "" := by
        rcases E_again o (xs (4 * t + 1)) (xs (4 * t + 2)) (xs (4 * t + 3)) with e9 | e9 | e9 | e9
        · exact e9
        · rw [e9] at c553; exact absurd c553 (by decide +kernel)
        · rw [e9] at c553; exact absurd c553 (by decide +kernel)
        · rw [e9] at c553; exact absurd c553 (by decide +kernel)
      refine lv_aload_n C.1 C.2.1 d_L_law_556 rfl (lv_at hl 5 rfl) ?_
      refine lv_iconst (v := 0) C.1 C.2.1 d_L_law_557 (by decide) ?_
      refine sd_lald C h 24 2 (i := 0) rfl rfl (by decide) (by decide) d_L_law_558 ?_
      refine lv_lload C.1 C.2.1 d_L_law_559 (lv_at hl 0 rfl) ?_
      refine W.lcmp C.1 C.2.1 d_L_law_561 ?_
      refine lv_if_eq (tgt := 567) C.1 C.2.1 d_L_law_562 (by decide) (fun c562 => ?_) (fun c562 => ?_)
      · refine lv_goto (tgt := 956) C.1 C.2.1 d_L_law_567 (by decide) ?_
        refine W.widen (k := 35 + t + 1) (n := 925 + 6 * t + 6) (by omega) (by omega) ?_
        exact kk (sp_again o (xs (4 * t + 1)) (xs (4 * t + 2)) (xs (4 * t + 3))).2.2 v9 fo9 m9 _ _ _ (ok_again (xs (4 * t + 1)) (xs (4 * t + 2)) (xs (4 * t + 3)) ho) hm9 h (lv_sub hl [2, 3, 4, 5, 6] rfl)
      · exact absurd (sl_cmp ((hv hS).trans (hb9 hS).symm)) c562
  · exact absurd htc c546

set_option maxHeartbeats 4000000 in
set_option maxRecDepth 100000 in
theorem lc_collect (l : Launch) (hst : l.stackTraces = false) {p : Program} {e : Env} {s : State} {m : MethodId} {below : List Frame} {meth : Method} {c : Code} {Q : State → Prop} {cw : Cond} {b L : Nat} {xs : Nat → Int32} {A : Nat → Prop} {D : va_G} {k3 : ClassId × ClassId × ClassId} (hL : L ≤ 2048) (C : CallFix p m c code 8 s #[Value.ref b] (cw :: sd_all) "StockDeskLaw") (hX : va_X b L xs s s.heap) (hbl : b < s.heap.size) (hbA : ¬ A b) (hz : sd_tz A s s.heap) {dk ox : Nat} {qa qh qs qm : Nat → Nat} (t : Nat) (ht : 4 * t + 4 ≤ L) {o : sd_S} {v : sd_HS} {fo : Nat → Int64} {mo : sd_MS} {H : Heap} {locs : List Loc} {ls : Array Slot} (ho : sS_ok o) (hm : sm_all mo o) (h : sd_w D A s (sd_t3 k3) (sd_d1 dk qa qh qs ++ sd_dA k3 qa o ++ sd_H k3 qh (sS_u o) ++ sd_H k3 qs v ++ [(ox, .inl (k3.2.2, 1, .inr (.inl fo)))] ++ sd_M k3 qm mo) H locs) (hl : lv_has ls 8 [(0, .ref b), (1, .ref dk), (2, .ref (qm 0)), (3, .ref ox), (4, .int (nI (4 * t)))])
    (kk : ∀ (o : sd_S) (v : sd_HS) (fo : Nat → Int64) (mo : sd_MS) (H : Heap) (locs : List Loc) (ls : Array Slot), sS_ok o → sm_all mo o → sd_w D A s (sd_t3 k3) (sd_d1 dk qa qh qs ++ sd_dA k3 qa o ++ sd_H k3 qh (sS_u o) ++ sd_H k3 qs v ++ [(ox, .inl (k3.2.2, 1, .inr (.inl fo)))] ++ sd_M k3 qm mo) H locs → lv_has ls 8 [(0, .ref b), (1, .ref dk), (2, .ref (qm 0)), (3, .ref ox), (4, .int (nI (4 * t)))] → W p l e room_1 s m #[Value.ref b] below meth c H locs (35 + t + 1) (925 + 6 * t + 6) Q (F0 m 956 ls [])) : W p l e room_1 s m #[Value.ref b] below meth c H locs (35 + t) (925 + 6 * t) Q (F0 m 570 ls []) := by
  refine lv_aload_n C.1 C.2.1 d_L_law_570 rfl (lv_at hl 1 rfl) ?_
  refine lv_aload_n C.1 C.2.1 d_L_law_571 rfl (lv_at hl 0 rfl) ?_
  refine lv_iload C.1 C.2.1 d_L_law_572 (lv_at hl 4 rfl) ?_
  refine lv_iconst (v := 1) C.1 C.2.1 d_L_law_574 (by decide) ?_
  refine lv_iadd C.1 C.2.1 d_L_law_575 ?_
  refine sd_top (v := .int ((nI (4 * t)) + 1)) (v' := .int (nI (4 * t + 1))) (congrArg Value.int (nI_add (4 * t) 1)) ?_
  refine sd_sld C h hX hbl hbA (i := 4 * t + 1) (by omega) (by omega) d_L_law_576 ?_
  refine lv_aload_n C.1 C.2.1 d_L_law_577 rfl (lv_at hl 3 rfl) ?_
  have h := sd_world h (ws' := ([]) ++ (sd_d1 dk qa qh qs ++ sd_dA k3 qa o ++ sd_H k3 qh (sS_u o) ++ sd_H k3 qs v ++ [(ox, .inl (k3.2.2, 1, .inr (.inl fo)))]) ++ (sd_M k3 qm mo)) (by simp only [sd_D2, sd_D3, sd_D4, List.append_assoc, List.nil_append, List.append_nil])
  refine sd_calli h (vx_runSW (As := [.ref dk, .int (xs (4 * t + 1)), .ref ox]) (rest := []) C (k_L_collect l hst D k3 H.size dk qa qh qs o v ox fo (xs (4 * t + 1)) ho) (sd_cwSW 3 C.2.2.2.2 tb_443 tb_444 tb_20 tb_445 rfl rfl (by decide +kernel) ⟨Nat.le_of_ble_eq_true rfl, Nat.le_of_ble_eq_true rfl⟩) (sd_preSx h hz) rfl rfl hl.1 rfl (lv_room (Nat.le_of_ble_eq_true rfl)) d_L_law_578 ⟨(show _ ≤ 1068 by omega), (show _ ≤ 9171 by omega)⟩) (fun r w1 H locs hq h => ?_)
  obtain ⟨rfl, v9, fo9, rfl, hv⟩ := hq
  have h := sd_world h (ws' := sd_d1 dk qa qh qs ++ sd_dA k3 qa ((sp_collect o (xs (4 * t + 1))).2.2) ++ sd_H k3 qh (sS_u (sp_collect o (xs (4 * t + 1))).2.2) ++ sd_H k3 qs v9 ++ [(ox, .inl (k3.2.2, 1, .inr (.inl fo9)))] ++ sd_M k3 qm mo) (by simp only [sd_D2, sd_D3, sd_D4, List.append_assoc, List.nil_append, List.append_nil])
  refine lv_istore (lv' := [(5, .int (sp_cd [xIA, xUO] (sp_collect o (xs (4 * t + 1))).1)), (0, .ref b), (1, .ref dk), (2, .ref (qm 0)), (3, .ref ox), (4, .int (nI (4 * t)))]) C.1 C.2.1 d_L_law_581 hl (by decide) rfl (fun ls hl => ?_)
  refine lv_aload_n C.1 C.2.1 d_L_law_583 rfl (lv_at hl 3 rfl) ?_
  refine lv_aload_n C.1 C.2.1 d_L_law_584 rfl (lv_at hl 1 rfl) ?_
  refine lv_iload C.1 C.2.1 d_L_law_585 (lv_at hl 5 rfl) ?_
  refine lv_iconst (v := 1) C.1 C.2.1 d_L_law_587 (by decide) ?_
  refine lv_iadd C.1 C.2.1 d_L_law_588 ?_
  refine sd_top (v := .int ((nI (4 * t)) + 1)) (v' := .int (nI (4 * t + 1))) (congrArg Value.int (nI_add (4 * t) 1)) ?_
  refine sd_sld C h hX hbl hbA (i := 4 * t + 1) (by omega) (by omega) d_L_law_589 ?_
  have h := sd_world h (ws' := (sd_d1 dk qa qh qs ++ sd_dA k3 qa ((sp_collect o (xs (4 * t + 1))).2.2) ++ sd_H k3 qh (sS_u (sp_collect o (xs (4 * t + 1))).2.2) ++ sd_H k3 qs v9 ++ [(ox, .inl (k3.2.2, 1, .inr (.inl fo9)))]) ++ (sd_M k3 qm mo) ++ ([])) (by simp only [sd_D2, sd_D3, sd_D4, List.append_assoc, List.nil_append, List.append_nil])
  refine sd_calli h (va_runV (As := [.int (xs (4 * t + 1))]) (rest := []) C (k_M_collect l D k3 H.size qm mo o (xs (4 * t + 1)) ho hm) (sd_cwV 1 C.2.2.2.2 tb_626 tb_627 tb_628 tb_24 tb_629 rfl rfl (by decide +kernel) ⟨Nat.le_of_ble_eq_true rfl, Nat.le_of_ble_eq_true rfl⟩) (sd_preV h (q0 := 25) (T := T_M) (N := 19) rfl rfl) rfl rfl hl.1 rfl (lv_room (Nat.le_of_ble_eq_true rfl)) d_L_law_590 ⟨(show _ ≤ 1068 by omega), (show _ ≤ 9171 by omega)⟩) (fun rb w1 H locs hq h => ?_)
  obtain ⟨m9, rfl, hm9, htc, hb9⟩ := hq
  have h := sd_world h (ws' := sd_d1 dk qa qh qs ++ sd_dA k3 qa ((sp_collect o (xs (4 * t + 1))).2.2) ++ sd_H k3 qh (sS_u (sp_collect o (xs (4 * t + 1))).2.2) ++ sd_H k3 qs v9 ++ [(ox, .inl (k3.2.2, 1, .inr (.inl fo9)))] ++ sd_M k3 qm m9) (by simp only [sd_D2, sd_D3, sd_D4, List.append_assoc, List.nil_append, List.append_nil])
  refine lv_istore (lv' := [(6, .int rb), (5, .int (sp_cd [xIA, xUO] (sp_collect o (xs (4 * t + 1))).1)), (0, .ref b), (1, .ref dk), (2, .ref (qm 0)), (3, .ref ox), (4, .int (nI (4 * t)))]) C.1 C.2.1 d_L_law_593 hl (by decide) rfl (fun ls hl => ?_)
  refine lv_aload_n C.1 C.2.1 d_L_law_595 rfl (lv_at hl 4 rfl) ?_
  have h := sd_world h (ws' := (sd_d1 dk qa qh qs ++ sd_dA k3 qa ((sp_collect o (xs (4 * t + 1))).2.2) ++ sd_H k3 qh (sS_u (sp_collect o (xs (4 * t + 1))).2.2) ++ sd_H k3 qs v9 ++ [(ox, .inl (k3.2.2, 1, .inr (.inl fo9)))]) ++ (sd_M k3 qm m9) ++ ([])) (by simp only [sd_D2, sd_D3, sd_D4, List.append_assoc, List.nil_append, List.append_nil])
  refine sd_calli h (va_runV (As := []) (rest := []) C (k_M_thrown l D k3 H.size qm m9 ) (sd_cwV 0 C.2.2.2.2 tb_568 tb_569 tb_570 tb_24 tb_571 rfl rfl (by decide +kernel) ⟨Nat.le_of_ble_eq_true rfl, Nat.le_of_ble_eq_true rfl⟩) (sd_preV h (q0 := 25) (T := T_M) (N := 19) rfl rfl) rfl rfl hl.1 rfl (lv_room (Nat.le_of_ble_eq_true rfl)) d_L_law_596 ⟨(show _ ≤ 1068 by omega), (show _ ≤ 9171 by omega)⟩) (fun r w1 H locs hq h => ?_)
  obtain ⟨rfl, rfl⟩ := hq
  have h := sd_world h (ws' := sd_d1 dk qa qh qs ++ sd_dA k3 qa ((sp_collect o (xs (4 * t + 1))).2.2) ++ sd_H k3 qh (sS_u (sp_collect o (xs (4 * t + 1))).2.2) ++ sd_H k3 qs v9 ++ [(ox, .inl (k3.2.2, 1, .inr (.inl fo9)))] ++ sd_M k3 qm m9) (by simp only [sd_D2, sd_D3, sd_D4, List.append_assoc, List.nil_append, List.append_nil])
  refine lv_iload C.1 C.2.1 d_L_law_599 (lv_at hl 1 rfl) ?_
  refine lv_icmp_eq (tgt := 606) C.1 C.2.1 d_L_law_601 (by decide) (fun c601 => ?_) (fun c601 => ?_)
  · refine lv_iload C.1 C.2.1 d_L_law_606 (lv_at hl 1 rfl) ?_
    refine lv_if_ne (tgt := 623) C.1 C.2.1 d_L_law_608 (by decide) (fun c608 => ?_) (fun c608 => ?_)
    · refine lv_goto (tgt := 956) C.1 C.2.1 d_L_law_623 (by decide) ?_
      refine W.widen (k := 35 + t + 1) (n := 925 + 6 * t + 6) (by omega) (by omega) ?_
      exact kk (sp_collect o (xs (4 * t + 1))).2.2 v9 fo9 m9 _ _ _ (ok_collect (xs (4 * t + 1)) ho) hm9 h (lv_sub hl [2, 3, 4, 5, 6] rfl)
    · have hS : (sp_collect o (xs (4 * t + 1))).1 = "" := by
        rcases E_collect o (xs (4 * t + 1)) with e9 | e9 | e9
        · exact e9
        · rw [e9] at c608; exact absurd c608 (by decide +kernel)
        · rw [e9] at c608; exact absurd c608 (by decide +kernel)
      refine lv_aload_n C.1 C.2.1 d_L_law_611 rfl (lv_at hl 5 rfl) ?_
      refine lv_iconst (v := 0) C.1 C.2.1 d_L_law_612 (by decide) ?_
      refine sd_lald C h 24 2 (i := 0) rfl rfl (by decide) (by decide) d_L_law_613 ?_
      refine lv_iload C.1 C.2.1 d_L_law_614 (lv_at hl 0 rfl) ?_
      refine lv_i2l (v := rb.toInt64) C.1 C.2.1 d_L_law_616 rfl ?_
      refine W.lcmp C.1 C.2.1 d_L_law_617 ?_
      refine lv_if_eq (tgt := 623) C.1 C.2.1 d_L_law_618 (by decide) (fun c618 => ?_) (fun c618 => ?_)
      · refine lv_goto (tgt := 956) C.1 C.2.1 d_L_law_623 (by decide) ?_
        refine W.widen (k := 35 + t + 1) (n := 925 + 6 * t + 6) (by omega) (by omega) ?_
        exact kk (sp_collect o (xs (4 * t + 1))).2.2 v9 fo9 m9 _ _ _ (ok_collect (xs (4 * t + 1)) ho) hm9 h (lv_sub hl [2, 3, 4, 5, 6] rfl)
      · exact absurd (sl_cmp ((hv hS).trans (congrArg Int32.toInt64 (hb9 hS).symm))) c618
  · exact absurd htc c601

set_option maxHeartbeats 4000000 in
set_option maxRecDepth 100000 in
theorem lc_sums (l : Launch) (hst : l.stackTraces = false) {p : Program} {e : Env} {s : State} {m : MethodId} {below : List Frame} {meth : Method} {c : Code} {Q : State → Prop} {cw : Cond} {b L : Nat} {xs : Nat → Int32} {A : Nat → Prop} {D : va_G} {k3 : ClassId × ClassId × ClassId} (hL : L ≤ 2048) (C : CallFix p m c code 8 s #[Value.ref b] (cw :: sd_all) "StockDeskLaw") (hX : va_X b L xs s s.heap) (hbl : b < s.heap.size) (hbA : ¬ A b) (hz : sd_tz A s s.heap) {dk ox : Nat} {qa qh qs qm : Nat → Nat} (t : Nat) (ht : 4 * t + 4 ≤ L) {o : sd_S} {v : sd_HS} {fo : Nat → Int64} {mo : sd_MS} {H : Heap} {locs : List Loc} {ls : Array Slot} (ho : sS_ok o) (hm : sm_all mo o) (h : sd_w D A s (sd_t3 k3) (sd_d1 dk qa qh qs ++ sd_dA k3 qa o ++ sd_H k3 qh (sS_u o) ++ sd_H k3 qs v ++ [(ox, .inl (k3.2.2, 1, .inr (.inl fo)))] ++ sd_M k3 qm mo) H locs) (hl : lv_has ls 8 [(0, .ref b), (1, .ref dk), (2, .ref (qm 0)), (3, .ref ox), (4, .int (nI (4 * t)))])
    (kk : ∀ (o : sd_S) (v : sd_HS) (fo : Nat → Int64) (mo : sd_MS) (H : Heap) (locs : List Loc) (ls : Array Slot), sS_ok o → sm_all mo o → sd_w D A s (sd_t3 k3) (sd_d1 dk qa qh qs ++ sd_dA k3 qa o ++ sd_H k3 qh (sS_u o) ++ sd_H k3 qs v ++ [(ox, .inl (k3.2.2, 1, .inr (.inl fo)))] ++ sd_M k3 qm mo) H locs → lv_has ls 8 [(0, .ref b), (1, .ref dk), (2, .ref (qm 0)), (3, .ref ox), (4, .int (nI (4 * t)))] → W p l e room_1 s m #[Value.ref b] below meth c H locs (35 + t + 1) (925 + 6 * t + 6) Q (F0 m 956 ls [])) : W p l e room_1 s m #[Value.ref b] below meth c H locs (35 + t) (925 + 6 * t) Q (F0 m 626 ls []) := by
  refine lv_aload_n C.1 C.2.1 d_L_law_626 rfl (lv_at hl 1 rfl) ?_
  have h := sd_world h (ws' := ([]) ++ (sd_d1 dk qa qh qs ++ sd_dA k3 qa o ++ sd_H k3 qh (sS_u o)) ++ (sd_H k3 qs v ++ [(ox, .inl (k3.2.2, 1, .inr (.inl fo)))] ++ sd_M k3 qm mo)) (by simp only [sd_D2, sd_D3, sd_D4, List.append_assoc, List.nil_append, List.append_nil])
  refine sd_calll h (va_runV (As := []) (rest := []) C (k_D_sums l D k3 H.size dk qa qh qs o ho) (sd_cwV 0 C.2.2.2.2 tb_148 tb_149 tb_150 tb_21 tb_151 rfl rfl (by decide +kernel) ⟨Nat.le_of_ble_eq_true rfl, Nat.le_of_ble_eq_true rfl⟩) (sd_preV h (q0 := 0) (T := T_D) (N := 3) rfl rfl) rfl rfl hl.1 rfl (lv_room (Nat.le_of_ble_eq_true rfl)) d_L_law_627 ⟨(show _ ≤ 1068 by omega), (show _ ≤ 9171 by omega)⟩) (fun r w1 H locs hq h => ?_)
  obtain ⟨rfl, rfl⟩ := hq
  have h := sd_world h (ws' := sd_d1 dk qa qh qs ++ sd_dA k3 qa o ++ sd_H k3 qh (sS_u o) ++ sd_H k3 qs v ++ [(ox, .inl (k3.2.2, 1, .inr (.inl fo)))] ++ sd_M k3 qm mo) (by simp only [sd_D2, sd_D3, sd_D4, List.append_assoc, List.nil_append, List.append_nil])
  refine lv_aload_n C.1 C.2.1 d_L_law_630 rfl (lv_at hl 2 rfl) ?_
  have h := sd_world h (ws' := (sd_d1 dk qa qh qs ++ sd_dA k3 qa o ++ sd_H k3 qh (sS_u o) ++ sd_H k3 qs v ++ [(ox, .inl (k3.2.2, 1, .inr (.inl fo)))]) ++ (sd_M k3 qm mo) ++ ([])) (by simp only [sd_D2, sd_D3, sd_D4, List.append_assoc, List.nil_append, List.append_nil])
  refine sd_calll h (va_runV (As := []) (rest := [.long (sp_sums o)]) C (k_M_sums l D k3 H.size qm mo o ho hm) (sd_cwV 0 C.2.2.2.2 tb_630 tb_631 tb_632 tb_24 tb_633 rfl rfl (by decide +kernel) ⟨Nat.le_of_ble_eq_true rfl, Nat.le_of_ble_eq_true rfl⟩) (sd_preV h (q0 := 25) (T := T_M) (N := 19) rfl rfl) rfl rfl hl.1 rfl (lv_room (Nat.le_of_ble_eq_true rfl)) d_L_law_631 ⟨(show _ ≤ 1068 by omega), (show _ ≤ 9171 by omega)⟩) (fun r w1 H locs hq h => ?_)
  obtain ⟨rfl, m9, rfl, hm9⟩ := hq
  have h := sd_world h (ws' := sd_d1 dk qa qh qs ++ sd_dA k3 qa o ++ sd_H k3 qh (sS_u o) ++ sd_H k3 qs v ++ [(ox, .inl (k3.2.2, 1, .inr (.inl fo)))] ++ sd_M k3 qm m9) (by simp only [sd_D2, sd_D3, sd_D4, List.append_assoc, List.nil_append, List.append_nil])
  refine W.lcmp C.1 C.2.1 d_L_law_634 ?_
  refine lv_if_eq (tgt := 956) C.1 C.2.1 d_L_law_635 (by decide) (fun c635 => ?_) (fun c635 => ?_)
  · refine W.widen (k := 35 + t + 1) (n := 925 + 6 * t + 6) (by omega) (by omega) ?_
    exact kk o v fo m9 _ _ _ ho hm9 h (lv_sub hl [0, 1, 2, 3, 4] rfl)
  · exact absurd (sl_cmp rfl) c635

set_option maxHeartbeats 4000000 in
set_option maxRecDepth 100000 in
theorem lc_back (l : Launch) (hst : l.stackTraces = false) {p : Program} {e : Env} {s : State} {m : MethodId} {below : List Frame} {meth : Method} {c : Code} {Q : State → Prop} {cw : Cond} {b L : Nat} {xs : Nat → Int32} {A : Nat → Prop} {D : va_G} {k3 : ClassId × ClassId × ClassId} (hL : L ≤ 2048) (C : CallFix p m c code 8 s #[Value.ref b] (cw :: sd_all) "StockDeskLaw") (hX : va_X b L xs s s.heap) (hbl : b < s.heap.size) (hbA : ¬ A b) (hz : sd_tz A s s.heap) {dk ox : Nat} {qa qh qs qm : Nat → Nat} (t : Nat) (ht : 4 * t + 4 ≤ L) {o : sd_S} {v : sd_HS} {fo : Nat → Int64} {mo : sd_MS} {H : Heap} {locs : List Loc} {ls : Array Slot} (ho : sS_ok o) (hm : sm_all mo o) (h : sd_w D A s (sd_t3 k3) (sd_d1 dk qa qh qs ++ sd_dA k3 qa o ++ sd_H k3 qh (sS_u o) ++ sd_H k3 qs v ++ [(ox, .inl (k3.2.2, 1, .inr (.inl fo)))] ++ sd_M k3 qm mo) H locs) (hl : lv_has ls 8 [(0, .ref b), (1, .ref dk), (2, .ref (qm 0)), (3, .ref ox), (4, .int (nI (4 * t)))])
    (kk : ∀ (o : sd_S) (v : sd_HS) (fo : Nat → Int64) (mo : sd_MS) (H : Heap) (locs : List Loc) (ls : Array Slot), sS_ok o → sm_all mo o → sd_w D A s (sd_t3 k3) (sd_d1 dk qa qh qs ++ sd_dA k3 qa o ++ sd_H k3 qh (sS_u o) ++ sd_H k3 qs v ++ [(ox, .inl (k3.2.2, 1, .inr (.inl fo)))] ++ sd_M k3 qm mo) H locs → lv_has ls 8 [(0, .ref b), (1, .ref dk), (2, .ref (qm 0)), (3, .ref ox), (4, .int (nI (4 * t)))] → W p l e room_1 s m #[Value.ref b] below meth c H locs (35 + t + 1) (925 + 6 * t + 6) Q (F0 m 956 ls [])) : W p l e room_1 s m #[Value.ref b] below meth c H locs (35 + t) (925 + 6 * t) Q (F0 m 640 ls []) := by
  refine lv_aload_n C.1 C.2.1 d_L_law_640 rfl (lv_at hl 1 rfl) ?_
  refine lv_aload_n C.1 C.2.1 d_L_law_641 rfl (lv_at hl 3 rfl) ?_
  have h := sd_world h (ws' := ([]) ++ (sd_d1 dk qa qh qs ++ sd_dA k3 qa o ++ sd_H k3 qh (sS_u o) ++ sd_H k3 qs v ++ [(ox, .inl (k3.2.2, 1, .inr (.inl fo)))]) ++ (sd_M k3 qm mo)) (by simp only [sd_D2, sd_D3, sd_D4, List.append_assoc, List.nil_append, List.append_nil])
  refine sd_calli h (vx_runSW (As := [.ref dk, .ref ox]) (rest := []) C (k_L_back l hst D k3 H.size dk qa qh qs o v ox fo ho) (sd_cwSW 2 C.2.2.2.2 tb_450 tb_451 tb_20 tb_452 rfl rfl (by decide +kernel) ⟨Nat.le_of_ble_eq_true rfl, Nat.le_of_ble_eq_true rfl⟩) (sd_preSx h hz) rfl rfl hl.1 rfl (lv_room (Nat.le_of_ble_eq_true rfl)) d_L_law_642 ⟨(show _ ≤ 1068 by omega), (show _ ≤ 9171 by omega)⟩) (fun r w1 H locs hq h => ?_)
  obtain ⟨rfl, v9, fo9, rfl, hv⟩ := hq
  have h := sd_world h (ws' := sd_d1 dk qa qh qs ++ sd_dA k3 qa ((sp_back o).2.2) ++ sd_H k3 qh (sS_u (sp_back o).2.2) ++ sd_H k3 qs v9 ++ [(ox, .inl (k3.2.2, 1, .inr (.inl fo9)))] ++ sd_M k3 qm mo) (by simp only [sd_D2, sd_D3, sd_D4, List.append_assoc, List.nil_append, List.append_nil])
  refine lv_istore (lv' := [(5, .int (sp_cd [xIS] (sp_back o).1)), (0, .ref b), (1, .ref dk), (2, .ref (qm 0)), (3, .ref ox), (4, .int (nI (4 * t)))]) C.1 C.2.1 d_L_law_645 hl (by decide) rfl (fun ls hl => ?_)
  refine lv_aload_n C.1 C.2.1 d_L_law_647 rfl (lv_at hl 3 rfl) ?_
  have h := sd_world h (ws' := (sd_d1 dk qa qh qs ++ sd_dA k3 qa ((sp_back o).2.2) ++ sd_H k3 qh (sS_u (sp_back o).2.2) ++ sd_H k3 qs v9 ++ [(ox, .inl (k3.2.2, 1, .inr (.inl fo9)))]) ++ (sd_M k3 qm mo) ++ ([])) (by simp only [sd_D2, sd_D3, sd_D4, List.append_assoc, List.nil_append, List.append_nil])
  refine sd_calli h (va_runV (As := []) (rest := []) C (k_M_back l D k3 H.size qm mo o ho hm) (sd_cwV 0 C.2.2.2.2 tb_635 tb_636 tb_637 tb_24 tb_638 rfl rfl (by decide +kernel) ⟨Nat.le_of_ble_eq_true rfl, Nat.le_of_ble_eq_true rfl⟩) (sd_preV h (q0 := 25) (T := T_M) (N := 19) rfl rfl) rfl rfl hl.1 rfl (lv_room (Nat.le_of_ble_eq_true rfl)) d_L_law_648 ⟨(show _ ≤ 1068 by omega), (show _ ≤ 9171 by omega)⟩) (fun rb w1 H locs hq h => ?_)
  obtain ⟨m9, rfl, hm9, htc, hb9⟩ := hq
  have h := sd_world h (ws' := sd_d1 dk qa qh qs ++ sd_dA k3 qa ((sp_back o).2.2) ++ sd_H k3 qh (sS_u (sp_back o).2.2) ++ sd_H k3 qs v9 ++ [(ox, .inl (k3.2.2, 1, .inr (.inl fo9)))] ++ sd_M k3 qm m9) (by simp only [sd_D2, sd_D3, sd_D4, List.append_assoc, List.nil_append, List.append_nil])
  refine lv_istore (lv' := [(6, .int rb), (5, .int (sp_cd [xIS] (sp_back o).1)), (0, .ref b), (1, .ref dk), (2, .ref (qm 0)), (3, .ref ox), (4, .int (nI (4 * t)))]) C.1 C.2.1 d_L_law_651 hl (by decide) rfl (fun ls hl => ?_)
  refine lv_aload_n C.1 C.2.1 d_L_law_653 rfl (lv_at hl 4 rfl) ?_
  have h := sd_world h (ws' := (sd_d1 dk qa qh qs ++ sd_dA k3 qa ((sp_back o).2.2) ++ sd_H k3 qh (sS_u (sp_back o).2.2) ++ sd_H k3 qs v9 ++ [(ox, .inl (k3.2.2, 1, .inr (.inl fo9)))]) ++ (sd_M k3 qm m9) ++ ([])) (by simp only [sd_D2, sd_D3, sd_D4, List.append_assoc, List.nil_append, List.append_nil])
  refine sd_calli h (va_runV (As := []) (rest := []) C (k_M_thrown l D k3 H.size qm m9 ) (sd_cwV 0 C.2.2.2.2 tb_568 tb_569 tb_570 tb_24 tb_571 rfl rfl (by decide +kernel) ⟨Nat.le_of_ble_eq_true rfl, Nat.le_of_ble_eq_true rfl⟩) (sd_preV h (q0 := 25) (T := T_M) (N := 19) rfl rfl) rfl rfl hl.1 rfl (lv_room (Nat.le_of_ble_eq_true rfl)) d_L_law_654 ⟨(show _ ≤ 1068 by omega), (show _ ≤ 9171 by omega)⟩) (fun r w1 H locs hq h => ?_)
  obtain ⟨rfl, rfl⟩ := hq
  have h := sd_world h (ws' := sd_d1 dk qa qh qs ++ sd_dA k3 qa ((sp_back o).2.2) ++ sd_H k3 qh (sS_u (sp_back o).2.2) ++ sd_H k3 qs v9 ++ [(ox, .inl (k3.2.2, 1, .inr (.inl fo9)))] ++ sd_M k3 qm m9) (by simp only [sd_D2, sd_D3, sd_D4, List.append_assoc, List.nil_append, List.append_nil])
  refine lv_iload C.1 C.2.1 d_L_law_657 (lv_at hl 1 rfl) ?_
  refine lv_icmp_eq (tgt := 664) C.1 C.2.1 d_L_law_659 (by decide) (fun c659 => ?_) (fun c659 => ?_)
  · refine lv_iload C.1 C.2.1 d_L_law_664 (lv_at hl 1 rfl) ?_
    refine lv_if_ne (tgt := 681) C.1 C.2.1 d_L_law_666 (by decide) (fun c666 => ?_) (fun c666 => ?_)
    · refine lv_goto (tgt := 956) C.1 C.2.1 d_L_law_681 (by decide) ?_
      refine W.widen (k := 35 + t + 1) (n := 925 + 6 * t + 6) (by omega) (by omega) ?_
      exact kk (sp_back o).2.2 v9 fo9 m9 _ _ _ (ok_back ho) hm9 h (lv_sub hl [2, 3, 4, 5, 6] rfl)
    · have hS : (sp_back o).1 = "" := by
        rcases E_back o with e9 | e9
        · exact e9
        · rw [e9] at c666; exact absurd c666 (by decide +kernel)
      refine lv_aload_n C.1 C.2.1 d_L_law_669 rfl (lv_at hl 5 rfl) ?_
      refine lv_iconst (v := 0) C.1 C.2.1 d_L_law_670 (by decide) ?_
      refine sd_lald C h 24 2 (i := 0) rfl rfl (by decide) (by decide) d_L_law_671 ?_
      refine lv_iload C.1 C.2.1 d_L_law_672 (lv_at hl 0 rfl) ?_
      refine lv_i2l (v := rb.toInt64) C.1 C.2.1 d_L_law_674 rfl ?_
      refine W.lcmp C.1 C.2.1 d_L_law_675 ?_
      refine lv_if_eq (tgt := 681) C.1 C.2.1 d_L_law_676 (by decide) (fun c676 => ?_) (fun c676 => ?_)
      · refine lv_goto (tgt := 956) C.1 C.2.1 d_L_law_681 (by decide) ?_
        refine W.widen (k := 35 + t + 1) (n := 925 + 6 * t + 6) (by omega) (by omega) ?_
        exact kk (sp_back o).2.2 v9 fo9 m9 _ _ _ (ok_back ho) hm9 h (lv_sub hl [2, 3, 4, 5, 6] rfl)
      · exact absurd (sl_cmp ((hv hS).trans (congrArg Int32.toInt64 (hb9 hS).symm))) c676
  · exact absurd htc c659

set_option maxHeartbeats 4000000 in
set_option maxRecDepth 100000 in
theorem lc_told (l : Launch) (hst : l.stackTraces = false) {p : Program} {e : Env} {s : State} {m : MethodId} {below : List Frame} {meth : Method} {c : Code} {Q : State → Prop} {cw : Cond} {b L : Nat} {xs : Nat → Int32} {A : Nat → Prop} {D : va_G} {k3 : ClassId × ClassId × ClassId} (hL : L ≤ 2048) (C : CallFix p m c code 8 s #[Value.ref b] (cw :: sd_all) "StockDeskLaw") (hX : va_X b L xs s s.heap) (hbl : b < s.heap.size) (hbA : ¬ A b) (hz : sd_tz A s s.heap) {dk ox : Nat} {qa qh qs qm : Nat → Nat} (t : Nat) (ht : 4 * t + 4 ≤ L) {o : sd_S} {v : sd_HS} {fo : Nat → Int64} {mo : sd_MS} {H : Heap} {locs : List Loc} {ls : Array Slot} (ho : sS_ok o) (hm : sm_all mo o) (h : sd_w D A s (sd_t3 k3) (sd_d1 dk qa qh qs ++ sd_dA k3 qa o ++ sd_H k3 qh (sS_u o) ++ sd_H k3 qs v ++ [(ox, .inl (k3.2.2, 1, .inr (.inl fo)))] ++ sd_M k3 qm mo) H locs) (hl : lv_has ls 8 [(0, .ref b), (1, .ref dk), (2, .ref (qm 0)), (3, .ref ox), (4, .int (nI (4 * t)))])
    (kk : ∀ (o : sd_S) (v : sd_HS) (fo : Nat → Int64) (mo : sd_MS) (H : Heap) (locs : List Loc) (ls : Array Slot), sS_ok o → sm_all mo o → sd_w D A s (sd_t3 k3) (sd_d1 dk qa qh qs ++ sd_dA k3 qa o ++ sd_H k3 qh (sS_u o) ++ sd_H k3 qs v ++ [(ox, .inl (k3.2.2, 1, .inr (.inl fo)))] ++ sd_M k3 qm mo) H locs → lv_has ls 8 [(0, .ref b), (1, .ref dk), (2, .ref (qm 0)), (3, .ref ox), (4, .int (nI (4 * t)))] → W p l e room_1 s m #[Value.ref b] below meth c H locs (35 + t + 1) (925 + 6 * t + 6) Q (F0 m 956 ls [])) : W p l e room_1 s m #[Value.ref b] below meth c H locs (35 + t) (925 + 6 * t) Q (F0 m 684 ls []) := by
  refine lv_aload_n C.1 C.2.1 d_L_law_684 rfl (lv_at hl 1 rfl) ?_
  refine lv_aload_n C.1 C.2.1 d_L_law_685 rfl (lv_at hl 0 rfl) ?_
  refine lv_iload C.1 C.2.1 d_L_law_686 (lv_at hl 4 rfl) ?_
  refine lv_iconst (v := 1) C.1 C.2.1 d_L_law_688 (by decide) ?_
  refine lv_iadd C.1 C.2.1 d_L_law_689 ?_
  refine sd_top (v := .int ((nI (4 * t)) + 1)) (v' := .int (nI (4 * t + 1))) (congrArg Value.int (nI_add (4 * t) 1)) ?_
  refine sd_sld C h hX hbl hbA (i := 4 * t + 1) (by omega) (by omega) d_L_law_690 ?_
  refine lv_aload_n C.1 C.2.1 d_L_law_691 rfl (lv_at hl 3 rfl) ?_
  have h := sd_world h (ws' := ([]) ++ (sd_d1 dk qa qh qs ++ sd_dA k3 qa o ++ sd_H k3 qh (sS_u o) ++ sd_H k3 qs v ++ [(ox, .inl (k3.2.2, 1, .inr (.inl fo)))]) ++ (sd_M k3 qm mo)) (by simp only [sd_D2, sd_D3, sd_D4, List.append_assoc, List.nil_append, List.append_nil])
  refine sd_calli h (vx_runSW (As := [.ref dk, .int (xs (4 * t + 1)), .ref ox]) (rest := []) C (k_L_told l hst D k3 H.size dk qa qh qs o v ox fo (xs (4 * t + 1)) ho) (sd_cwSW 3 C.2.2.2.2 tb_462 tb_463 tb_20 tb_464 rfl rfl (by decide +kernel) ⟨Nat.le_of_ble_eq_true rfl, Nat.le_of_ble_eq_true rfl⟩) (sd_preSx h hz) rfl rfl hl.1 rfl (lv_room (Nat.le_of_ble_eq_true rfl)) d_L_law_692 ⟨(show _ ≤ 1068 by omega), (show _ ≤ 9171 by omega)⟩) (fun r w1 H locs hq h => ?_)
  obtain ⟨rfl, v9, fo9, rfl, hv⟩ := hq
  have h := sd_world h (ws' := sd_d1 dk qa qh qs ++ sd_dA k3 qa ((sp_told o (xs (4 * t + 1))).2.2) ++ sd_H k3 qh (sS_u (sp_told o (xs (4 * t + 1))).2.2) ++ sd_H k3 qs v9 ++ [(ox, .inl (k3.2.2, 1, .inr (.inl fo9)))] ++ sd_M k3 qm mo) (by simp only [sd_D2, sd_D3, sd_D4, List.append_assoc, List.nil_append, List.append_nil])
  refine lv_istore (lv' := [(5, .int (sp_cd [xIA] (sp_told o (xs (4 * t + 1))).1)), (0, .ref b), (1, .ref dk), (2, .ref (qm 0)), (3, .ref ox), (4, .int (nI (4 * t)))]) C.1 C.2.1 d_L_law_695 hl (by decide) rfl (fun ls hl => ?_)
  refine lv_aload_n C.1 C.2.1 d_L_law_697 rfl (lv_at hl 3 rfl) ?_
  refine lv_aload_n C.1 C.2.1 d_L_law_698 rfl (lv_at hl 1 rfl) ?_
  refine lv_iload C.1 C.2.1 d_L_law_699 (lv_at hl 5 rfl) ?_
  refine lv_iconst (v := 1) C.1 C.2.1 d_L_law_701 (by decide) ?_
  refine lv_iadd C.1 C.2.1 d_L_law_702 ?_
  refine sd_top (v := .int ((nI (4 * t)) + 1)) (v' := .int (nI (4 * t + 1))) (congrArg Value.int (nI_add (4 * t) 1)) ?_
  refine sd_sld C h hX hbl hbA (i := 4 * t + 1) (by omega) (by omega) d_L_law_703 ?_
  have h := sd_world h (ws' := (sd_d1 dk qa qh qs ++ sd_dA k3 qa ((sp_told o (xs (4 * t + 1))).2.2) ++ sd_H k3 qh (sS_u (sp_told o (xs (4 * t + 1))).2.2) ++ sd_H k3 qs v9 ++ [(ox, .inl (k3.2.2, 1, .inr (.inl fo9)))]) ++ (sd_M k3 qm mo) ++ ([])) (by simp only [sd_D2, sd_D3, sd_D4, List.append_assoc, List.nil_append, List.append_nil])
  refine sd_calli h (va_runV (As := [.int (xs (4 * t + 1))]) (rest := []) C (k_M_told l D k3 H.size qm mo o (xs (4 * t + 1)) ho hm) (sd_cwV 1 C.2.2.2.2 tb_639 tb_640 tb_641 tb_24 tb_642 rfl rfl (by decide +kernel) ⟨Nat.le_of_ble_eq_true rfl, Nat.le_of_ble_eq_true rfl⟩) (sd_preV h (q0 := 25) (T := T_M) (N := 19) rfl rfl) rfl rfl hl.1 rfl (lv_room (Nat.le_of_ble_eq_true rfl)) d_L_law_704 ⟨(show _ ≤ 1068 by omega), (show _ ≤ 9171 by omega)⟩) (fun rb w1 H locs hq h => ?_)
  obtain ⟨m9, rfl, hm9, htc, hb9⟩ := hq
  have h := sd_world h (ws' := sd_d1 dk qa qh qs ++ sd_dA k3 qa ((sp_told o (xs (4 * t + 1))).2.2) ++ sd_H k3 qh (sS_u (sp_told o (xs (4 * t + 1))).2.2) ++ sd_H k3 qs v9 ++ [(ox, .inl (k3.2.2, 1, .inr (.inl fo9)))] ++ sd_M k3 qm m9) (by simp only [sd_D2, sd_D3, sd_D4, List.append_assoc, List.nil_append, List.append_nil])
  refine lv_istore (lv' := [(6, .int rb), (5, .int (sp_cd [xIA] (sp_told o (xs (4 * t + 1))).1)), (0, .ref b), (1, .ref dk), (2, .ref (qm 0)), (3, .ref ox), (4, .int (nI (4 * t)))]) C.1 C.2.1 d_L_law_707 hl (by decide) rfl (fun ls hl => ?_)
  refine lv_aload_n C.1 C.2.1 d_L_law_709 rfl (lv_at hl 4 rfl) ?_
  have h := sd_world h (ws' := (sd_d1 dk qa qh qs ++ sd_dA k3 qa ((sp_told o (xs (4 * t + 1))).2.2) ++ sd_H k3 qh (sS_u (sp_told o (xs (4 * t + 1))).2.2) ++ sd_H k3 qs v9 ++ [(ox, .inl (k3.2.2, 1, .inr (.inl fo9)))]) ++ (sd_M k3 qm m9) ++ ([])) (by simp only [sd_D2, sd_D3, sd_D4, List.append_assoc, List.nil_append, List.append_nil])
  refine sd_calli h (va_runV (As := []) (rest := []) C (k_M_thrown l D k3 H.size qm m9 ) (sd_cwV 0 C.2.2.2.2 tb_568 tb_569 tb_570 tb_24 tb_571 rfl rfl (by decide +kernel) ⟨Nat.le_of_ble_eq_true rfl, Nat.le_of_ble_eq_true rfl⟩) (sd_preV h (q0 := 25) (T := T_M) (N := 19) rfl rfl) rfl rfl hl.1 rfl (lv_room (Nat.le_of_ble_eq_true rfl)) d_L_law_710 ⟨(show _ ≤ 1068 by omega), (show _ ≤ 9171 by omega)⟩) (fun r w1 H locs hq h => ?_)
  obtain ⟨rfl, rfl⟩ := hq
  have h := sd_world h (ws' := sd_d1 dk qa qh qs ++ sd_dA k3 qa ((sp_told o (xs (4 * t + 1))).2.2) ++ sd_H k3 qh (sS_u (sp_told o (xs (4 * t + 1))).2.2) ++ sd_H k3 qs v9 ++ [(ox, .inl (k3.2.2, 1, .inr (.inl fo9)))] ++ sd_M k3 qm m9) (by simp only [sd_D2, sd_D3, sd_D4, List.append_assoc, List.nil_append, List.append_nil])
  refine lv_iload C.1 C.2.1 d_L_law_713 (lv_at hl 1 rfl) ?_
  refine lv_icmp_eq (tgt := 720) C.1 C.2.1 d_L_law_715 (by decide) (fun c715 => ?_) (fun c715 => ?_)
  · refine lv_iload C.1 C.2.1 d_L_law_720 (lv_at hl 1 rfl) ?_
    refine lv_if_ne (tgt := 737) C.1 C.2.1 d_L_law_722 (by decide) (fun c722 => ?_) (fun c722 => ?_)
    · refine lv_goto (tgt := 956) C.1 C.2.1 d_L_law_737 (by decide) ?_
      refine W.widen (k := 35 + t + 1) (n := 925 + 6 * t + 6) (by omega) (by omega) ?_
      exact kk (sp_told o (xs (4 * t + 1))).2.2 v9 fo9 m9 _ _ _ (ok_told (xs (4 * t + 1)) ho) hm9 h (lv_sub hl [2, 3, 4, 5, 6] rfl)
    · have hS : (sp_told o (xs (4 * t + 1))).1 = "" := by
        rcases E_told o (xs (4 * t + 1)) with e9 | e9
        · exact e9
        · rw [e9] at c722; exact absurd c722 (by decide +kernel)
      refine lv_aload_n C.1 C.2.1 d_L_law_725 rfl (lv_at hl 5 rfl) ?_
      refine lv_iconst (v := 0) C.1 C.2.1 d_L_law_726 (by decide) ?_
      refine sd_lald C h 24 2 (i := 0) rfl rfl (by decide) (by decide) d_L_law_727 ?_
      refine lv_iload C.1 C.2.1 d_L_law_728 (lv_at hl 0 rfl) ?_
      refine lv_i2l (v := rb.toInt64) C.1 C.2.1 d_L_law_730 rfl ?_
      refine W.lcmp C.1 C.2.1 d_L_law_731 ?_
      refine lv_if_eq (tgt := 737) C.1 C.2.1 d_L_law_732 (by decide) (fun c732 => ?_) (fun c732 => ?_)
      · refine lv_goto (tgt := 956) C.1 C.2.1 d_L_law_737 (by decide) ?_
        refine W.widen (k := 35 + t + 1) (n := 925 + 6 * t + 6) (by omega) (by omega) ?_
        exact kk (sp_told o (xs (4 * t + 1))).2.2 v9 fo9 m9 _ _ _ (ok_told (xs (4 * t + 1)) ho) hm9 h (lv_sub hl [2, 3, 4, 5, 6] rfl)
      · exact absurd (sl_cmp ((hv hS).trans (congrArg Int32.toInt64 (hb9 hS).symm))) c732
  · exact absurd htc c715

set_option maxHeartbeats 4000000 in
set_option maxRecDepth 100000 in
theorem lc_worth (l : Launch) (hst : l.stackTraces = false) {p : Program} {e : Env} {s : State} {m : MethodId} {below : List Frame} {meth : Method} {c : Code} {Q : State → Prop} {cw : Cond} {b L : Nat} {xs : Nat → Int32} {A : Nat → Prop} {D : va_G} {k3 : ClassId × ClassId × ClassId} (hL : L ≤ 2048) (C : CallFix p m c code 8 s #[Value.ref b] (cw :: sd_all) "StockDeskLaw") (hX : va_X b L xs s s.heap) (hbl : b < s.heap.size) (hbA : ¬ A b) (hz : sd_tz A s s.heap) {dk ox : Nat} {qa qh qs qm : Nat → Nat} (t : Nat) (ht : 4 * t + 4 ≤ L) {o : sd_S} {v : sd_HS} {fo : Nat → Int64} {mo : sd_MS} {H : Heap} {locs : List Loc} {ls : Array Slot} (ho : sS_ok o) (hm : sm_all mo o) (h : sd_w D A s (sd_t3 k3) (sd_d1 dk qa qh qs ++ sd_dA k3 qa o ++ sd_H k3 qh (sS_u o) ++ sd_H k3 qs v ++ [(ox, .inl (k3.2.2, 1, .inr (.inl fo)))] ++ sd_M k3 qm mo) H locs) (hl : lv_has ls 8 [(0, .ref b), (1, .ref dk), (2, .ref (qm 0)), (3, .ref ox), (4, .int (nI (4 * t)))])
    (kk : ∀ (o : sd_S) (v : sd_HS) (fo : Nat → Int64) (mo : sd_MS) (H : Heap) (locs : List Loc) (ls : Array Slot), sS_ok o → sm_all mo o → sd_w D A s (sd_t3 k3) (sd_d1 dk qa qh qs ++ sd_dA k3 qa o ++ sd_H k3 qh (sS_u o) ++ sd_H k3 qs v ++ [(ox, .inl (k3.2.2, 1, .inr (.inl fo)))] ++ sd_M k3 qm mo) H locs → lv_has ls 8 [(0, .ref b), (1, .ref dk), (2, .ref (qm 0)), (3, .ref ox), (4, .int (nI (4 * t)))] → W p l e room_1 s m #[Value.ref b] below meth c H locs (35 + t + 1) (925 + 6 * t + 6) Q (F0 m 956 ls [])) : W p l e room_1 s m #[Value.ref b] below meth c H locs (35 + t) (925 + 6 * t) Q (F0 m 740 ls []) := by
  refine lv_aload_n C.1 C.2.1 d_L_law_740 rfl (lv_at hl 1 rfl) ?_
  refine lv_aload_n C.1 C.2.1 d_L_law_741 rfl (lv_at hl 0 rfl) ?_
  refine lv_iload C.1 C.2.1 d_L_law_742 (lv_at hl 4 rfl) ?_
  refine lv_iconst (v := 1) C.1 C.2.1 d_L_law_744 (by decide) ?_
  refine lv_iadd C.1 C.2.1 d_L_law_745 ?_
  refine sd_top (v := .int ((nI (4 * t)) + 1)) (v' := .int (nI (4 * t + 1))) (congrArg Value.int (nI_add (4 * t) 1)) ?_
  refine sd_sld C h hX hbl hbA (i := 4 * t + 1) (by omega) (by omega) d_L_law_746 ?_
  refine lv_aload_n C.1 C.2.1 d_L_law_747 rfl (lv_at hl 3 rfl) ?_
  have h := sd_world h (ws' := ([]) ++ (sd_d1 dk qa qh qs ++ sd_dA k3 qa o ++ sd_H k3 qh (sS_u o) ++ sd_H k3 qs v ++ [(ox, .inl (k3.2.2, 1, .inr (.inl fo)))]) ++ (sd_M k3 qm mo)) (by simp only [sd_D2, sd_D3, sd_D4, List.append_assoc, List.nil_append, List.append_nil])
  refine sd_calli h (vx_runSW (As := [.ref dk, .int (xs (4 * t + 1)), .ref ox]) (rest := []) C (k_L_worth l hst D k3 H.size dk qa qh qs o v ox fo (xs (4 * t + 1)) ho) (sd_cwSW 3 C.2.2.2.2 tb_470 tb_471 tb_20 tb_472 rfl rfl (by decide +kernel) ⟨Nat.le_of_ble_eq_true rfl, Nat.le_of_ble_eq_true rfl⟩) (sd_preSx h hz) rfl rfl hl.1 rfl (lv_room (Nat.le_of_ble_eq_true rfl)) d_L_law_748 ⟨(show _ ≤ 1068 by omega), (show _ ≤ 9171 by omega)⟩) (fun r w1 H locs hq h => ?_)
  obtain ⟨rfl, v9, fo9, rfl, hv⟩ := hq
  have h := sd_world h (ws' := sd_d1 dk qa qh qs ++ sd_dA k3 qa ((sp_worth o (xs (4 * t + 1))).2.2) ++ sd_H k3 qh (sS_u (sp_worth o (xs (4 * t + 1))).2.2) ++ sd_H k3 qs v9 ++ [(ox, .inl (k3.2.2, 1, .inr (.inl fo9)))] ++ sd_M k3 qm mo) (by simp only [sd_D2, sd_D3, sd_D4, List.append_assoc, List.nil_append, List.append_nil])
  refine lv_istore (lv' := [(5, .int (sp_cd [xIA] (sp_worth o (xs (4 * t + 1))).1)), (0, .ref b), (1, .ref dk), (2, .ref (qm 0)), (3, .ref ox), (4, .int (nI (4 * t)))]) C.1 C.2.1 d_L_law_751 hl (by decide) rfl (fun ls hl => ?_)
  refine lv_aload_n C.1 C.2.1 d_L_law_753 rfl (lv_at hl 3 rfl) ?_
  refine lv_aload_n C.1 C.2.1 d_L_law_754 rfl (lv_at hl 1 rfl) ?_
  refine lv_iload C.1 C.2.1 d_L_law_755 (lv_at hl 5 rfl) ?_
  refine lv_iconst (v := 1) C.1 C.2.1 d_L_law_757 (by decide) ?_
  refine lv_iadd C.1 C.2.1 d_L_law_758 ?_
  refine sd_top (v := .int ((nI (4 * t)) + 1)) (v' := .int (nI (4 * t + 1))) (congrArg Value.int (nI_add (4 * t) 1)) ?_
  refine sd_sld C h hX hbl hbA (i := 4 * t + 1) (by omega) (by omega) d_L_law_759 ?_
  have h := sd_world h (ws' := (sd_d1 dk qa qh qs ++ sd_dA k3 qa ((sp_worth o (xs (4 * t + 1))).2.2) ++ sd_H k3 qh (sS_u (sp_worth o (xs (4 * t + 1))).2.2) ++ sd_H k3 qs v9 ++ [(ox, .inl (k3.2.2, 1, .inr (.inl fo9)))]) ++ (sd_M k3 qm mo) ++ ([])) (by simp only [sd_D2, sd_D3, sd_D4, List.append_assoc, List.nil_append, List.append_nil])
  refine sd_calll h (va_runV (As := [.int (xs (4 * t + 1))]) (rest := []) C (k_M_worth l D k3 H.size qm mo o (xs (4 * t + 1)) ho hm) (sd_cwV 1 C.2.2.2.2 tb_643 tb_644 tb_645 tb_24 tb_646 rfl rfl (by decide +kernel) ⟨Nat.le_of_ble_eq_true rfl, Nat.le_of_ble_eq_true rfl⟩) (sd_preV h (q0 := 25) (T := T_M) (N := 19) rfl rfl) rfl rfl hl.1 rfl (lv_room (Nat.le_of_ble_eq_true rfl)) d_L_law_760 ⟨(show _ ≤ 1068 by omega), (show _ ≤ 9171 by omega)⟩) (fun rb w1 H locs hq h => ?_)
  obtain ⟨m9, rfl, hm9, htc, hb9⟩ := hq
  have h := sd_world h (ws' := sd_d1 dk qa qh qs ++ sd_dA k3 qa ((sp_worth o (xs (4 * t + 1))).2.2) ++ sd_H k3 qh (sS_u (sp_worth o (xs (4 * t + 1))).2.2) ++ sd_H k3 qs v9 ++ [(ox, .inl (k3.2.2, 1, .inr (.inl fo9)))] ++ sd_M k3 qm m9) (by simp only [sd_D2, sd_D3, sd_D4, List.append_assoc, List.nil_append, List.append_nil])
  refine lv_lstore (lv' := [(6, .long rb), (5, .int (sp_cd [xIA] (sp_worth o (xs (4 * t + 1))).1)), (0, .ref b), (1, .ref dk), (2, .ref (qm 0)), (3, .ref ox), (4, .int (nI (4 * t)))]) C.1 C.2.1 d_L_law_763 hl (by decide) rfl (fun ls hl => ?_)
  refine lv_aload_n C.1 C.2.1 d_L_law_765 rfl (lv_at hl 4 rfl) ?_
  have h := sd_world h (ws' := (sd_d1 dk qa qh qs ++ sd_dA k3 qa ((sp_worth o (xs (4 * t + 1))).2.2) ++ sd_H k3 qh (sS_u (sp_worth o (xs (4 * t + 1))).2.2) ++ sd_H k3 qs v9 ++ [(ox, .inl (k3.2.2, 1, .inr (.inl fo9)))]) ++ (sd_M k3 qm m9) ++ ([])) (by simp only [sd_D2, sd_D3, sd_D4, List.append_assoc, List.nil_append, List.append_nil])
  refine sd_calli h (va_runV (As := []) (rest := []) C (k_M_thrown l D k3 H.size qm m9 ) (sd_cwV 0 C.2.2.2.2 tb_568 tb_569 tb_570 tb_24 tb_571 rfl rfl (by decide +kernel) ⟨Nat.le_of_ble_eq_true rfl, Nat.le_of_ble_eq_true rfl⟩) (sd_preV h (q0 := 25) (T := T_M) (N := 19) rfl rfl) rfl rfl hl.1 rfl (lv_room (Nat.le_of_ble_eq_true rfl)) d_L_law_766 ⟨(show _ ≤ 1068 by omega), (show _ ≤ 9171 by omega)⟩) (fun r w1 H locs hq h => ?_)
  obtain ⟨rfl, rfl⟩ := hq
  have h := sd_world h (ws' := sd_d1 dk qa qh qs ++ sd_dA k3 qa ((sp_worth o (xs (4 * t + 1))).2.2) ++ sd_H k3 qh (sS_u (sp_worth o (xs (4 * t + 1))).2.2) ++ sd_H k3 qs v9 ++ [(ox, .inl (k3.2.2, 1, .inr (.inl fo9)))] ++ sd_M k3 qm m9) (by simp only [sd_D2, sd_D3, sd_D4, List.append_assoc, List.nil_append, List.append_nil])
  refine lv_iload C.1 C.2.1 d_L_law_769 (lv_at hl 1 rfl) ?_
  refine lv_icmp_eq (tgt := 776) C.1 C.2.1 d_L_law_771 (by decide) (fun c771 => ?_) (fun c771 => ?_)
  · refine lv_iload C.1 C.2.1 d_L_law_776 (lv_at hl 1 rfl) ?_
    refine lv_if_ne (tgt := 792) C.1 C.2.1 d_L_law_778 (by decide) (fun c778 => ?_) (fun c778 => ?_)
    · refine lv_goto (tgt := 956) C.1 C.2.1 d_L_law_792 (by decide) ?_
      refine W.widen (k := 35 + t + 1) (n := 925 + 6 * t + 6) (by omega) (by omega) ?_
      exact kk (sp_worth o (xs (4 * t + 1))).2.2 v9 fo9 m9 _ _ _ (ok_worth (xs (4 * t + 1)) ho) hm9 h (lv_sub hl [2, 3, 4, 5, 6] rfl)
    · have hS : (sp_worth o (xs (4 * t + 1))).1 = "" := by
        rcases E_worth o (xs (4 * t + 1)) with e9 | e9
        · exact e9
        · rw [e9] at c778; exact absurd c778 (by decide +kernel)
      refine lv_aload_n C.1 C.2.1 d_L_law_781 rfl (lv_at hl 5 rfl) ?_
      refine lv_iconst (v := 0) C.1 C.2.1 d_L_law_782 (by decide) ?_
      refine sd_lald C h 24 2 (i := 0) rfl rfl (by decide) (by decide) d_L_law_783 ?_
      refine lv_lload C.1 C.2.1 d_L_law_784 (lv_at hl 0 rfl) ?_
      refine W.lcmp C.1 C.2.1 d_L_law_786 ?_
      refine lv_if_eq (tgt := 792) C.1 C.2.1 d_L_law_787 (by decide) (fun c787 => ?_) (fun c787 => ?_)
      · refine lv_goto (tgt := 956) C.1 C.2.1 d_L_law_792 (by decide) ?_
        refine W.widen (k := 35 + t + 1) (n := 925 + 6 * t + 6) (by omega) (by omega) ?_
        exact kk (sp_worth o (xs (4 * t + 1))).2.2 v9 fo9 m9 _ _ _ (ok_worth (xs (4 * t + 1)) ho) hm9 h (lv_sub hl [2, 3, 4, 5, 6] rfl)
      · exact absurd (sl_cmp ((hv hS).trans (hb9 hS).symm)) c787
  · exact absurd htc c771

set_option maxHeartbeats 4000000 in
set_option maxRecDepth 100000 in
theorem lc_uses (l : Launch) (hst : l.stackTraces = false) {p : Program} {e : Env} {s : State} {m : MethodId} {below : List Frame} {meth : Method} {c : Code} {Q : State → Prop} {cw : Cond} {b L : Nat} {xs : Nat → Int32} {A : Nat → Prop} {D : va_G} {k3 : ClassId × ClassId × ClassId} (hL : L ≤ 2048) (C : CallFix p m c code 8 s #[Value.ref b] (cw :: sd_all) "StockDeskLaw") (hX : va_X b L xs s s.heap) (hbl : b < s.heap.size) (hbA : ¬ A b) (hz : sd_tz A s s.heap) {dk ox : Nat} {qa qh qs qm : Nat → Nat} (t : Nat) (ht : 4 * t + 4 ≤ L) {o : sd_S} {v : sd_HS} {fo : Nat → Int64} {mo : sd_MS} {H : Heap} {locs : List Loc} {ls : Array Slot} (ho : sS_ok o) (hm : sm_all mo o) (h : sd_w D A s (sd_t3 k3) (sd_d1 dk qa qh qs ++ sd_dA k3 qa o ++ sd_H k3 qh (sS_u o) ++ sd_H k3 qs v ++ [(ox, .inl (k3.2.2, 1, .inr (.inl fo)))] ++ sd_M k3 qm mo) H locs) (hl : lv_has ls 8 [(0, .ref b), (1, .ref dk), (2, .ref (qm 0)), (3, .ref ox), (4, .int (nI (4 * t)))])
    (kk : ∀ (o : sd_S) (v : sd_HS) (fo : Nat → Int64) (mo : sd_MS) (H : Heap) (locs : List Loc) (ls : Array Slot), sS_ok o → sm_all mo o → sd_w D A s (sd_t3 k3) (sd_d1 dk qa qh qs ++ sd_dA k3 qa o ++ sd_H k3 qh (sS_u o) ++ sd_H k3 qs v ++ [(ox, .inl (k3.2.2, 1, .inr (.inl fo)))] ++ sd_M k3 qm mo) H locs → lv_has ls 8 [(0, .ref b), (1, .ref dk), (2, .ref (qm 0)), (3, .ref ox), (4, .int (nI (4 * t)))] → W p l e room_1 s m #[Value.ref b] below meth c H locs (35 + t + 1) (925 + 6 * t + 6) Q (F0 m 956 ls [])) : W p l e room_1 s m #[Value.ref b] below meth c H locs (35 + t) (925 + 6 * t) Q (F0 m 795 ls []) := by
  refine lv_aload_n C.1 C.2.1 d_L_law_795 rfl (lv_at hl 1 rfl) ?_
  refine lv_aload_n C.1 C.2.1 d_L_law_796 rfl (lv_at hl 0 rfl) ?_
  refine lv_iload C.1 C.2.1 d_L_law_797 (lv_at hl 4 rfl) ?_
  refine lv_iconst (v := 1) C.1 C.2.1 d_L_law_799 (by decide) ?_
  refine lv_iadd C.1 C.2.1 d_L_law_800 ?_
  refine sd_top (v := .int ((nI (4 * t)) + 1)) (v' := .int (nI (4 * t + 1))) (congrArg Value.int (nI_add (4 * t) 1)) ?_
  refine sd_sld C h hX hbl hbA (i := 4 * t + 1) (by omega) (by omega) d_L_law_801 ?_
  refine lv_aload_n C.1 C.2.1 d_L_law_802 rfl (lv_at hl 0 rfl) ?_
  refine lv_iload C.1 C.2.1 d_L_law_803 (lv_at hl 4 rfl) ?_
  refine lv_iconst (v := 2) C.1 C.2.1 d_L_law_805 (by decide) ?_
  refine lv_iadd C.1 C.2.1 d_L_law_806 ?_
  refine sd_top (v := .int ((nI (4 * t)) + 2)) (v' := .int (nI (4 * t + 2))) (congrArg Value.int (nI_add (4 * t) 2)) ?_
  refine sd_sld C h hX hbl hbA (i := 4 * t + 2) (by omega) (by omega) d_L_law_807 ?_
  refine lv_aload_n C.1 C.2.1 d_L_law_808 rfl (lv_at hl 3 rfl) ?_
  have h := sd_world h (ws' := ([]) ++ (sd_d1 dk qa qh qs ++ sd_dA k3 qa o ++ sd_H k3 qh (sS_u o) ++ sd_H k3 qs v ++ [(ox, .inl (k3.2.2, 1, .inr (.inl fo)))]) ++ (sd_M k3 qm mo)) (by simp only [sd_D2, sd_D3, sd_D4, List.append_assoc, List.nil_append, List.append_nil])
  refine sd_calli h (vx_runSW (As := [.ref dk, .int (xs (4 * t + 1)), .int (xs (4 * t + 2)), .ref ox]) (rest := []) C (k_L_uses l hst D k3 H.size dk qa qh qs o v ox fo (xs (4 * t + 1)) (xs (4 * t + 2)) ho) (sd_cwSW 4 C.2.2.2.2 tb_481 tb_482 tb_20 tb_483 rfl rfl (by decide +kernel) ⟨Nat.le_of_ble_eq_true rfl, Nat.le_of_ble_eq_true rfl⟩) (sd_preSx h hz) rfl rfl hl.1 rfl (lv_room (Nat.le_of_ble_eq_true rfl)) d_L_law_809 ⟨(show _ ≤ 1068 by omega), (show _ ≤ 9171 by omega)⟩) (fun r w1 H locs hq h => ?_)
  obtain ⟨rfl, v9, fo9, rfl, hv⟩ := hq
  have h := sd_world h (ws' := sd_d1 dk qa qh qs ++ sd_dA k3 qa ((sp_uses o (xs (4 * t + 1)) (xs (4 * t + 2))).2.2) ++ sd_H k3 qh (sS_u (sp_uses o (xs (4 * t + 1)) (xs (4 * t + 2))).2.2) ++ sd_H k3 qs v9 ++ [(ox, .inl (k3.2.2, 1, .inr (.inl fo9)))] ++ sd_M k3 qm mo) (by simp only [sd_D2, sd_D3, sd_D4, List.append_assoc, List.nil_append, List.append_nil])
  refine lv_istore (lv' := [(5, .int (sp_cd [xNS, xIA] (sp_uses o (xs (4 * t + 1)) (xs (4 * t + 2))).1)), (0, .ref b), (1, .ref dk), (2, .ref (qm 0)), (3, .ref ox), (4, .int (nI (4 * t)))]) C.1 C.2.1 d_L_law_812 hl (by decide) rfl (fun ls hl => ?_)
  refine lv_aload_n C.1 C.2.1 d_L_law_814 rfl (lv_at hl 3 rfl) ?_
  refine lv_aload_n C.1 C.2.1 d_L_law_815 rfl (lv_at hl 1 rfl) ?_
  refine lv_iload C.1 C.2.1 d_L_law_816 (lv_at hl 5 rfl) ?_
  refine lv_iconst (v := 1) C.1 C.2.1 d_L_law_818 (by decide) ?_
  refine lv_iadd C.1 C.2.1 d_L_law_819 ?_
  refine sd_top (v := .int ((nI (4 * t)) + 1)) (v' := .int (nI (4 * t + 1))) (congrArg Value.int (nI_add (4 * t) 1)) ?_
  refine sd_sld C h hX hbl hbA (i := 4 * t + 1) (by omega) (by omega) d_L_law_820 ?_
  refine lv_aload_n C.1 C.2.1 d_L_law_821 rfl (lv_at hl 1 rfl) ?_
  refine lv_iload C.1 C.2.1 d_L_law_822 (lv_at hl 5 rfl) ?_
  refine lv_iconst (v := 2) C.1 C.2.1 d_L_law_824 (by decide) ?_
  refine lv_iadd C.1 C.2.1 d_L_law_825 ?_
  refine sd_top (v := .int ((nI (4 * t)) + 2)) (v' := .int (nI (4 * t + 2))) (congrArg Value.int (nI_add (4 * t) 2)) ?_
  refine sd_sld C h hX hbl hbA (i := 4 * t + 2) (by omega) (by omega) d_L_law_826 ?_
  have h := sd_world h (ws' := (sd_d1 dk qa qh qs ++ sd_dA k3 qa ((sp_uses o (xs (4 * t + 1)) (xs (4 * t + 2))).2.2) ++ sd_H k3 qh (sS_u (sp_uses o (xs (4 * t + 1)) (xs (4 * t + 2))).2.2) ++ sd_H k3 qs v9 ++ [(ox, .inl (k3.2.2, 1, .inr (.inl fo9)))]) ++ (sd_M k3 qm mo) ++ ([])) (by simp only [sd_D2, sd_D3, sd_D4, List.append_assoc, List.nil_append, List.append_nil])
  refine sd_calli h (va_runV (As := [.int (xs (4 * t + 1)), .int (xs (4 * t + 2))]) (rest := []) C (k_M_uses l D k3 H.size qm mo o (xs (4 * t + 1)) (xs (4 * t + 2)) ho hm) (sd_cwV 2 C.2.2.2.2 tb_647 tb_648 tb_649 tb_24 tb_650 rfl rfl (by decide +kernel) ⟨Nat.le_of_ble_eq_true rfl, Nat.le_of_ble_eq_true rfl⟩) (sd_preV h (q0 := 25) (T := T_M) (N := 19) rfl rfl) rfl rfl hl.1 rfl (lv_room (Nat.le_of_ble_eq_true rfl)) d_L_law_827 ⟨(show _ ≤ 1068 by omega), (show _ ≤ 9171 by omega)⟩) (fun rb w1 H locs hq h => ?_)
  obtain ⟨m9, rfl, hm9, htc, hb9⟩ := hq
  have h := sd_world h (ws' := sd_d1 dk qa qh qs ++ sd_dA k3 qa ((sp_uses o (xs (4 * t + 1)) (xs (4 * t + 2))).2.2) ++ sd_H k3 qh (sS_u (sp_uses o (xs (4 * t + 1)) (xs (4 * t + 2))).2.2) ++ sd_H k3 qs v9 ++ [(ox, .inl (k3.2.2, 1, .inr (.inl fo9)))] ++ sd_M k3 qm m9) (by simp only [sd_D2, sd_D3, sd_D4, List.append_assoc, List.nil_append, List.append_nil])
  refine lv_istore (lv' := [(6, .int rb), (5, .int (sp_cd [xNS, xIA] (sp_uses o (xs (4 * t + 1)) (xs (4 * t + 2))).1)), (0, .ref b), (1, .ref dk), (2, .ref (qm 0)), (3, .ref ox), (4, .int (nI (4 * t)))]) C.1 C.2.1 d_L_law_830 hl (by decide) rfl (fun ls hl => ?_)
  refine lv_aload_n C.1 C.2.1 d_L_law_832 rfl (lv_at hl 4 rfl) ?_
  have h := sd_world h (ws' := (sd_d1 dk qa qh qs ++ sd_dA k3 qa ((sp_uses o (xs (4 * t + 1)) (xs (4 * t + 2))).2.2) ++ sd_H k3 qh (sS_u (sp_uses o (xs (4 * t + 1)) (xs (4 * t + 2))).2.2) ++ sd_H k3 qs v9 ++ [(ox, .inl (k3.2.2, 1, .inr (.inl fo9)))]) ++ (sd_M k3 qm m9) ++ ([])) (by simp only [sd_D2, sd_D3, sd_D4, List.append_assoc, List.nil_append, List.append_nil])
  refine sd_calli h (va_runV (As := []) (rest := []) C (k_M_thrown l D k3 H.size qm m9 ) (sd_cwV 0 C.2.2.2.2 tb_568 tb_569 tb_570 tb_24 tb_571 rfl rfl (by decide +kernel) ⟨Nat.le_of_ble_eq_true rfl, Nat.le_of_ble_eq_true rfl⟩) (sd_preV h (q0 := 25) (T := T_M) (N := 19) rfl rfl) rfl rfl hl.1 rfl (lv_room (Nat.le_of_ble_eq_true rfl)) d_L_law_833 ⟨(show _ ≤ 1068 by omega), (show _ ≤ 9171 by omega)⟩) (fun r w1 H locs hq h => ?_)
  obtain ⟨rfl, rfl⟩ := hq
  have h := sd_world h (ws' := sd_d1 dk qa qh qs ++ sd_dA k3 qa ((sp_uses o (xs (4 * t + 1)) (xs (4 * t + 2))).2.2) ++ sd_H k3 qh (sS_u (sp_uses o (xs (4 * t + 1)) (xs (4 * t + 2))).2.2) ++ sd_H k3 qs v9 ++ [(ox, .inl (k3.2.2, 1, .inr (.inl fo9)))] ++ sd_M k3 qm m9) (by simp only [sd_D2, sd_D3, sd_D4, List.append_assoc, List.nil_append, List.append_nil])
  refine lv_iload C.1 C.2.1 d_L_law_836 (lv_at hl 1 rfl) ?_
  refine lv_icmp_eq (tgt := 843) C.1 C.2.1 d_L_law_838 (by decide) (fun c838 => ?_) (fun c838 => ?_)
  · refine lv_iload C.1 C.2.1 d_L_law_843 (lv_at hl 1 rfl) ?_
    refine lv_if_ne (tgt := 860) C.1 C.2.1 d_L_law_845 (by decide) (fun c845 => ?_) (fun c845 => ?_)
    · refine lv_goto (tgt := 956) C.1 C.2.1 d_L_law_860 (by decide) ?_
      refine W.widen (k := 35 + t + 1) (n := 925 + 6 * t + 6) (by omega) (by omega) ?_
      exact kk (sp_uses o (xs (4 * t + 1)) (xs (4 * t + 2))).2.2 v9 fo9 m9 _ _ _ (ok_uses (xs (4 * t + 1)) (xs (4 * t + 2)) ho) hm9 h (lv_sub hl [2, 3, 4, 5, 6] rfl)
    · have hS : (sp_uses o (xs (4 * t + 1)) (xs (4 * t + 2))).1 = "" := by
        rcases E_uses o (xs (4 * t + 1)) (xs (4 * t + 2)) with e9 | e9 | e9
        · exact e9
        · rw [e9] at c845; exact absurd c845 (by decide +kernel)
        · rw [e9] at c845; exact absurd c845 (by decide +kernel)
      refine lv_aload_n C.1 C.2.1 d_L_law_848 rfl (lv_at hl 5 rfl) ?_
      refine lv_iconst (v := 0) C.1 C.2.1 d_L_law_849 (by decide) ?_
      refine sd_lald C h 24 2 (i := 0) rfl rfl (by decide) (by decide) d_L_law_850 ?_
      refine lv_iload C.1 C.2.1 d_L_law_851 (lv_at hl 0 rfl) ?_
      refine lv_i2l (v := rb.toInt64) C.1 C.2.1 d_L_law_853 rfl ?_
      refine W.lcmp C.1 C.2.1 d_L_law_854 ?_
      refine lv_if_eq (tgt := 860) C.1 C.2.1 d_L_law_855 (by decide) (fun c855 => ?_) (fun c855 => ?_)
      · refine lv_goto (tgt := 956) C.1 C.2.1 d_L_law_860 (by decide) ?_
        refine W.widen (k := 35 + t + 1) (n := 925 + 6 * t + 6) (by omega) (by omega) ?_
        exact kk (sp_uses o (xs (4 * t + 1)) (xs (4 * t + 2))).2.2 v9 fo9 m9 _ _ _ (ok_uses (xs (4 * t + 1)) (xs (4 * t + 2)) ho) hm9 h (lv_sub hl [2, 3, 4, 5, 6] rfl)
      · exact absurd (sl_cmp ((hv hS).trans (congrArg Int32.toInt64 (hb9 hS).symm))) c855
  · exact absurd htc c838

set_option maxHeartbeats 4000000 in
set_option maxRecDepth 100000 in
theorem lc_numbers (l : Launch) (hst : l.stackTraces = false) {p : Program} {e : Env} {s : State} {m : MethodId} {below : List Frame} {meth : Method} {c : Code} {Q : State → Prop} {cw : Cond} {b L : Nat} {xs : Nat → Int32} {A : Nat → Prop} {D : va_G} {k3 : ClassId × ClassId × ClassId} (hL : L ≤ 2048) (C : CallFix p m c code 8 s #[Value.ref b] (cw :: sd_all) "StockDeskLaw") (hX : va_X b L xs s s.heap) (hbl : b < s.heap.size) (hbA : ¬ A b) (hz : sd_tz A s s.heap) {dk ox : Nat} {qa qh qs qm : Nat → Nat} (t : Nat) (ht : 4 * t + 4 ≤ L) {o : sd_S} {v : sd_HS} {fo : Nat → Int64} {mo : sd_MS} {H : Heap} {locs : List Loc} {ls : Array Slot} (ho : sS_ok o) (hm : sm_all mo o) (h : sd_w D A s (sd_t3 k3) (sd_d1 dk qa qh qs ++ sd_dA k3 qa o ++ sd_H k3 qh (sS_u o) ++ sd_H k3 qs v ++ [(ox, .inl (k3.2.2, 1, .inr (.inl fo)))] ++ sd_M k3 qm mo) H locs) (hl : lv_has ls 8 [(0, .ref b), (1, .ref dk), (2, .ref (qm 0)), (3, .ref ox), (4, .int (nI (4 * t)))])
    (kk : ∀ (o : sd_S) (v : sd_HS) (fo : Nat → Int64) (mo : sd_MS) (H : Heap) (locs : List Loc) (ls : Array Slot), sS_ok o → sm_all mo o → sd_w D A s (sd_t3 k3) (sd_d1 dk qa qh qs ++ sd_dA k3 qa o ++ sd_H k3 qh (sS_u o) ++ sd_H k3 qs v ++ [(ox, .inl (k3.2.2, 1, .inr (.inl fo)))] ++ sd_M k3 qm mo) H locs → lv_has ls 8 [(0, .ref b), (1, .ref dk), (2, .ref (qm 0)), (3, .ref ox), (4, .int (nI (4 * t)))] → W p l e room_1 s m #[Value.ref b] below meth c H locs (35 + t + 1) (925 + 6 * t + 6) Q (F0 m 956 ls [])) : W p l e room_1 s m #[Value.ref b] below meth c H locs (35 + t) (925 + 6 * t) Q (F0 m 863 ls []) := by
  refine lv_aload_n C.1 C.2.1 d_L_law_863 rfl (lv_at hl 1 rfl) ?_
  refine lv_aload_n C.1 C.2.1 d_L_law_864 rfl (lv_at hl 0 rfl) ?_
  refine lv_iload C.1 C.2.1 d_L_law_865 (lv_at hl 4 rfl) ?_
  refine lv_iconst (v := 1) C.1 C.2.1 d_L_law_867 (by decide) ?_
  refine lv_iadd C.1 C.2.1 d_L_law_868 ?_
  refine sd_top (v := .int ((nI (4 * t)) + 1)) (v' := .int (nI (4 * t + 1))) (congrArg Value.int (nI_add (4 * t) 1)) ?_
  refine sd_sld C h hX hbl hbA (i := 4 * t + 1) (by omega) (by omega) d_L_law_869 ?_
  refine lv_aload_n C.1 C.2.1 d_L_law_870 rfl (lv_at hl 0 rfl) ?_
  refine lv_iload C.1 C.2.1 d_L_law_871 (lv_at hl 4 rfl) ?_
  refine lv_iconst (v := 2) C.1 C.2.1 d_L_law_873 (by decide) ?_
  refine lv_iadd C.1 C.2.1 d_L_law_874 ?_
  refine sd_top (v := .int ((nI (4 * t)) + 2)) (v' := .int (nI (4 * t + 2))) (congrArg Value.int (nI_add (4 * t) 2)) ?_
  refine sd_sld C h hX hbl hbA (i := 4 * t + 2) (by omega) (by omega) d_L_law_875 ?_
  refine lv_aload_n C.1 C.2.1 d_L_law_876 rfl (lv_at hl 3 rfl) ?_
  have h := sd_world h (ws' := ([]) ++ (sd_d1 dk qa qh qs ++ sd_dA k3 qa o ++ sd_H k3 qh (sS_u o) ++ sd_H k3 qs v ++ [(ox, .inl (k3.2.2, 1, .inr (.inl fo)))]) ++ (sd_M k3 qm mo)) (by simp only [sd_D2, sd_D3, sd_D4, List.append_assoc, List.nil_append, List.append_nil])
  refine sd_calli h (vx_runSW (As := [.ref dk, .int (xs (4 * t + 1)), .int (xs (4 * t + 2)), .ref ox]) (rest := []) C (k_L_numbers l hst D k3 H.size dk qa qh qs o v ox fo (xs (4 * t + 1)) (xs (4 * t + 2)) ho) (sd_cwSW 4 C.2.2.2.2 tb_492 tb_493 tb_20 tb_494 rfl rfl (by decide +kernel) ⟨Nat.le_of_ble_eq_true rfl, Nat.le_of_ble_eq_true rfl⟩) (sd_preSx h hz) rfl rfl hl.1 rfl (lv_room (Nat.le_of_ble_eq_true rfl)) d_L_law_877 ⟨(show _ ≤ 1068 by omega), (show _ ≤ 9171 by omega)⟩) (fun r w1 H locs hq h => ?_)
  obtain ⟨rfl, v9, fo9, rfl, hv⟩ := hq
  have h := sd_world h (ws' := sd_d1 dk qa qh qs ++ sd_dA k3 qa ((sp_numbers o (xs (4 * t + 1)) (xs (4 * t + 2))).2.2) ++ sd_H k3 qh (sS_u (sp_numbers o (xs (4 * t + 1)) (xs (4 * t + 2))).2.2) ++ sd_H k3 qs v9 ++ [(ox, .inl (k3.2.2, 1, .inr (.inl fo9)))] ++ sd_M k3 qm mo) (by simp only [sd_D2, sd_D3, sd_D4, List.append_assoc, List.nil_append, List.append_nil])
  refine lv_istore (lv' := [(5, .int (sp_cd [xIA] (sp_numbers o (xs (4 * t + 1)) (xs (4 * t + 2))).1)), (0, .ref b), (1, .ref dk), (2, .ref (qm 0)), (3, .ref ox), (4, .int (nI (4 * t)))]) C.1 C.2.1 d_L_law_880 hl (by decide) rfl (fun ls hl => ?_)
  refine lv_aload_n C.1 C.2.1 d_L_law_882 rfl (lv_at hl 3 rfl) ?_
  refine lv_aload_n C.1 C.2.1 d_L_law_883 rfl (lv_at hl 1 rfl) ?_
  refine lv_iload C.1 C.2.1 d_L_law_884 (lv_at hl 5 rfl) ?_
  refine lv_iconst (v := 1) C.1 C.2.1 d_L_law_886 (by decide) ?_
  refine lv_iadd C.1 C.2.1 d_L_law_887 ?_
  refine sd_top (v := .int ((nI (4 * t)) + 1)) (v' := .int (nI (4 * t + 1))) (congrArg Value.int (nI_add (4 * t) 1)) ?_
  refine sd_sld C h hX hbl hbA (i := 4 * t + 1) (by omega) (by omega) d_L_law_888 ?_
  refine lv_aload_n C.1 C.2.1 d_L_law_889 rfl (lv_at hl 1 rfl) ?_
  refine lv_iload C.1 C.2.1 d_L_law_890 (lv_at hl 5 rfl) ?_
  refine lv_iconst (v := 2) C.1 C.2.1 d_L_law_892 (by decide) ?_
  refine lv_iadd C.1 C.2.1 d_L_law_893 ?_
  refine sd_top (v := .int ((nI (4 * t)) + 2)) (v' := .int (nI (4 * t + 2))) (congrArg Value.int (nI_add (4 * t) 2)) ?_
  refine sd_sld C h hX hbl hbA (i := 4 * t + 2) (by omega) (by omega) d_L_law_894 ?_
  have h := sd_world h (ws' := (sd_d1 dk qa qh qs ++ sd_dA k3 qa ((sp_numbers o (xs (4 * t + 1)) (xs (4 * t + 2))).2.2) ++ sd_H k3 qh (sS_u (sp_numbers o (xs (4 * t + 1)) (xs (4 * t + 2))).2.2) ++ sd_H k3 qs v9 ++ [(ox, .inl (k3.2.2, 1, .inr (.inl fo9)))]) ++ (sd_M k3 qm mo) ++ ([])) (by simp only [sd_D2, sd_D3, sd_D4, List.append_assoc, List.nil_append, List.append_nil])
  refine sd_calli h (va_runV (As := [.int (xs (4 * t + 1)), .int (xs (4 * t + 2))]) (rest := []) C (k_M_numbers l D k3 H.size qm mo o (xs (4 * t + 1)) (xs (4 * t + 2)) ho hm) (sd_cwV 2 C.2.2.2.2 tb_651 tb_652 tb_653 tb_24 tb_654 rfl rfl (by decide +kernel) ⟨Nat.le_of_ble_eq_true rfl, Nat.le_of_ble_eq_true rfl⟩) (sd_preV h (q0 := 25) (T := T_M) (N := 19) rfl rfl) rfl rfl hl.1 rfl (lv_room (Nat.le_of_ble_eq_true rfl)) d_L_law_895 ⟨(show _ ≤ 1068 by omega), (show _ ≤ 9171 by omega)⟩) (fun rb w1 H locs hq h => ?_)
  obtain ⟨m9, rfl, hm9, htc, hb9⟩ := hq
  have h := sd_world h (ws' := sd_d1 dk qa qh qs ++ sd_dA k3 qa ((sp_numbers o (xs (4 * t + 1)) (xs (4 * t + 2))).2.2) ++ sd_H k3 qh (sS_u (sp_numbers o (xs (4 * t + 1)) (xs (4 * t + 2))).2.2) ++ sd_H k3 qs v9 ++ [(ox, .inl (k3.2.2, 1, .inr (.inl fo9)))] ++ sd_M k3 qm m9) (by simp only [sd_D2, sd_D3, sd_D4, List.append_assoc, List.nil_append, List.append_nil])
  refine lv_istore (lv' := [(6, .int rb), (5, .int (sp_cd [xIA] (sp_numbers o (xs (4 * t + 1)) (xs (4 * t + 2))).1)), (0, .ref b), (1, .ref dk), (2, .ref (qm 0)), (3, .ref ox), (4, .int (nI (4 * t)))]) C.1 C.2.1 d_L_law_898 hl (by decide) rfl (fun ls hl => ?_)
  refine lv_aload_n C.1 C.2.1 d_L_law_900 rfl (lv_at hl 4 rfl) ?_
  have h := sd_world h (ws' := (sd_d1 dk qa qh qs ++ sd_dA k3 qa ((sp_numbers o (xs (4 * t + 1)) (xs (4 * t + 2))).2.2) ++ sd_H k3 qh (sS_u (sp_numbers o (xs (4 * t + 1)) (xs (4 * t + 2))).2.2) ++ sd_H k3 qs v9 ++ [(ox, .inl (k3.2.2, 1, .inr (.inl fo9)))]) ++ (sd_M k3 qm m9) ++ ([])) (by simp only [sd_D2, sd_D3, sd_D4, List.append_assoc, List.nil_append, List.append_nil])
  refine sd_calli h (va_runV (As := []) (rest := []) C (k_M_thrown l D k3 H.size qm m9 ) (sd_cwV 0 C.2.2.2.2 tb_568 tb_569 tb_570 tb_24 tb_571 rfl rfl (by decide +kernel) ⟨Nat.le_of_ble_eq_true rfl, Nat.le_of_ble_eq_true rfl⟩) (sd_preV h (q0 := 25) (T := T_M) (N := 19) rfl rfl) rfl rfl hl.1 rfl (lv_room (Nat.le_of_ble_eq_true rfl)) d_L_law_901 ⟨(show _ ≤ 1068 by omega), (show _ ≤ 9171 by omega)⟩) (fun r w1 H locs hq h => ?_)
  obtain ⟨rfl, rfl⟩ := hq
  have h := sd_world h (ws' := sd_d1 dk qa qh qs ++ sd_dA k3 qa ((sp_numbers o (xs (4 * t + 1)) (xs (4 * t + 2))).2.2) ++ sd_H k3 qh (sS_u (sp_numbers o (xs (4 * t + 1)) (xs (4 * t + 2))).2.2) ++ sd_H k3 qs v9 ++ [(ox, .inl (k3.2.2, 1, .inr (.inl fo9)))] ++ sd_M k3 qm m9) (by simp only [sd_D2, sd_D3, sd_D4, List.append_assoc, List.nil_append, List.append_nil])
  refine lv_iload C.1 C.2.1 d_L_law_904 (lv_at hl 1 rfl) ?_
  refine lv_icmp_eq (tgt := 911) C.1 C.2.1 d_L_law_906 (by decide) (fun c906 => ?_) (fun c906 => ?_)
  · refine lv_iload C.1 C.2.1 d_L_law_911 (lv_at hl 1 rfl) ?_
    refine lv_if_ne (tgt := 928) C.1 C.2.1 d_L_law_913 (by decide) (fun c913 => ?_) (fun c913 => ?_)
    · refine lv_goto (tgt := 956) C.1 C.2.1 d_L_law_928 (by decide) ?_
      refine W.widen (k := 35 + t + 1) (n := 925 + 6 * t + 6) (by omega) (by omega) ?_
      exact kk (sp_numbers o (xs (4 * t + 1)) (xs (4 * t + 2))).2.2 v9 fo9 m9 _ _ _ (ok_numbers (xs (4 * t + 1)) (xs (4 * t + 2)) ho) hm9 h (lv_sub hl [2, 3, 4, 5, 6] rfl)
    · have hS : (sp_numbers o (xs (4 * t + 1)) (xs (4 * t + 2))).1 = "" := by
        rcases E_numbers o (xs (4 * t + 1)) (xs (4 * t + 2)) with e9 | e9
        · exact e9
        · rw [e9] at c913; exact absurd c913 (by decide +kernel)
      refine lv_aload_n C.1 C.2.1 d_L_law_916 rfl (lv_at hl 5 rfl) ?_
      refine lv_iconst (v := 0) C.1 C.2.1 d_L_law_917 (by decide) ?_
      refine sd_lald C h 24 2 (i := 0) rfl rfl (by decide) (by decide) d_L_law_918 ?_
      refine lv_iload C.1 C.2.1 d_L_law_919 (lv_at hl 0 rfl) ?_
      refine lv_i2l (v := rb.toInt64) C.1 C.2.1 d_L_law_921 rfl ?_
      refine W.lcmp C.1 C.2.1 d_L_law_922 ?_
      refine lv_if_eq (tgt := 928) C.1 C.2.1 d_L_law_923 (by decide) (fun c923 => ?_) (fun c923 => ?_)
      · refine lv_goto (tgt := 956) C.1 C.2.1 d_L_law_928 (by decide) ?_
        refine W.widen (k := 35 + t + 1) (n := 925 + 6 * t + 6) (by omega) (by omega) ?_
        exact kk (sp_numbers o (xs (4 * t + 1)) (xs (4 * t + 2))).2.2 v9 fo9 m9 _ _ _ (ok_numbers (xs (4 * t + 1)) (xs (4 * t + 2)) ho) hm9 h (lv_sub hl [2, 3, 4, 5, 6] rfl)
      · exact absurd (sl_cmp ((hv hS).trans (congrArg Int32.toInt64 (hb9 hS).symm))) c923
  · exact absurd htc c906

set_option maxHeartbeats 4000000 in
set_option maxRecDepth 100000 in
theorem lc_count (l : Launch) (hst : l.stackTraces = false) {p : Program} {e : Env} {s : State} {m : MethodId} {below : List Frame} {meth : Method} {c : Code} {Q : State → Prop} {cw : Cond} {b L : Nat} {xs : Nat → Int32} {A : Nat → Prop} {D : va_G} {k3 : ClassId × ClassId × ClassId} (hL : L ≤ 2048) (C : CallFix p m c code 8 s #[Value.ref b] (cw :: sd_all) "StockDeskLaw") (hX : va_X b L xs s s.heap) (hbl : b < s.heap.size) (hbA : ¬ A b) (hz : sd_tz A s s.heap) {dk ox : Nat} {qa qh qs qm : Nat → Nat} (t : Nat) (ht : 4 * t + 4 ≤ L) {o : sd_S} {v : sd_HS} {fo : Nat → Int64} {mo : sd_MS} {H : Heap} {locs : List Loc} {ls : Array Slot} (ho : sS_ok o) (hm : sm_all mo o) (h : sd_w D A s (sd_t3 k3) (sd_d1 dk qa qh qs ++ sd_dA k3 qa o ++ sd_H k3 qh (sS_u o) ++ sd_H k3 qs v ++ [(ox, .inl (k3.2.2, 1, .inr (.inl fo)))] ++ sd_M k3 qm mo) H locs) (hl : lv_has ls 8 [(0, .ref b), (1, .ref dk), (2, .ref (qm 0)), (3, .ref ox), (4, .int (nI (4 * t)))])
    (kk : ∀ (o : sd_S) (v : sd_HS) (fo : Nat → Int64) (mo : sd_MS) (H : Heap) (locs : List Loc) (ls : Array Slot), sS_ok o → sm_all mo o → sd_w D A s (sd_t3 k3) (sd_d1 dk qa qh qs ++ sd_dA k3 qa o ++ sd_H k3 qh (sS_u o) ++ sd_H k3 qs v ++ [(ox, .inl (k3.2.2, 1, .inr (.inl fo)))] ++ sd_M k3 qm mo) H locs → lv_has ls 8 [(0, .ref b), (1, .ref dk), (2, .ref (qm 0)), (3, .ref ox), (4, .int (nI (4 * t)))] → W p l e room_1 s m #[Value.ref b] below meth c H locs (35 + t + 1) (925 + 6 * t + 6) Q (F0 m 956 ls [])) : W p l e room_1 s m #[Value.ref b] below meth c H locs (35 + t) (925 + 6 * t) Q (F0 m 931 ls []) := by
  refine lv_aload_n C.1 C.2.1 d_L_law_931 rfl (lv_at hl 1 rfl) ?_
  refine lv_aload_n C.1 C.2.1 d_L_law_932 rfl (lv_at hl 0 rfl) ?_
  refine lv_iload C.1 C.2.1 d_L_law_933 (lv_at hl 4 rfl) ?_
  refine lv_iconst (v := 1) C.1 C.2.1 d_L_law_935 (by decide) ?_
  refine lv_iadd C.1 C.2.1 d_L_law_936 ?_
  refine sd_top (v := .int ((nI (4 * t)) + 1)) (v' := .int (nI (4 * t + 1))) (congrArg Value.int (nI_add (4 * t) 1)) ?_
  refine sd_sld C h hX hbl hbA (i := 4 * t + 1) (by omega) (by omega) d_L_law_937 ?_
  have h := sd_world h (ws' := ([]) ++ (sd_d1 dk qa qh qs ++ sd_dA k3 qa o ++ sd_H k3 qh (sS_u o)) ++ (sd_H k3 qs v ++ [(ox, .inl (k3.2.2, 1, .inr (.inl fo)))] ++ sd_M k3 qm mo)) (by simp only [sd_D2, sd_D3, sd_D4, List.append_assoc, List.nil_append, List.append_nil])
  refine sd_calli h (va_runV (As := [.int (xs (4 * t + 1))]) (rest := []) C (k_D_count l D k3 H.size dk qa qh qs o (xs (4 * t + 1)) ho) (sd_cwV 1 C.2.2.2.2 tb_157 tb_158 tb_159 tb_21 tb_160 rfl rfl (by decide +kernel) ⟨Nat.le_of_ble_eq_true rfl, Nat.le_of_ble_eq_true rfl⟩) (sd_preVx h hz (q0 := 0) (T := T_D) (N := 3) rfl rfl) rfl rfl hl.1 rfl (lv_room (Nat.le_of_ble_eq_true rfl)) d_L_law_938 ⟨(show _ ≤ 1068 by omega), (show _ ≤ 9171 by omega)⟩) (fun r w1 H locs hq h => ?_)
  obtain ⟨rfl, rfl⟩ := hq
  have h := sd_world h (ws' := sd_d1 dk qa qh qs ++ sd_dA k3 qa o ++ sd_H k3 qh (sS_u o) ++ sd_H k3 qs v ++ [(ox, .inl (k3.2.2, 1, .inr (.inl fo)))] ++ sd_M k3 qm mo) (by simp only [sd_D2, sd_D3, sd_D4, List.append_assoc, List.nil_append, List.append_nil])
  refine lv_aload_n C.1 C.2.1 d_L_law_941 rfl (lv_at hl 2 rfl) ?_
  refine lv_aload_n C.1 C.2.1 d_L_law_942 rfl (lv_at hl 0 rfl) ?_
  refine lv_iload C.1 C.2.1 d_L_law_943 (lv_at hl 4 rfl) ?_
  refine lv_iconst (v := 1) C.1 C.2.1 d_L_law_945 (by decide) ?_
  refine lv_iadd C.1 C.2.1 d_L_law_946 ?_
  refine sd_top (v := .int ((nI (4 * t)) + 1)) (v' := .int (nI (4 * t + 1))) (congrArg Value.int (nI_add (4 * t) 1)) ?_
  refine sd_sld C h hX hbl hbA (i := 4 * t + 1) (by omega) (by omega) d_L_law_947 ?_
  have h := sd_world h (ws' := (sd_d1 dk qa qh qs ++ sd_dA k3 qa o ++ sd_H k3 qh (sS_u o) ++ sd_H k3 qs v ++ [(ox, .inl (k3.2.2, 1, .inr (.inl fo)))]) ++ (sd_M k3 qm mo) ++ ([])) (by simp only [sd_D2, sd_D3, sd_D4, List.append_assoc, List.nil_append, List.append_nil])
  refine sd_calli h (va_runV (As := [.int (xs (4 * t + 1))]) (rest := [.int (sp_count o (xs (4 * t + 1)))]) C (k_M_count l D k3 H.size qm mo o (xs (4 * t + 1)) ho hm) (sd_cwV 1 C.2.2.2.2 tb_659 tb_660 tb_661 tb_24 tb_662 rfl rfl (by decide +kernel) ⟨Nat.le_of_ble_eq_true rfl, Nat.le_of_ble_eq_true rfl⟩) (sd_preV h (q0 := 25) (T := T_M) (N := 19) rfl rfl) rfl rfl hl.1 rfl (lv_room (Nat.le_of_ble_eq_true rfl)) d_L_law_948 ⟨(show _ ≤ 1068 by omega), (show _ ≤ 9171 by omega)⟩) (fun r w1 H locs hq h => ?_)
  obtain ⟨rfl, m9, rfl, hm9⟩ := hq
  have h := sd_world h (ws' := sd_d1 dk qa qh qs ++ sd_dA k3 qa o ++ sd_H k3 qh (sS_u o) ++ sd_H k3 qs v ++ [(ox, .inl (k3.2.2, 1, .inr (.inl fo)))] ++ sd_M k3 qm m9) (by simp only [sd_D2, sd_D3, sd_D4, List.append_assoc, List.nil_append, List.append_nil])
  refine lv_icmp_eq (tgt := 956) C.1 C.2.1 d_L_law_951 (by decide) (fun c951 => ?_) (fun c951 => ?_)
  · refine W.widen (k := 35 + t + 1) (n := 925 + 6 * t + 6) (by omega) (by omega) ?_
    exact kk o v fo m9 _ _ _ ho hm9 h (lv_sub hl [0, 1, 2, 3, 4] rfl)
  · exact absurd rfl c951
