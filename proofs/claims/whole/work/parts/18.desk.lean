/-! the desk's cells: itself, its row, its house, the second house -/
def sd_d1 (dk : Nat) (qa qh qs : Nat → Nat) : va_W := [(dk, .inr (2, [.ref (qa 0), .ref (qh 0), .ref (qs 0)]))]
def sd_dA (k3 : ClassId × ClassId × ClassId) (qa : Nat → Nat) (o : sd_S) : va_W := sd_A k3 qa (nI o.1) o.2.1 o.2.2.1 o.2.2.2.1 o.2.2.2.2
def sd_D2 (k3 : ClassId × ClassId × ClassId) (dk : Nat) (qa qh qs : Nat → Nat) (o : sd_S) : va_W := sd_d1 dk qa qh qs ++ sd_dA k3 qa o
def sd_D3 (k3 : ClassId × ClassId × ClassId) (dk : Nat) (qa qh qs : Nat → Nat) (o : sd_S) : va_W := sd_d1 dk qa qh qs ++ sd_dA k3 qa o ++ sd_H k3 qh (sS_u o)
def sd_D4 (k3 : ClassId × ClassId × ClassId) (dk : Nat) (qa qh qs : Nat → Nat) (o : sd_S) (v : sd_HS) : va_W := sd_d1 dk qa qh qs ++ sd_dA k3 qa o ++ sd_H k3 qh (sS_u o) ++ sd_H k3 qs v
/-- a number in range is a Nat -/
theorem sp_in {x b : Int32} (n : Nat) (hb : b = nI n) (hn : n < 2 ^ 31) (h : ¬ sp_bad x b) : ∃ k, k < n ∧ x = nI k := by
  have h0 : ¬ x < 0 := fun z => h (Or.inl z)
  have h1 : x < b := Classical.byContradiction fun z => h (Or.inr z)
  obtain ⟨j, hj, e⟩ := nI_of h0
  subst e
  rw [hb] at h1
  exact ⟨j, (nI_ltI hj hn).mp h1, rfl⟩
theorem sp_hasj {u : sd_HS} {k : Nat} {y : Int32} (h : hd_has u k y) : ∃ j, 1 ≤ j ∧ j ≤ 9 ∧ y = nI j := sd_rng h.1 h.2.1
theorem sp_room {n : Nat} (h : n ≤ 60) (c : nI n < 60) : n < 60 := (nI_ltI (a := n) (b := 60) (by omega) (by decide)).mp c
theorem sp_noroom {n : Nat} (h : n ≤ 60) (c : ¬ nI n < 60) : ¬ n < 60 := fun z => c ((nI_ltI (a := n) (b := 60) (by omega) (by decide)).mpr z)
set_option maxHeartbeats 4000000 in
set_option maxRecDepth 100000 in
theorem k_D_requireBelow (l : Launch) (D : va_G) (k3 : ClassId × ClassId × ClassId) (sz : Nat) (x : Int32) (b : Int32) (hb : ¬ (sp_bad x b)) : Met l y_D_requireBelow (sd_ws y_D_requireBelow c_D_requireBelow 2 none) ({ frames := 0, cells := 0, slots := 0, locals := 0 }) (sd_Pc D (sd_t3 k3) [.int x, .int b] sz ([])) (sd_Qv D (sd_t3 k3) (va_A ([]) sz) (fun w => w = [])) 0 0 (va_A ([]) sz) := by
  refine sd_met (cc := c_D_requireBelow) (maxL := 2) (ret := none) (by decide) (Nat.le_of_ble_eq_true rfl) (fun p e s m below meth c C hr hlk hnm hsz h ls hl => ?_)
  generalize va_A ([]) sz = A at h ⊢
  have hl : lv_has ls 2 [(0, .int x), (1, .int b)] := hl
  generalize hH : s.heap = H at h ⊢
  refine lv_iload_n C.1 C.2.1 d_D_requireBelow_0 rfl (lv_at hl 0 rfl) ?_
  refine lv_if_lt (tgt := 9) C.1 C.2.1 d_D_requireBelow_1 (by decide) (fun c1 => ?_) (fun c1 => ?_)
  · exact absurd (Or.inl c1) hb
  · refine lv_iload_n C.1 C.2.1 d_D_requireBelow_4 rfl (lv_at hl 0 rfl) ?_
    refine lv_iload_n C.1 C.2.1 d_D_requireBelow_5 rfl (lv_at hl 1 rfl) ?_
    refine lv_icmp_lt (tgt := 19) C.1 C.2.1 d_D_requireBelow_6 (by decide) (fun c6 => ?_) (fun c6 => ?_)
    · exact sd_vret C hr hlk h rfl d_D_requireBelow_19
    · exact absurd (Or.inr c6) hb

set_option maxHeartbeats 4000000 in
set_option maxRecDepth 100000 in
theorem kx_D_requireBelow (l : Launch) (hst : l.stackTraces = false) (D : va_G) (k3 : ClassId × ClassId × ClassId) (sz : Nat) (x : Int32) (b : Int32) (hb : sp_bad x b) : vx_Met l y_D_requireBelow (sd_ws y_D_requireBelow c_D_requireBelow 2 none) ({ frames := 6, cells := 1, slots := 6, locals := 82 }) (sd_Px D (sd_t3 k3) [.int x, .int b] sz ([])) (sd_Qv D (sd_t3 k3) (va_A ([]) sz) (fun w => False)) (sd_X D (sd_t3 k3) (va_A ([]) sz) (fun E w => E = xIA ∧ w = [])) 1 6 (va_A ([]) sz) := by
  refine sd_metx (cc := c_D_requireBelow) (maxL := 2) (ret := none) (by decide) (Nat.le_of_ble_eq_true rfl) (fun p e s m below meth c C hr hlk htb hz h ls hl => ?_)
  generalize va_A ([]) sz = A at h hz ⊢
  have hl : lv_has ls 2 [(0, .int x), (1, .int b)] := hl
  generalize hH : s.heap = H at h ⊢
  refine lv_iload_n C.1 C.2.1 d_D_requireBelow_0 rfl (lv_at hl 0 rfl) ?_
  refine lv_if_lt (tgt := 9) C.1 C.2.1 d_D_requireBelow_1 (by decide) (fun c1 => ?_) (fun c1 => ?_)
  · exact sd_throw (names := ["java/lang/RuntimeException", "java/lang/Exception"]) (cls := xIA) (text := "a number is outside its range") (ik := 110) (is := 144) (ic := 114) C hst hlk htb hz h hl.1 (by decide +kernel) (by decide +kernel) tb_191 tb_28 (by decide +kernel) at_xIA_114 gd_xIA_110_114 d_D_requireBelow_9 d_D_requireBelow_12 d_D_requireBelow_13 d_D_requireBelow_15 d_D_requireBelow_18 (by decide) (Nat.le_of_ble_eq_true rfl) (by decide) (by decide) ⟨rfl, rfl⟩ (by decide) (by decide)
  · refine lv_iload_n C.1 C.2.1 d_D_requireBelow_4 rfl (lv_at hl 0 rfl) ?_
    refine lv_iload_n C.1 C.2.1 d_D_requireBelow_5 rfl (lv_at hl 1 rfl) ?_
    refine lv_icmp_lt (tgt := 19) C.1 C.2.1 d_D_requireBelow_6 (by decide) (fun c6 => ?_) (fun c6 => ?_)
    · exact hb.elim (fun z => absurd z c1) (fun z => absurd c6 z)
    · exact sd_throw (names := ["java/lang/RuntimeException", "java/lang/Exception"]) (cls := xIA) (text := "a number is outside its range") (ik := 110) (is := 144) (ic := 114) C hst hlk htb hz h hl.1 (by decide +kernel) (by decide +kernel) tb_191 tb_28 (by decide +kernel) at_xIA_114 gd_xIA_110_114 d_D_requireBelow_9 d_D_requireBelow_12 d_D_requireBelow_13 d_D_requireBelow_15 d_D_requireBelow_18 (by decide) (Nat.le_of_ble_eq_true rfl) (by decide) (by decide) ⟨rfl, rfl⟩ (by decide) (by decide)

set_option maxHeartbeats 4000000 in
set_option maxRecDepth 100000 in
theorem k_D_requireKind (l : Launch) (D : va_G) (k3 : ClassId × ClassId × ClassId) (sz : Nat) (x : Int32) (hb : ¬ (sp_bad x 5)) : Met l y_D_requireKind (sd_ws y_D_requireKind c_D_requireKind 1 none) ({ frames := 1, cells := 0, slots := 0, locals := 21 }) (sd_Pc D (sd_t3 k3) [.int x] sz ([])) (sd_Qv D (sd_t3 k3) (va_A ([]) sz) (fun w => w = [])) 0 0 (va_A ([]) sz) := by
  refine sd_met (cc := c_D_requireKind) (maxL := 1) (ret := none) (by decide) (Nat.le_of_ble_eq_true rfl) (fun p e s m below meth c C hr hlk hnm hsz h ls hl => ?_)
  generalize va_A ([]) sz = A at h ⊢
  have hl : lv_has ls 1 [(0, .int x)] := hl
  generalize hH : s.heap = H at h ⊢
  refine lv_iload_n C.1 C.2.1 d_D_requireKind_0 rfl (lv_at hl 0 rfl) ?_
  refine lv_iconst (v := 5) C.1 C.2.1 d_D_requireKind_1 (by decide) ?_
  have h := sd_world h (ws' := ([]) ++ ([]) ++ ([])) (by simp only [sd_D2, sd_D3, sd_D4, List.append_assoc, List.nil_append, List.append_nil])
  refine sd_callv h (va_runS (As := [.int x, .int 5]) (rest := []) C (k_D_requireBelow l D k3 H.size x 5 hb) (sd_cwS 2 C.2.2.2.2 tb_188 tb_189 tb_21 tb_190 rfl rfl (by decide +kernel) ⟨Nat.le_of_ble_eq_true rfl, Nat.le_of_ble_eq_true rfl⟩) (sd_preS h) rfl rfl hl.1 rfl (lv_room (Nat.le_of_ble_eq_true rfl)) d_D_requireKind_2 ⟨Nat.le_of_ble_eq_true rfl, Nat.le_of_ble_eq_true rfl⟩) (fun w1 H locs hq h => ?_)
  obtain rfl := hq
  have h := sd_world h (ws' := []) (by simp only [sd_D2, sd_D3, sd_D4, List.append_assoc, List.nil_append, List.append_nil])
  exact sd_vret C hr hlk h rfl d_D_requireKind_5

set_option maxHeartbeats 4000000 in
set_option maxRecDepth 100000 in
theorem kx_D_requireKind (l : Launch) (hst : l.stackTraces = false) (D : va_G) (k3 : ClassId × ClassId × ClassId) (sz : Nat) (x : Int32) (hb : sp_bad x 5) : vx_Met l y_D_requireKind (sd_ws y_D_requireKind c_D_requireKind 1 none) ({ frames := 7, cells := 1, slots := 6, locals := 103 }) (sd_Px D (sd_t3 k3) [.int x] sz ([])) (sd_Qv D (sd_t3 k3) (va_A ([]) sz) (fun w => False)) (sd_X D (sd_t3 k3) (va_A ([]) sz) (fun E w => E = xIA ∧ w = [])) 1 6 (va_A ([]) sz) := by
  refine sd_metx (cc := c_D_requireKind) (maxL := 1) (ret := none) (by decide) (Nat.le_of_ble_eq_true rfl) (fun p e s m below meth c C hr hlk htb hz h ls hl => ?_)
  generalize va_A ([]) sz = A at h hz ⊢
  have hl : lv_has ls 1 [(0, .int x)] := hl
  generalize hH : s.heap = H at h ⊢
  refine lv_iload_n C.1 C.2.1 d_D_requireKind_0 rfl (lv_at hl 0 rfl) ?_
  refine lv_iconst (v := 5) C.1 C.2.1 d_D_requireKind_1 (by decide) ?_
  have h := sd_world h (ws' := ([]) ++ ([]) ++ ([])) (by simp only [sd_D2, sd_D3, sd_D4, List.append_assoc, List.nil_append, List.append_nil])
  refine sd_xcallv h (vx_runS (As := [.int x, .int 5]) (rest := []) C (kx_D_requireBelow l hst D k3 H.size x 5 hb) (sd_cwS 2 C.2.2.2.2 tb_188 tb_189 tb_21 tb_190 rfl rfl (by decide +kernel) ⟨Nat.le_of_ble_eq_true rfl, Nat.le_of_ble_eq_true rfl⟩) (sd_preSx h hz) rfl rfl hl.1 rfl (lv_room (Nat.le_of_ble_eq_true rfl)) d_D_requireKind_2 ⟨Nat.le_of_ble_eq_true rfl, Nat.le_of_ble_eq_true rfl⟩) (fun E ce q9 w1 H locs hq h hce hcv hcl => ?_) (fun w1 H locs hq h => hq.elim)
  obtain ⟨rfl, rfl⟩ := hq
  have h := sd_world h (ws' := []) (by simp only [sd_D2, sd_D3, sd_D4, List.append_assoc, List.nil_append, List.append_nil])
  exact sd_on hlk htb h ⟨rfl, rfl⟩ hce hcv hcl (by decide) (by decide)

set_option maxHeartbeats 4000000 in
set_option maxRecDepth 100000 in
theorem k_D_requirePart (l : Launch) (D : va_G) (k3 : ClassId × ClassId × ClassId) (sz : Nat) (x : Int32) (hb : ¬ (sp_bad x 6)) : Met l y_D_requirePart (sd_ws y_D_requirePart c_D_requirePart 1 none) ({ frames := 1, cells := 0, slots := 0, locals := 21 }) (sd_Pc D (sd_t3 k3) [.int x] sz ([])) (sd_Qv D (sd_t3 k3) (va_A ([]) sz) (fun w => w = [])) 0 0 (va_A ([]) sz) := by
  refine sd_met (cc := c_D_requirePart) (maxL := 1) (ret := none) (by decide) (Nat.le_of_ble_eq_true rfl) (fun p e s m below meth c C hr hlk hnm hsz h ls hl => ?_)
  generalize va_A ([]) sz = A at h ⊢
  have hl : lv_has ls 1 [(0, .int x)] := hl
  generalize hH : s.heap = H at h ⊢
  refine lv_iload_n C.1 C.2.1 d_D_requirePart_0 rfl (lv_at hl 0 rfl) ?_
  refine lv_bipush (v := 6) C.1 C.2.1 d_D_requirePart_1 (by decide) ?_
  have h := sd_world h (ws' := ([]) ++ ([]) ++ ([])) (by simp only [sd_D2, sd_D3, sd_D4, List.append_assoc, List.nil_append, List.append_nil])
  refine sd_callv h (va_runS (As := [.int x, .int 6]) (rest := []) C (k_D_requireBelow l D k3 H.size x 6 hb) (sd_cwS 2 C.2.2.2.2 tb_188 tb_189 tb_21 tb_190 rfl rfl (by decide +kernel) ⟨Nat.le_of_ble_eq_true rfl, Nat.le_of_ble_eq_true rfl⟩) (sd_preS h) rfl rfl hl.1 rfl (lv_room (Nat.le_of_ble_eq_true rfl)) d_D_requirePart_3 ⟨Nat.le_of_ble_eq_true rfl, Nat.le_of_ble_eq_true rfl⟩) (fun w1 H locs hq h => ?_)
  obtain rfl := hq
  have h := sd_world h (ws' := []) (by simp only [sd_D2, sd_D3, sd_D4, List.append_assoc, List.nil_append, List.append_nil])
  exact sd_vret C hr hlk h rfl d_D_requirePart_6

set_option maxHeartbeats 4000000 in
set_option maxRecDepth 100000 in
theorem kx_D_requirePart (l : Launch) (hst : l.stackTraces = false) (D : va_G) (k3 : ClassId × ClassId × ClassId) (sz : Nat) (x : Int32) (hb : sp_bad x 6) : vx_Met l y_D_requirePart (sd_ws y_D_requirePart c_D_requirePart 1 none) ({ frames := 7, cells := 1, slots := 6, locals := 103 }) (sd_Px D (sd_t3 k3) [.int x] sz ([])) (sd_Qv D (sd_t3 k3) (va_A ([]) sz) (fun w => False)) (sd_X D (sd_t3 k3) (va_A ([]) sz) (fun E w => E = xIA ∧ w = [])) 1 6 (va_A ([]) sz) := by
  refine sd_metx (cc := c_D_requirePart) (maxL := 1) (ret := none) (by decide) (Nat.le_of_ble_eq_true rfl) (fun p e s m below meth c C hr hlk htb hz h ls hl => ?_)
  generalize va_A ([]) sz = A at h hz ⊢
  have hl : lv_has ls 1 [(0, .int x)] := hl
  generalize hH : s.heap = H at h ⊢
  refine lv_iload_n C.1 C.2.1 d_D_requirePart_0 rfl (lv_at hl 0 rfl) ?_
  refine lv_bipush (v := 6) C.1 C.2.1 d_D_requirePart_1 (by decide) ?_
  have h := sd_world h (ws' := ([]) ++ ([]) ++ ([])) (by simp only [sd_D2, sd_D3, sd_D4, List.append_assoc, List.nil_append, List.append_nil])
  refine sd_xcallv h (vx_runS (As := [.int x, .int 6]) (rest := []) C (kx_D_requireBelow l hst D k3 H.size x 6 hb) (sd_cwS 2 C.2.2.2.2 tb_188 tb_189 tb_21 tb_190 rfl rfl (by decide +kernel) ⟨Nat.le_of_ble_eq_true rfl, Nat.le_of_ble_eq_true rfl⟩) (sd_preSx h hz) rfl rfl hl.1 rfl (lv_room (Nat.le_of_ble_eq_true rfl)) d_D_requirePart_3 ⟨Nat.le_of_ble_eq_true rfl, Nat.le_of_ble_eq_true rfl⟩) (fun E ce q9 w1 H locs hq h hce hcv hcl => ?_) (fun w1 H locs hq h => hq.elim)
  obtain ⟨rfl, rfl⟩ := hq
  have h := sd_world h (ws' := []) (by simp only [sd_D2, sd_D3, sd_D4, List.append_assoc, List.nil_append, List.append_nil])
  exact sd_on hlk htb h ⟨rfl, rfl⟩ hce hcv hcl (by decide) (by decide)

set_option maxHeartbeats 4000000 in
set_option maxRecDepth 100000 in
theorem k_D_requireAmount (l : Launch) (D : va_G) (k3 : ClassId × ClassId × ClassId) (sz : Nat) (x : Int32) (hb : ¬ (sp_amt x)) : Met l y_D_requireAmount (sd_ws y_D_requireAmount c_D_requireAmount 1 none) ({ frames := 0, cells := 0, slots := 0, locals := 0 }) (sd_Pc D (sd_t3 k3) [.int x] sz ([])) (sd_Qv D (sd_t3 k3) (va_A ([]) sz) (fun w => w = [])) 0 0 (va_A ([]) sz) := by
  refine sd_met (cc := c_D_requireAmount) (maxL := 1) (ret := none) (by decide) (Nat.le_of_ble_eq_true rfl) (fun p e s m below meth c C hr hlk hnm hsz h ls hl => ?_)
  generalize va_A ([]) sz = A at h ⊢
  have hl : lv_has ls 1 [(0, .int x)] := hl
  generalize hH : s.heap = H at h ⊢
  refine lv_iload_n C.1 C.2.1 d_D_requireAmount_0 rfl (lv_at hl 0 rfl) ?_
  refine lv_ldc (v := -1000000) C.1 C.2.1 C.2.2.2.1 (C.2.2.2.2 _ (List.mem_cons_of_mem _ tb_389)) d_D_requireAmount_1 ?_
  refine lv_icmp_lt (tgt := 12) C.1 C.2.1 d_D_requireAmount_3 (by decide) (fun c3 => ?_) (fun c3 => ?_)
  · exact absurd (Or.inl c3) hb
  · refine lv_iload_n C.1 C.2.1 d_D_requireAmount_6 rfl (lv_at hl 0 rfl) ?_
    refine lv_ldc (v := 1000000) C.1 C.2.1 C.2.2.2.1 (C.2.2.2.2 _ (List.mem_cons_of_mem _ tb_390)) d_D_requireAmount_7 ?_
    refine lv_icmp_le (tgt := 22) C.1 C.2.1 d_D_requireAmount_9 (by decide) (fun c9 => ?_) (fun c9 => ?_)
    · exact sd_vret C hr hlk h rfl d_D_requireAmount_22
    · exact absurd (Or.inr (Int32.not_le.mp c9)) hb

set_option maxHeartbeats 4000000 in
set_option maxRecDepth 100000 in
theorem kx_D_requireAmount (l : Launch) (hst : l.stackTraces = false) (D : va_G) (k3 : ClassId × ClassId × ClassId) (sz : Nat) (x : Int32) (hb : sp_amt x) : vx_Met l y_D_requireAmount (sd_ws y_D_requireAmount c_D_requireAmount 1 none) ({ frames := 6, cells := 1, slots := 6, locals := 82 }) (sd_Px D (sd_t3 k3) [.int x] sz ([])) (sd_Qv D (sd_t3 k3) (va_A ([]) sz) (fun w => False)) (sd_X D (sd_t3 k3) (va_A ([]) sz) (fun E w => E = xIA ∧ w = [])) 1 6 (va_A ([]) sz) := by
  refine sd_metx (cc := c_D_requireAmount) (maxL := 1) (ret := none) (by decide) (Nat.le_of_ble_eq_true rfl) (fun p e s m below meth c C hr hlk htb hz h ls hl => ?_)
  generalize va_A ([]) sz = A at h hz ⊢
  have hl : lv_has ls 1 [(0, .int x)] := hl
  generalize hH : s.heap = H at h ⊢
  refine lv_iload_n C.1 C.2.1 d_D_requireAmount_0 rfl (lv_at hl 0 rfl) ?_
  refine lv_ldc (v := -1000000) C.1 C.2.1 C.2.2.2.1 (C.2.2.2.2 _ (List.mem_cons_of_mem _ tb_389)) d_D_requireAmount_1 ?_
  refine lv_icmp_lt (tgt := 12) C.1 C.2.1 d_D_requireAmount_3 (by decide) (fun c3 => ?_) (fun c3 => ?_)
  · exact sd_throw (names := ["java/lang/RuntimeException", "java/lang/Exception"]) (cls := xIA) (text := "an amount is outside its range") (ik := 110) (is := 148) (ic := 114) C hst hlk htb hz h hl.1 (by decide +kernel) (by decide +kernel) tb_191 tb_28 (by decide +kernel) at_xIA_114 gd_xIA_110_114 d_D_requireAmount_12 d_D_requireAmount_15 d_D_requireAmount_16 d_D_requireAmount_18 d_D_requireAmount_21 (by decide) (Nat.le_of_ble_eq_true rfl) (by decide) (by decide) ⟨rfl, rfl⟩ (by decide) (by decide)
  · refine lv_iload_n C.1 C.2.1 d_D_requireAmount_6 rfl (lv_at hl 0 rfl) ?_
    refine lv_ldc (v := 1000000) C.1 C.2.1 C.2.2.2.1 (C.2.2.2.2 _ (List.mem_cons_of_mem _ tb_390)) d_D_requireAmount_7 ?_
    refine lv_icmp_le (tgt := 22) C.1 C.2.1 d_D_requireAmount_9 (by decide) (fun c9 => ?_) (fun c9 => ?_)
    · exact hb.elim (fun z => absurd z c3) (fun z => absurd c9 (Int32.not_le.mpr z))
    · exact sd_throw (names := ["java/lang/RuntimeException", "java/lang/Exception"]) (cls := xIA) (text := "an amount is outside its range") (ik := 110) (is := 148) (ic := 114) C hst hlk htb hz h hl.1 (by decide +kernel) (by decide +kernel) tb_191 tb_28 (by decide +kernel) at_xIA_114 gd_xIA_110_114 d_D_requireAmount_12 d_D_requireAmount_15 d_D_requireAmount_16 d_D_requireAmount_18 d_D_requireAmount_21 (by decide) (Nat.le_of_ble_eq_true rfl) (by decide) (by decide) ⟨rfl, rfl⟩ (by decide) (by decide)

set_option maxHeartbeats 4000000 in
set_option maxRecDepth 100000 in
theorem k_D_requireThing (l : Launch) (D : va_G) (k3 : ClassId × ClassId × ClassId) (sz : Nat) (q : Nat → Nat) (u : sd_HS) (k : Nat) (y : Int32) (hk : k < 5) (hb : ¬ (¬ hd_has u k y)) : Met l y_D_requireThing (sd_ws y_D_requireThing c_D_requireThing 3 none) ({ frames := 2, cells := 0, slots := 0, locals := 43 }) (sd_Pc D (sd_t3 k3) [.ref (q 0), .int (nI k), .int y] sz (sd_H k3 q u)) (sd_Qv D (sd_t3 k3) (va_A (sd_H k3 q u) sz) (fun w => w = sd_H k3 q u)) 0 0 (va_A (sd_H k3 q u) sz) := by
  refine sd_met (cc := c_D_requireThing) (maxL := 3) (ret := none) (by decide) (Nat.le_of_ble_eq_true rfl) (fun p e s m below meth c C hr hlk hnm hsz h ls hl => ?_)
  generalize va_A (sd_H k3 q u) sz = A at h ⊢
  have hl : lv_has ls 3 [(0, .ref (q 0)), (1, .int (nI k)), (2, .int y)] := hl
  generalize hH : s.heap = H at h ⊢
  refine lv_aload_n C.1 C.2.1 d_D_requireThing_0 rfl (lv_at hl 0 rfl) ?_
  refine lv_iload_n C.1 C.2.1 d_D_requireThing_1 rfl (lv_at hl 1 rfl) ?_
  refine lv_iload_n C.1 C.2.1 d_D_requireThing_2 rfl (lv_at hl 2 rfl) ?_
  have h := sd_world h (ws' := ([]) ++ (sd_H k3 q u) ++ ([])) (by simp only [sd_D2, sd_D3, sd_D4, List.append_assoc, List.nil_append, List.append_nil])
  refine sd_calli h (va_runV (As := [.int (nI k), .int y]) (rest := []) C (k_H_hasThing l D k3 H.size q u k y hk) (sd_cwV 2 C.2.2.2.2 tb_349 tb_350 tb_351 tb_23 tb_352 rfl rfl (by decide +kernel) ⟨Nat.le_of_ble_eq_true rfl, Nat.le_of_ble_eq_true rfl⟩) (sd_preV h (q0 := 0) (T := T_H) (N := 16) rfl rfl) rfl rfl hl.1 rfl (lv_room (Nat.le_of_ble_eq_true rfl)) d_D_requireThing_3 ⟨Nat.le_of_ble_eq_true rfl, Nat.le_of_ble_eq_true rfl⟩) (fun r w1 H locs hq h => ?_)
  obtain ⟨hr9, rfl⟩ := hq
  have h := sd_world h (ws' := sd_H k3 q u) (by simp only [sd_D2, sd_D3, sd_D4, List.append_assoc, List.nil_append, List.append_nil])
  refine lv_if_ne (tgt := 19) C.1 C.2.1 d_D_requireThing_6 (by decide) (fun c6 => ?_) (fun c6 => ?_)
  · exact sd_vret C hr hlk h rfl d_D_requireThing_19
  · exact absurd (by rcases hr9 with ⟨e, _⟩ | ⟨_, z⟩; exact absurd (e.symm.trans c6) (by decide); exact z) hb

set_option maxHeartbeats 4000000 in
set_option maxRecDepth 100000 in
theorem kx_D_requireThing (l : Launch) (hst : l.stackTraces = false) (D : va_G) (k3 : ClassId × ClassId × ClassId) (sz : Nat) (q : Nat → Nat) (u : sd_HS) (k : Nat) (y : Int32) (hk : k < 5) (hb : ¬ hd_has u k y) : vx_Met l y_D_requireThing (sd_ws y_D_requireThing c_D_requireThing 3 none) ({ frames := 6, cells := 1, slots := 6, locals := 82 }) (sd_Px D (sd_t3 k3) [.ref (q 0), .int (nI k), .int y] sz (sd_H k3 q u)) (sd_Qv D (sd_t3 k3) (va_A (sd_H k3 q u) sz) (fun w => False)) (sd_X D (sd_t3 k3) (va_A (sd_H k3 q u) sz) (fun E w => E = xNS ∧ w = sd_H k3 q u)) 1 6 (va_A (sd_H k3 q u) sz) := by
  refine sd_metx (cc := c_D_requireThing) (maxL := 3) (ret := none) (by decide) (Nat.le_of_ble_eq_true rfl) (fun p e s m below meth c C hr hlk htb hz h ls hl => ?_)
  generalize va_A (sd_H k3 q u) sz = A at h hz ⊢
  have hl : lv_has ls 3 [(0, .ref (q 0)), (1, .int (nI k)), (2, .int y)] := hl
  generalize hH : s.heap = H at h ⊢
  refine lv_aload_n C.1 C.2.1 d_D_requireThing_0 rfl (lv_at hl 0 rfl) ?_
  refine lv_iload_n C.1 C.2.1 d_D_requireThing_1 rfl (lv_at hl 1 rfl) ?_
  refine lv_iload_n C.1 C.2.1 d_D_requireThing_2 rfl (lv_at hl 2 rfl) ?_
  have h := sd_world h (ws' := ([]) ++ (sd_H k3 q u) ++ ([])) (by simp only [sd_D2, sd_D3, sd_D4, List.append_assoc, List.nil_append, List.append_nil])
  refine sd_calli h (va_runV (As := [.int (nI k), .int y]) (rest := []) C (k_H_hasThing l D k3 H.size q u k y hk) (sd_cwV 2 C.2.2.2.2 tb_349 tb_350 tb_351 tb_23 tb_352 rfl rfl (by decide +kernel) ⟨Nat.le_of_ble_eq_true rfl, Nat.le_of_ble_eq_true rfl⟩) (sd_preV h (q0 := 0) (T := T_H) (N := 16) rfl rfl) rfl rfl hl.1 rfl (lv_room (Nat.le_of_ble_eq_true rfl)) d_D_requireThing_3 ⟨Nat.le_of_ble_eq_true rfl, Nat.le_of_ble_eq_true rfl⟩) (fun r w1 H locs hq h => ?_)
  obtain ⟨hr9, rfl⟩ := hq
  have h := sd_world h (ws' := sd_H k3 q u) (by simp only [sd_D2, sd_D3, sd_D4, List.append_assoc, List.nil_append, List.append_nil])
  refine lv_if_ne (tgt := 19) C.1 C.2.1 d_D_requireThing_6 (by decide) (fun c6 => ?_) (fun c6 => ?_)
  · exact absurd (by rcases hr9 with ⟨_, z⟩ | ⟨e, _⟩; exact z; exact absurd e c6) hb
  · exact sd_throwX (rx := prog_13_method_4_code) (ix := 13) (Y0 := "java/lang/RuntimeException") (r0 := ["java/lang/Exception"]) (cls := xNS) (text := "there is no such thing") (ik := 154) (is := 156) (ic := 158) C hst hlk htb hz h hl.1 (by decide +kernel) (by decide +kernel) (by decide +kernel) (by decide +kernel) (by decide +kernel) (by decide +kernel) tb_353 tb_30 (by decide +kernel) at_xNS_158 gd_xNS_154_158 d_D_requireThing_9 d_D_requireThing_12 d_D_requireThing_13 d_D_requireThing_15 d_D_requireThing_18 (by decide) (Nat.le_of_ble_eq_true rfl) (by decide) (by decide) ⟨rfl, rfl⟩ (by decide) (by decide)

set_option maxHeartbeats 4000000 in
set_option maxRecDepth 100000 in
theorem k_D_requireRoomForAct (l : Launch) (D : va_G) (k3 : ClassId × ClassId × ClassId) (sz : Nat) (dk : Nat) (qa : Nat → Nat) (qh : Nat → Nat) (qs : Nat → Nat) (o : sd_S) (ho : sS_ok o) (hb : ¬ (sp_full o)) : Met l y_D_requireRoomForAct (sd_ws y_D_requireRoomForAct c_D_requireRoomForAct 1 none) ({ frames := 1, cells := 0, slots := 0, locals := 20 }) (sd_Pc D (sd_t3 k3) [.ref dk] sz (sd_d1 dk qa qh qs ++ sd_dA k3 qa o)) (sd_Qv D (sd_t3 k3) (va_A (sd_d1 dk qa qh qs ++ sd_dA k3 qa o) sz) (fun w => w = sd_D2 k3 dk qa qh qs o)) 0 0 (va_A (sd_d1 dk qa qh qs ++ sd_dA k3 qa o) sz) := by
  refine sd_met (cc := c_D_requireRoomForAct) (maxL := 1) (ret := none) (by decide) (Nat.le_of_ble_eq_true rfl) (fun p e s m below meth c C hr hlk hnm hsz h ls hl => ?_)
  generalize va_A (sd_d1 dk qa qh qs ++ sd_dA k3 qa o) sz = A at h ⊢
  have hl : lv_has ls 1 [(0, .ref dk)] := hl
  generalize hH : s.heap = H at h ⊢
  refine lv_aload_n C.1 C.2.1 d_D_requireRoomForAct_0 rfl (lv_at hl 0 rfl) ?_
  refine sd_get C h 0 0 (v := .ref (qa 0)) (ci := 2) (Cn := "StockDesk") (T := T_D) (N := 3) rfl rfl (by decide) in_D tb_138 rfl d_D_requireRoomForAct_1 ?_
  have h := sd_world h (ws' := sd_d1 dk qa qh qs ++ sd_A k3 qa (nI o.1) o.2.1 o.2.2.1 o.2.2.2.1 o.2.2.2.2) rfl
  have h := sd_world h (ws' := (sd_d1 dk qa qh qs) ++ (sd_A k3 qa (nI o.1) o.2.1 o.2.2.1 o.2.2.2.1 o.2.2.2.2) ++ ([])) (by simp only [sd_D2, sd_D3, sd_D4, List.append_assoc, List.nil_append, List.append_nil])
  refine sd_calli h (va_runV (As := []) (rest := []) C (k_A_size l D k3 H.size qa (nI o.1) o.2.1 o.2.2.1 o.2.2.2.1 o.2.2.2.2 ) (sd_cwV 0 C.2.2.2.2 tb_161 tb_162 tb_163 tb_22 tb_164 rfl rfl (by decide +kernel) ⟨Nat.le_of_ble_eq_true rfl, Nat.le_of_ble_eq_true rfl⟩) (sd_preV h (q0 := 1) (T := T_A) (N := 5) rfl rfl) rfl rfl hl.1 rfl (lv_room (Nat.le_of_ble_eq_true rfl)) d_D_requireRoomForAct_4 ⟨Nat.le_of_ble_eq_true rfl, Nat.le_of_ble_eq_true rfl⟩) (fun r w1 H locs hq h => ?_)
  obtain ⟨rfl, rfl⟩ := hq
  have h := sd_world h (ws' := sd_d1 dk qa qh qs ++ sd_A k3 qa (nI o.1) o.2.1 o.2.2.1 o.2.2.2.1 o.2.2.2.2) (by simp only [sd_D2, sd_D3, sd_D4, List.append_assoc, List.nil_append, List.append_nil])
  have h := sd_world h (ws' := sd_d1 dk qa qh qs ++ sd_dA k3 qa o) rfl
  refine lv_bipush (v := 60) C.1 C.2.1 d_D_requireRoomForAct_7 (by decide) ?_
  refine lv_icmp_lt (tgt := 22) C.1 C.2.1 d_D_requireRoomForAct_9 (by decide) (fun c9 => ?_) (fun c9 => ?_)
  · exact sd_vret C hr hlk h rfl d_D_requireRoomForAct_22
  · exact absurd (sp_noroom ho.1 c9) hb

set_option maxHeartbeats 4000000 in
set_option maxRecDepth 100000 in
theorem kx_D_requireRoomForAct (l : Launch) (hst : l.stackTraces = false) (D : va_G) (k3 : ClassId × ClassId × ClassId) (sz : Nat) (dk : Nat) (qa : Nat → Nat) (qh : Nat → Nat) (qs : Nat → Nat) (o : sd_S) (ho : sS_ok o) (hb : sp_full o) : vx_Met l y_D_requireRoomForAct (sd_ws y_D_requireRoomForAct c_D_requireRoomForAct 1 none) ({ frames := 6, cells := 1, slots := 6, locals := 82 }) (sd_Px D (sd_t3 k3) [.ref dk] sz (sd_d1 dk qa qh qs ++ sd_dA k3 qa o)) (sd_Qv D (sd_t3 k3) (va_A (sd_d1 dk qa qh qs ++ sd_dA k3 qa o) sz) (fun w => False)) (sd_X D (sd_t3 k3) (va_A (sd_d1 dk qa qh qs ++ sd_dA k3 qa o) sz) (fun E w => E = xUO ∧ w = sd_D2 k3 dk qa qh qs o)) 1 6 (va_A (sd_d1 dk qa qh qs ++ sd_dA k3 qa o) sz) := by
  refine sd_metx (cc := c_D_requireRoomForAct) (maxL := 1) (ret := none) (by decide) (Nat.le_of_ble_eq_true rfl) (fun p e s m below meth c C hr hlk htb hz h ls hl => ?_)
  generalize va_A (sd_d1 dk qa qh qs ++ sd_dA k3 qa o) sz = A at h hz ⊢
  have hl : lv_has ls 1 [(0, .ref dk)] := hl
  generalize hH : s.heap = H at h ⊢
  refine lv_aload_n C.1 C.2.1 d_D_requireRoomForAct_0 rfl (lv_at hl 0 rfl) ?_
  refine sd_get C h 0 0 (v := .ref (qa 0)) (ci := 2) (Cn := "StockDesk") (T := T_D) (N := 3) rfl rfl (by decide) in_D tb_138 rfl d_D_requireRoomForAct_1 ?_
  have h := sd_world h (ws' := sd_d1 dk qa qh qs ++ sd_A k3 qa (nI o.1) o.2.1 o.2.2.1 o.2.2.2.1 o.2.2.2.2) rfl
  have h := sd_world h (ws' := (sd_d1 dk qa qh qs) ++ (sd_A k3 qa (nI o.1) o.2.1 o.2.2.1 o.2.2.2.1 o.2.2.2.2) ++ ([])) (by simp only [sd_D2, sd_D3, sd_D4, List.append_assoc, List.nil_append, List.append_nil])
  refine sd_calli h (va_runV (As := []) (rest := []) C (k_A_size l D k3 H.size qa (nI o.1) o.2.1 o.2.2.1 o.2.2.2.1 o.2.2.2.2 ) (sd_cwV 0 C.2.2.2.2 tb_161 tb_162 tb_163 tb_22 tb_164 rfl rfl (by decide +kernel) ⟨Nat.le_of_ble_eq_true rfl, Nat.le_of_ble_eq_true rfl⟩) (sd_preV h (q0 := 1) (T := T_A) (N := 5) rfl rfl) rfl rfl hl.1 rfl (lv_room (Nat.le_of_ble_eq_true rfl)) d_D_requireRoomForAct_4 ⟨Nat.le_of_ble_eq_true rfl, Nat.le_of_ble_eq_true rfl⟩) (fun r w1 H locs hq h => ?_)
  obtain ⟨rfl, rfl⟩ := hq
  have h := sd_world h (ws' := sd_d1 dk qa qh qs ++ sd_A k3 qa (nI o.1) o.2.1 o.2.2.1 o.2.2.2.1 o.2.2.2.2) (by simp only [sd_D2, sd_D3, sd_D4, List.append_assoc, List.nil_append, List.append_nil])
  have h := sd_world h (ws' := sd_d1 dk qa qh qs ++ sd_dA k3 qa o) rfl
  refine lv_bipush (v := 60) C.1 C.2.1 d_D_requireRoomForAct_7 (by decide) ?_
  refine lv_icmp_lt (tgt := 22) C.1 C.2.1 d_D_requireRoomForAct_9 (by decide) (fun c9 => ?_) (fun c9 => ?_)
  · exact absurd (sp_room ho.1 c9) hb
  · exact sd_throw (names := ["java/lang/RuntimeException", "java/lang/Exception"]) (cls := xUO) (text := "no room for another act") (ik := 34) (is := 142) (ic := 38) C hst hlk htb hz h hl.1 (by decide +kernel) (by decide +kernel) tb_264 tb_29 (by decide +kernel) at_xUO_38 gd_xUO_34_38 d_D_requireRoomForAct_12 d_D_requireRoomForAct_15 d_D_requireRoomForAct_16 d_D_requireRoomForAct_18 d_D_requireRoomForAct_21 (by decide) (Nat.le_of_ble_eq_true rfl) (by decide) (by decide) ⟨rfl, rfl⟩ (by decide) (by decide)

set_option maxHeartbeats 4000000 in
set_option maxRecDepth 100000 in
theorem k_D_doAndKeep (l : Launch) (D : va_G) (k3 : ClassId × ClassId × ClassId) (sz : Nat) (dk : Nat) (qa : Nat → Nat) (qh : Nat → Nat) (qs : Nat → Nat) (o : sd_S) (a : Int32) (x : Int32) (y : Int32) (z : Int32) (hn : o.1 < 60) (hok : sd_ok (sS_u o) a x y) : Met l y_D_doAndKeep (sd_ws y_D_doAndKeep c_D_doAndKeep 5 (some FieldType.long)) ({ frames := 3, cells := 0, slots := 0, locals := 72 }) (sd_Pc D (sd_t3 k3) [.ref dk, .int a, .int x, .int y, .int z] sz (sd_d1 dk qa qh qs ++ sd_dA k3 qa o ++ sd_H k3 qh (sS_u o))) (sd_Ql D (sd_t3 k3) (va_A (sd_d1 dk qa qh qs ++ sd_dA k3 qa o ++ sd_H k3 qh (sS_u o)) sz) (fun r w => r = sd_an (sS_u o) a x y z ∧ w = sd_D3 k3 dk qa qh qs (sS_put o a x y z))) 0 0 (va_A (sd_d1 dk qa qh qs ++ sd_dA k3 qa o ++ sd_H k3 qh (sS_u o)) sz) := by
  refine sd_met (cc := c_D_doAndKeep) (maxL := 5) (ret := some .long) (by decide) (Nat.le_of_ble_eq_true rfl) (fun p e s m below meth c C hr hlk hnm hsz h ls hl => ?_)
  generalize va_A (sd_d1 dk qa qh qs ++ sd_dA k3 qa o ++ sd_H k3 qh (sS_u o)) sz = A at h ⊢
  have hl : lv_has ls 5 [(0, .ref dk), (1, .int a), (2, .int x), (3, .int y), (4, .int z)] := hl
  generalize hH : s.heap = H at h ⊢
  refine lv_aload_n C.1 C.2.1 d_D_doAndKeep_0 rfl (lv_at hl 0 rfl) ?_
  refine sd_get C h 0 0 (v := .ref (qa 0)) (ci := 2) (Cn := "StockDesk") (T := T_D) (N := 3) rfl rfl (by decide) in_D tb_138 rfl d_D_doAndKeep_1 ?_
  refine lv_iload_n C.1 C.2.1 d_D_doAndKeep_4 rfl (lv_at hl 1 rfl) ?_
  refine lv_iload_n C.1 C.2.1 d_D_doAndKeep_5 rfl (lv_at hl 2 rfl) ?_
  refine lv_iload_n C.1 C.2.1 d_D_doAndKeep_6 rfl (lv_at hl 3 rfl) ?_
  refine lv_iload C.1 C.2.1 d_D_doAndKeep_7 (lv_at hl 4 rfl) ?_
  have h := sd_world h (ws' := sd_d1 dk qa qh qs ++ sd_A k3 qa (nI o.1) o.2.1 o.2.2.1 o.2.2.2.1 o.2.2.2.2 ++ sd_H k3 qh (sS_u o)) rfl
  have h := sd_world h (ws' := (sd_d1 dk qa qh qs) ++ (sd_A k3 qa (nI o.1) o.2.1 o.2.2.1 o.2.2.2.1 o.2.2.2.2) ++ (sd_H k3 qh (sS_u o))) (by simp only [sd_D2, sd_D3, sd_D4, List.append_assoc, List.nil_append, List.append_nil])
  refine sd_callv h (va_runV (As := [.int a, .int x, .int y, .int z]) (rest := []) C (k_A_keep l D k3 H.size qa o.1 o.2.1 o.2.2.1 o.2.2.2.1 o.2.2.2.2 a x y z hn) (sd_cwV 4 C.2.2.2.2 tb_289 tb_290 tb_291 tb_22 tb_292 rfl rfl (by decide +kernel) ⟨Nat.le_of_ble_eq_true rfl, Nat.le_of_ble_eq_true rfl⟩) (sd_preV h (q0 := 1) (T := T_A) (N := 5) rfl rfl) rfl rfl hl.1 rfl (lv_room (Nat.le_of_ble_eq_true rfl)) d_D_doAndKeep_9 ⟨Nat.le_of_ble_eq_true rfl, Nat.le_of_ble_eq_true rfl⟩) (fun w1 H locs hq h => ?_)
  obtain rfl := hq
  have h := sd_world h (ws' := sd_d1 dk qa qh qs ++ sd_A k3 qa (nI (o.1 + 1)) (upd o.2.1 o.1 a) (upd o.2.2.1 o.1 x) (upd o.2.2.2.1 o.1 y) (upd o.2.2.2.2 o.1 z) ++ sd_H k3 qh (sS_u o)) (by simp only [sd_D2, sd_D3, sd_D4, List.append_assoc, List.nil_append, List.append_nil])
  have h := sd_world h (ws' := sd_d1 dk qa qh qs ++ sd_dA k3 qa (sS_put o a x y z) ++ sd_H k3 qh (sS_u o)) rfl
  refine lv_aload_n C.1 C.2.1 d_D_doAndKeep_12 rfl (lv_at hl 0 rfl) ?_
  refine sd_get C h 0 1 (v := .ref (qh 0)) (ci := 2) (Cn := "StockDesk") (T := T_D) (N := 3) rfl rfl (by decide) in_D tb_139 rfl d_D_doAndKeep_13 ?_
  refine lv_iload_n C.1 C.2.1 d_D_doAndKeep_16 rfl (lv_at hl 1 rfl) ?_
  refine lv_iload_n C.1 C.2.1 d_D_doAndKeep_17 rfl (lv_at hl 2 rfl) ?_
  refine lv_iload_n C.1 C.2.1 d_D_doAndKeep_18 rfl (lv_at hl 3 rfl) ?_
  refine lv_iload C.1 C.2.1 d_D_doAndKeep_19 (lv_at hl 4 rfl) ?_
  have h := sd_world h (ws' := (sd_d1 dk qa qh qs ++ sd_dA k3 qa (sS_put o a x y z)) ++ (sd_H k3 qh (sS_u o)) ++ ([])) (by simp only [sd_D2, sd_D3, sd_D4, List.append_assoc, List.nil_append, List.append_nil])
  refine sd_calll h (va_runV (As := [.int a, .int x, .int y, .int z]) (rest := []) C (k_H_perform l D k3 H.size qh (sS_u o) a x y z hok) (sd_cwV 4 C.2.2.2.2 tb_293 tb_294 tb_295 tb_23 tb_296 rfl rfl (by decide +kernel) ⟨Nat.le_of_ble_eq_true rfl, Nat.le_of_ble_eq_true rfl⟩) (sd_preV h (q0 := 6) (T := T_H) (N := 16) rfl rfl) rfl rfl hl.1 rfl (lv_room (Nat.le_of_ble_eq_true rfl)) d_D_doAndKeep_21 ⟨Nat.le_of_ble_eq_true rfl, Nat.le_of_ble_eq_true rfl⟩) (fun r w1 H locs hq h => ?_)
  obtain ⟨rfl, rfl⟩ := hq
  have h := sd_world h (ws' := sd_d1 dk qa qh qs ++ sd_dA k3 qa (sS_put o a x y z) ++ sd_H k3 qh (sd_do (sS_u o) a x y z)) (by simp only [sd_D2, sd_D3, sd_D4, List.append_assoc, List.nil_append, List.append_nil])
  have h := sd_world h (ws' := sd_d1 dk qa qh qs ++ sd_dA k3 qa (sS_put o a x y z) ++ sd_H k3 qh (sS_u (sS_put o a x y z))) (by rw [sS_u_put])
  exact sd_lret (v := sd_an (sS_u o) a x y z) C hr hlk h ⟨rfl, rfl⟩ d_D_doAndKeep_24
