theorem sp_px4 {S : String × Int64 × sd_S} {E : String} {o : sd_S} {F : sd_S → sd_HS → va_W} (v : sd_HS) (e : S = sp_no E o) (hE : ¬ E = "") : S.1 = E ∧ ¬ E = "" ∧ ∃ v9, F o v = F S.2.2 v9 := by subst e; exact ⟨rfl, hE, v, rfl⟩
theorem sp_pl4 {S : String × Int64 × sd_S} {o : sd_S} {r : Int64} {F : sd_S → sd_HS → va_W} (v : sd_HS) (e : S = ("", r, o)) : S.1 = "" ∧ r = S.2.1 ∧ ∃ v9, F o v = F S.2.2 v9 := by subst e; exact ⟨rfl, rfl, v, rfl⟩
theorem sp_px {S : String × Int64 × sd_S} {E : String} {o : sd_S} (F : sd_S → va_W) (e : S = sp_no E o) (hE : ¬ E = "") : S.1 = E ∧ ¬ E = "" ∧ F o = F S.2.2 := by subst e; exact ⟨rfl, hE, rfl⟩
theorem sp_pri {S : String × Int64 × sd_S} {o : sd_S} {a x y z : Int32} (F : sd_S → va_W) (e : S = sp_act o a x y z) : S.1 = "" ∧ (sd_an (sS_u o) a x y z).toInt32 = S.2.1.toInt32 ∧ F (sS_put o a x y z) = F S.2.2 := by subst e; exact ⟨rfl, rfl, rfl⟩
theorem sp_prl {S : String × Int64 × sd_S} {o : sd_S} {a x y z : Int32} (F : sd_S → va_W) (e : S = sp_act o a x y z) : S.1 = "" ∧ sd_an (sS_u o) a x y z = S.2.1 ∧ F (sS_put o a x y z) = F S.2.2 := by subst e; exact ⟨rfl, rfl, rfl⟩
theorem sp_prv {S : String × Int64 × sd_S} {o : sd_S} {a x y z : Int32} (F : sd_S → va_W) (e : S = sp_act o a x y z) : S.1 = "" ∧ F (sS_put o a x y z) = F S.2.2 := by subst e; exact ⟨rfl, rfl⟩
theorem sd_back32 (x : Int32) : x.toInt64.toInt32 = x := by simp
theorem sp_pi {S : String × Int64 × sd_S} {o : sd_S} {r : Int32} (F : sd_S → va_W) (e : S = ("", r.toInt64, o)) : S.1 = "" ∧ r = S.2.1.toInt32 ∧ F o = F S.2.2 := by subst e; exact ⟨rfl, (sd_back32 r).symm, rfl⟩
theorem sp_pl {S : String × Int64 × sd_S} {o : sd_S} {r : Int64} (F : sd_S → va_W) (e : S = ("", r, o)) : S.1 = "" ∧ r = S.2.1 ∧ F o = F S.2.2 := by subst e; exact ⟨rfl, rfl, rfl⟩
set_option maxHeartbeats 4000000 in
set_option maxRecDepth 100000 in
theorem k_D_make (l : Launch) (hst : l.stackTraces = false) (D : va_G) (k3 : ClassId × ClassId × ClassId) (sz : Nat) (dk : Nat) (qa : Nat → Nat) (qh : Nat → Nat) (qs : Nat → Nat) (o : sd_S) (x : Int32) (ho : sS_ok o) : vx_Met l y_D_make (sd_ws y_D_make c_D_make 2 (some FieldType.int)) ({ frames := 8, cells := 1, slots := 6, locals := 123 }) (sd_Px D (sd_t3 k3) [.ref dk, .int x] sz (sd_d1 dk qa qh qs ++ sd_dA k3 qa o ++ sd_H k3 qh (sS_u o))) (sd_Qi D (sd_t3 k3) (va_A (sd_d1 dk qa qh qs ++ sd_dA k3 qa o ++ sd_H k3 qh (sS_u o)) sz) (fun r w => (sp_make o x).1 = "" ∧ r = (sp_make o x).2.1.toInt32 ∧ w = sd_D3 k3 dk qa qh qs (sp_make o x).2.2)) (sd_X D (sd_t3 k3) (va_A (sd_d1 dk qa qh qs ++ sd_dA k3 qa o ++ sd_H k3 qh (sS_u o)) sz) (fun E w => (sp_make o x).1 = E ∧ ¬ E = "" ∧ w = sd_D3 k3 dk qa qh qs (sp_make o x).2.2)) 1 6 (va_A (sd_d1 dk qa qh qs ++ sd_dA k3 qa o ++ sd_H k3 qh (sS_u o)) sz) := by
  refine sd_metx (cc := c_D_make) (maxL := 2) (ret := some .int) (by decide) (Nat.le_of_ble_eq_true rfl) (fun p e s m below meth c C hr hlk htb hz h ls hl => ?_)
  generalize va_A (sd_d1 dk qa qh qs ++ sd_dA k3 qa o ++ sd_H k3 qh (sS_u o)) sz = A at h hz ⊢
  have hl : lv_has ls 2 [(0, .ref dk), (1, .int x)] := hl
  generalize hH : s.heap = H at h ⊢
  refine lv_iload_n C.1 C.2.1 d_D_make_0 rfl (lv_at hl 1 rfl) ?_
  rcases Classical.em (sp_bad x 5) with hb | hb
  · have h := sd_world h (ws' := ([]) ++ ([]) ++ (sd_d1 dk qa qh qs ++ sd_dA k3 qa o ++ sd_H k3 qh (sS_u o))) (by simp only [sd_D2, sd_D3, sd_D4, List.append_assoc, List.nil_append, List.append_nil])
    refine sd_xcallv h (vx_runS (As := [.int x]) (rest := []) C (kx_D_requireKind l hst D k3 H.size x hb) (sd_cwS 1 C.2.2.2.2 tb_185 tb_186 tb_21 tb_187 rfl rfl (by decide +kernel) ⟨Nat.le_of_ble_eq_true rfl, Nat.le_of_ble_eq_true rfl⟩) (sd_preSx h hz) rfl rfl hl.1 rfl (lv_room (Nat.le_of_ble_eq_true rfl)) d_D_make_1 ⟨Nat.le_of_ble_eq_true rfl, Nat.le_of_ble_eq_true rfl⟩) (fun E ce q9 w1 H locs hq h hce hcv hcl => ?_) (fun w1 H locs hq h => hq.elim)
    obtain ⟨rfl, rfl⟩ := hq
    have h := sd_world h (ws' := sd_d1 dk qa qh qs ++ sd_dA k3 qa o ++ sd_H k3 qh (sS_u o)) (by simp only [sd_D2, sd_D3, sd_D4, List.append_assoc, List.nil_append, List.append_nil])
    exact sd_on hlk htb h (sp_px (sd_D3 k3 dk qa qh qs) (o := o) (if_pos hb) (by decide)) hce hcv hcl (by decide) (by decide)
  have h := sd_world h (ws' := ([]) ++ ([]) ++ (sd_d1 dk qa qh qs ++ sd_dA k3 qa o ++ sd_H k3 qh (sS_u o))) (by simp only [sd_D2, sd_D3, sd_D4, List.append_assoc, List.nil_append, List.append_nil])
  refine sd_callv h (va_runS (As := [.int x]) (rest := []) C (k_D_requireKind l D k3 H.size x hb) (sd_cwS 1 C.2.2.2.2 tb_185 tb_186 tb_21 tb_187 rfl rfl (by decide +kernel) ⟨Nat.le_of_ble_eq_true rfl, Nat.le_of_ble_eq_true rfl⟩) (sd_preS h) rfl rfl hl.1 rfl (lv_room (Nat.le_of_ble_eq_true rfl)) d_D_make_1 ⟨Nat.le_of_ble_eq_true rfl, Nat.le_of_ble_eq_true rfl⟩) (fun w1 H locs hq h => ?_)
  obtain rfl := hq
  have h := sd_world h (ws' := sd_d1 dk qa qh qs ++ sd_dA k3 qa o ++ sd_H k3 qh (sS_u o)) (by simp only [sd_D2, sd_D3, sd_D4, List.append_assoc, List.nil_append, List.append_nil])
  obtain ⟨k, hk, rfl⟩ := sp_in 5 rfl (by decide) hb
  refine lv_aload_n C.1 C.2.1 d_D_make_4 rfl (lv_at hl 0 rfl) ?_
  refine sd_get C h 0 1 (v := .ref (qh 0)) (ci := 2) (Cn := "StockDesk") (T := T_D) (N := 3) rfl rfl (by decide) in_D tb_139 rfl d_D_make_5 ?_
  refine lv_iload_n C.1 C.2.1 d_D_make_8 rfl (lv_at hl 1 rfl) ?_
  have h := sd_world h (ws' := (sd_d1 dk qa qh qs ++ sd_dA k3 qa o) ++ (sd_H k3 qh (sS_u o)) ++ ([])) (by simp only [sd_D2, sd_D3, sd_D4, List.append_assoc, List.nil_append, List.append_nil])
  refine sd_calli h (va_runV (As := [.int (nI k)]) (rest := []) C (k_H_madeOf l D k3 H.size qh (sS_u o) k hk) (sd_cwV 1 C.2.2.2.2 tb_260 tb_261 tb_262 tb_23 tb_263 rfl rfl (by decide +kernel) ⟨Nat.le_of_ble_eq_true rfl, Nat.le_of_ble_eq_true rfl⟩) (sd_preV h (q0 := 6) (T := T_H) (N := 16) rfl rfl) rfl rfl hl.1 rfl (lv_room (Nat.le_of_ble_eq_true rfl)) d_D_make_9 ⟨Nat.le_of_ble_eq_true rfl, Nat.le_of_ble_eq_true rfl⟩) (fun r w1 H locs hq h => ?_)
  obtain ⟨rfl, rfl⟩ := hq
  have h := sd_world h (ws' := sd_d1 dk qa qh qs ++ sd_dA k3 qa o ++ sd_H k3 qh (sS_u o)) (by simp only [sd_D2, sd_D3, sd_D4, List.append_assoc, List.nil_append, List.append_nil])
  refine lv_bipush (v := 9) C.1 C.2.1 d_D_make_12 (by decide) ?_
  refine lv_icmp_lt (tgt := 27) C.1 C.2.1 d_D_make_14 (by decide) (fun c14 => ?_) (fun c14 => ?_)
  · obtain ⟨n, hn9, hm⟩ := (sS_inv ho).1 k hk
    have hn8 : n < 9 := by rw [hm] at c14; exact (nI_ltI (a := n) (b := 9) (by omega) (by decide)).mp c14
    refine lv_aload_n C.1 C.2.1 d_D_make_27 rfl (lv_at hl 0 rfl) ?_
    rcases Classical.em (sp_full o) with hf | hf
    · have h := sd_world h (ws' := ([]) ++ (sd_d1 dk qa qh qs ++ sd_dA k3 qa o) ++ (sd_H k3 qh (sS_u o))) (by simp only [sd_D2, sd_D3, sd_D4, List.append_assoc, List.nil_append, List.append_nil])
      refine sd_xcallv h (vx_runV (As := []) (rest := []) C (kx_D_requireRoomForAct l hst D k3 H.size dk qa qh qs o ho hf) (sd_cwV 0 C.2.2.2.2 tb_280 tb_282 tb_3 tb_21 tb_283 rfl rfl (by decide +kernel) ⟨Nat.le_of_ble_eq_true rfl, Nat.le_of_ble_eq_true rfl⟩) (sd_preVx h hz (q0 := 0) (T := T_D) (N := 3) rfl rfl) rfl rfl hl.1 rfl (lv_room (Nat.le_of_ble_eq_true rfl)) d_D_make_28 ⟨Nat.le_of_ble_eq_true rfl, Nat.le_of_ble_eq_true rfl⟩) (fun E ce q9 w1 H locs hq h hce hcv hcl => ?_) (fun w1 H locs hq h => hq.elim)
      obtain ⟨rfl, rfl⟩ := hq
      have h := sd_world h (ws' := sd_d1 dk qa qh qs ++ sd_dA k3 qa o ++ sd_H k3 qh (sS_u o)) (by simp only [sd_D2, sd_D3, sd_D4, List.append_assoc, List.nil_append, List.append_nil])
      exact sd_on hlk htb h (sp_px (sd_D3 k3 dk qa qh qs) (o := o) ((if_neg hb).trans ((if_neg (by rw [nI_clamp (by omega)]; exact not_not_intro c14)).trans (if_pos hf))) (by decide)) hce hcv hcl (by decide) (by decide)
    have h := sd_world h (ws' := ([]) ++ (sd_d1 dk qa qh qs ++ sd_dA k3 qa o) ++ (sd_H k3 qh (sS_u o))) (by simp only [sd_D2, sd_D3, sd_D4, List.append_assoc, List.nil_append, List.append_nil])
    refine sd_callv h (va_runV (As := []) (rest := []) C (k_D_requireRoomForAct l D k3 H.size dk qa qh qs o ho hf) (sd_cwV 0 C.2.2.2.2 tb_280 tb_282 tb_3 tb_21 tb_283 rfl rfl (by decide +kernel) ⟨Nat.le_of_ble_eq_true rfl, Nat.le_of_ble_eq_true rfl⟩) (sd_preV h (q0 := 0) (T := T_D) (N := 3) rfl rfl) rfl rfl hl.1 rfl (lv_room (Nat.le_of_ble_eq_true rfl)) d_D_make_28 ⟨Nat.le_of_ble_eq_true rfl, Nat.le_of_ble_eq_true rfl⟩) (fun w1 H locs hq h => ?_)
    obtain rfl := hq
    have h := sd_world h (ws' := sd_d1 dk qa qh qs ++ sd_dA k3 qa o ++ sd_H k3 qh (sS_u o)) (by simp only [sd_D2, sd_D3, sd_D4, List.append_assoc, List.nil_append, List.append_nil])
    refine lv_aload_n C.1 C.2.1 d_D_make_31 rfl (lv_at hl 0 rfl) ?_
    refine lv_iconst (v := 0) C.1 C.2.1 d_D_make_32 (by decide) ?_
    refine lv_iload_n C.1 C.2.1 d_D_make_33 rfl (lv_at hl 1 rfl) ?_
    refine lv_iconst (v := 0) C.1 C.2.1 d_D_make_34 (by decide) ?_
    refine lv_iconst (v := 0) C.1 C.2.1 d_D_make_35 (by decide) ?_
    have h := sd_world h (ws' := ([]) ++ (sd_d1 dk qa qh qs ++ sd_dA k3 qa o ++ sd_H k3 qh (sS_u o)) ++ ([])) (by simp only [sd_D2, sd_D3, sd_D4, List.append_assoc, List.nil_append, List.append_nil])
    refine sd_calll h (va_runV (As := [.int 0, .int (nI k), .int 0, .int 0]) (rest := []) C (k_D_doAndKeep l D k3 H.size dk qa qh qs o 0 (nI k) 0 0 (Classical.not_not.mp hf) (Or.inl ⟨rfl, k, n, hk, hn8, rfl, hm⟩)) (sd_cwV 4 C.2.2.2.2 tb_285 tb_287 tb_4 tb_21 tb_288 rfl rfl (by decide +kernel) ⟨Nat.le_of_ble_eq_true rfl, Nat.le_of_ble_eq_true rfl⟩) (sd_preV h (q0 := 0) (T := T_D) (N := 3) rfl rfl) rfl rfl hl.1 rfl (lv_room (Nat.le_of_ble_eq_true rfl)) d_D_make_36 ⟨Nat.le_of_ble_eq_true rfl, Nat.le_of_ble_eq_true rfl⟩) (fun r w1 H locs hq h => ?_)
    obtain ⟨rfl, rfl⟩ := hq
    have h := sd_world h (ws' := sd_d1 dk qa qh qs ++ sd_dA k3 qa (sS_put o 0 (nI k) 0 0) ++ sd_H k3 qh (sS_u (sS_put o 0 (nI k) 0 0))) (by simp only [sd_D2, sd_D3, sd_D4, List.append_assoc, List.nil_append, List.append_nil])
    refine lv_l2i (v := (sd_an (sS_u o) 0 (nI k) 0 0).toInt32) C.1 C.2.1 d_D_make_39 rfl ?_
    refine W.widen (k := 1) (n := 6) (by decide) (by decide) ?_
    refine vx_ret ?_
    exact sd_iret (v := (sd_an (sS_u o) 0 (nI k) 0 0).toInt32) C hr hlk h (sp_pri (sd_D3 k3 dk qa qh qs) ((if_neg hb).trans ((if_neg (by rw [nI_clamp (by omega)]; exact not_not_intro c14)).trans ((if_neg hf).trans rfl)))) d_D_make_40
  · exact sd_throw (names := ["java/lang/RuntimeException", "java/lang/Exception"]) (cls := xUO) (text := "no room for another thing of this kind") (ik := 34) (is := 36) (ic := 38) C hst hlk htb hz h hl.1 (by decide +kernel) (by decide +kernel) tb_264 tb_29 (by decide +kernel) at_xUO_38 gd_xUO_34_38 d_D_make_17 d_D_make_20 d_D_make_21 d_D_make_23 d_D_make_26 (by decide) (Nat.le_of_ble_eq_true rfl) (by decide) (by decide) (sp_px (sd_D3 k3 dk qa qh qs) (o := o) ((if_neg hb).trans (if_pos (by rw [nI_clamp (by omega)]; exact c14))) (by decide)) (by decide) (by decide)

set_option maxHeartbeats 4000000 in
set_option maxRecDepth 100000 in
theorem k_D_drop (l : Launch) (hst : l.stackTraces = false) (D : va_G) (k3 : ClassId × ClassId × ClassId) (sz : Nat) (dk : Nat) (qa : Nat → Nat) (qh : Nat → Nat) (qs : Nat → Nat) (o : sd_S) (x : Int32) (y : Int32) (ho : sS_ok o) : vx_Met l y_D_drop (sd_ws y_D_drop c_D_drop 3 (some FieldType.int)) ({ frames := 8, cells := 1, slots := 6, locals := 123 }) (sd_Px D (sd_t3 k3) [.ref dk, .int x, .int y] sz (sd_d1 dk qa qh qs ++ sd_dA k3 qa o ++ sd_H k3 qh (sS_u o))) (sd_Qi D (sd_t3 k3) (va_A (sd_d1 dk qa qh qs ++ sd_dA k3 qa o ++ sd_H k3 qh (sS_u o)) sz) (fun r w => (sp_drop o x y).1 = "" ∧ r = (sp_drop o x y).2.1.toInt32 ∧ w = sd_D3 k3 dk qa qh qs (sp_drop o x y).2.2)) (sd_X D (sd_t3 k3) (va_A (sd_d1 dk qa qh qs ++ sd_dA k3 qa o ++ sd_H k3 qh (sS_u o)) sz) (fun E w => (sp_drop o x y).1 = E ∧ ¬ E = "" ∧ w = sd_D3 k3 dk qa qh qs (sp_drop o x y).2.2)) 1 6 (va_A (sd_d1 dk qa qh qs ++ sd_dA k3 qa o ++ sd_H k3 qh (sS_u o)) sz) := by
  refine sd_metx (cc := c_D_drop) (maxL := 3) (ret := some .int) (by decide) (Nat.le_of_ble_eq_true rfl) (fun p e s m below meth c C hr hlk htb hz h ls hl => ?_)
  generalize va_A (sd_d1 dk qa qh qs ++ sd_dA k3 qa o ++ sd_H k3 qh (sS_u o)) sz = A at h hz ⊢
  have hl : lv_has ls 3 [(0, .ref dk), (1, .int x), (2, .int y)] := hl
  generalize hH : s.heap = H at h ⊢
  refine lv_iload_n C.1 C.2.1 d_D_drop_0 rfl (lv_at hl 1 rfl) ?_
  rcases Classical.em (sp_bad x 5) with hb | hb
  · have h := sd_world h (ws' := ([]) ++ ([]) ++ (sd_d1 dk qa qh qs ++ sd_dA k3 qa o ++ sd_H k3 qh (sS_u o))) (by simp only [sd_D2, sd_D3, sd_D4, List.append_assoc, List.nil_append, List.append_nil])
    refine sd_xcallv h (vx_runS (As := [.int x]) (rest := []) C (kx_D_requireKind l hst D k3 H.size x hb) (sd_cwS 1 C.2.2.2.2 tb_185 tb_186 tb_21 tb_187 rfl rfl (by decide +kernel) ⟨Nat.le_of_ble_eq_true rfl, Nat.le_of_ble_eq_true rfl⟩) (sd_preSx h hz) rfl rfl hl.1 rfl (lv_room (Nat.le_of_ble_eq_true rfl)) d_D_drop_1 ⟨Nat.le_of_ble_eq_true rfl, Nat.le_of_ble_eq_true rfl⟩) (fun E ce q9 w1 H locs hq h hce hcv hcl => ?_) (fun w1 H locs hq h => hq.elim)
    obtain ⟨rfl, rfl⟩ := hq
    have h := sd_world h (ws' := sd_d1 dk qa qh qs ++ sd_dA k3 qa o ++ sd_H k3 qh (sS_u o)) (by simp only [sd_D2, sd_D3, sd_D4, List.append_assoc, List.nil_append, List.append_nil])
    exact sd_on hlk htb h (sp_px (sd_D3 k3 dk qa qh qs) (o := o) (if_pos hb) (by decide)) hce hcv hcl (by decide) (by decide)
  have h := sd_world h (ws' := ([]) ++ ([]) ++ (sd_d1 dk qa qh qs ++ sd_dA k3 qa o ++ sd_H k3 qh (sS_u o))) (by simp only [sd_D2, sd_D3, sd_D4, List.append_assoc, List.nil_append, List.append_nil])
  refine sd_callv h (va_runS (As := [.int x]) (rest := []) C (k_D_requireKind l D k3 H.size x hb) (sd_cwS 1 C.2.2.2.2 tb_185 tb_186 tb_21 tb_187 rfl rfl (by decide +kernel) ⟨Nat.le_of_ble_eq_true rfl, Nat.le_of_ble_eq_true rfl⟩) (sd_preS h) rfl rfl hl.1 rfl (lv_room (Nat.le_of_ble_eq_true rfl)) d_D_drop_1 ⟨Nat.le_of_ble_eq_true rfl, Nat.le_of_ble_eq_true rfl⟩) (fun w1 H locs hq h => ?_)
  obtain rfl := hq
  have h := sd_world h (ws' := sd_d1 dk qa qh qs ++ sd_dA k3 qa o ++ sd_H k3 qh (sS_u o)) (by simp only [sd_D2, sd_D3, sd_D4, List.append_assoc, List.nil_append, List.append_nil])
  obtain ⟨k, hk, rfl⟩ := sp_in 5 rfl (by decide) hb
  refine lv_aload_n C.1 C.2.1 d_D_drop_4 rfl (lv_at hl 0 rfl) ?_
  refine sd_get C h 0 1 (v := .ref (qh 0)) (ci := 2) (Cn := "StockDesk") (T := T_D) (N := 3) rfl rfl (by decide) in_D tb_139 rfl d_D_drop_5 ?_
  refine lv_iload_n C.1 C.2.1 d_D_drop_8 rfl (lv_at hl 1 rfl) ?_
  refine lv_iload_n C.1 C.2.1 d_D_drop_9 rfl (lv_at hl 2 rfl) ?_
  rcases Classical.em (¬ hd_has (sS_u o) k y) with ht | ht
  · have h := sd_world h (ws' := (sd_d1 dk qa qh qs ++ sd_dA k3 qa o) ++ (sd_H k3 qh (sS_u o)) ++ ([])) (by simp only [sd_D2, sd_D3, sd_D4, List.append_assoc, List.nil_append, List.append_nil])
    refine sd_xcallv h (vx_runS (As := [.ref (qh 0), .int (nI k), .int y]) (rest := []) C (kx_D_requireThing l hst D k3 H.size qh (sS_u o) k y hk ht) (sd_cwS 3 C.2.2.2.2 tb_346 tb_347 tb_21 tb_348 rfl rfl (by decide +kernel) ⟨Nat.le_of_ble_eq_true rfl, Nat.le_of_ble_eq_true rfl⟩) (sd_preSx h hz) rfl rfl hl.1 rfl (lv_room (Nat.le_of_ble_eq_true rfl)) d_D_drop_10 ⟨Nat.le_of_ble_eq_true rfl, Nat.le_of_ble_eq_true rfl⟩) (fun E ce q9 w1 H locs hq h hce hcv hcl => ?_) (fun w1 H locs hq h => hq.elim)
    obtain ⟨rfl, rfl⟩ := hq
    have h := sd_world h (ws' := sd_d1 dk qa qh qs ++ sd_dA k3 qa o ++ sd_H k3 qh (sS_u o)) (by simp only [sd_D2, sd_D3, sd_D4, List.append_assoc, List.nil_append, List.append_nil])
    exact sd_on hlk htb h (sp_px (sd_D3 k3 dk qa qh qs) (o := o) ((if_neg hb).trans (if_pos (by rw [nI_clamp (show k < 2 ^ 31 by omega)]; exact ht))) (by decide)) hce hcv hcl (by decide) (by decide)
  have h := sd_world h (ws' := (sd_d1 dk qa qh qs ++ sd_dA k3 qa o) ++ (sd_H k3 qh (sS_u o)) ++ ([])) (by simp only [sd_D2, sd_D3, sd_D4, List.append_assoc, List.nil_append, List.append_nil])
  refine sd_callv h (va_runS (As := [.ref (qh 0), .int (nI k), .int y]) (rest := []) C (k_D_requireThing l D k3 H.size qh (sS_u o) k y hk ht) (sd_cwS 3 C.2.2.2.2 tb_346 tb_347 tb_21 tb_348 rfl rfl (by decide +kernel) ⟨Nat.le_of_ble_eq_true rfl, Nat.le_of_ble_eq_true rfl⟩) (sd_preS h) rfl rfl hl.1 rfl (lv_room (Nat.le_of_ble_eq_true rfl)) d_D_drop_10 ⟨Nat.le_of_ble_eq_true rfl, Nat.le_of_ble_eq_true rfl⟩) (fun w1 H locs hq h => ?_)
  obtain rfl := hq
  have h := sd_world h (ws' := sd_d1 dk qa qh qs ++ sd_dA k3 qa o ++ sd_H k3 qh (sS_u o)) (by simp only [sd_D2, sd_D3, sd_D4, List.append_assoc, List.nil_append, List.append_nil])
  have ht := Classical.not_not.mp ht
  obtain ⟨j, h1, h9, rfl⟩ := sp_hasj ht
  refine lv_aload_n C.1 C.2.1 d_D_drop_13 rfl (lv_at hl 0 rfl) ?_
  rcases Classical.em (sp_full o) with hf | hf
  · have h := sd_world h (ws' := ([]) ++ (sd_d1 dk qa qh qs ++ sd_dA k3 qa o) ++ (sd_H k3 qh (sS_u o))) (by simp only [sd_D2, sd_D3, sd_D4, List.append_assoc, List.nil_append, List.append_nil])
    refine sd_xcallv h (vx_runV (As := []) (rest := []) C (kx_D_requireRoomForAct l hst D k3 H.size dk qa qh qs o ho hf) (sd_cwV 0 C.2.2.2.2 tb_280 tb_282 tb_3 tb_21 tb_283 rfl rfl (by decide +kernel) ⟨Nat.le_of_ble_eq_true rfl, Nat.le_of_ble_eq_true rfl⟩) (sd_preVx h hz (q0 := 0) (T := T_D) (N := 3) rfl rfl) rfl rfl hl.1 rfl (lv_room (Nat.le_of_ble_eq_true rfl)) d_D_drop_14 ⟨Nat.le_of_ble_eq_true rfl, Nat.le_of_ble_eq_true rfl⟩) (fun E ce q9 w1 H locs hq h hce hcv hcl => ?_) (fun w1 H locs hq h => hq.elim)
    obtain ⟨rfl, rfl⟩ := hq
    have h := sd_world h (ws' := sd_d1 dk qa qh qs ++ sd_dA k3 qa o ++ sd_H k3 qh (sS_u o)) (by simp only [sd_D2, sd_D3, sd_D4, List.append_assoc, List.nil_append, List.append_nil])
    exact sd_on hlk htb h (sp_px (sd_D3 k3 dk qa qh qs) (o := o) ((if_neg hb).trans ((if_neg (by rw [nI_clamp (show k < 2 ^ 31 by omega)]; exact not_not_intro ht)).trans (if_pos hf))) (by decide)) hce hcv hcl (by decide) (by decide)
  have h := sd_world h (ws' := ([]) ++ (sd_d1 dk qa qh qs ++ sd_dA k3 qa o) ++ (sd_H k3 qh (sS_u o))) (by simp only [sd_D2, sd_D3, sd_D4, List.append_assoc, List.nil_append, List.append_nil])
  refine sd_callv h (va_runV (As := []) (rest := []) C (k_D_requireRoomForAct l D k3 H.size dk qa qh qs o ho hf) (sd_cwV 0 C.2.2.2.2 tb_280 tb_282 tb_3 tb_21 tb_283 rfl rfl (by decide +kernel) ⟨Nat.le_of_ble_eq_true rfl, Nat.le_of_ble_eq_true rfl⟩) (sd_preV h (q0 := 0) (T := T_D) (N := 3) rfl rfl) rfl rfl hl.1 rfl (lv_room (Nat.le_of_ble_eq_true rfl)) d_D_drop_14 ⟨Nat.le_of_ble_eq_true rfl, Nat.le_of_ble_eq_true rfl⟩) (fun w1 H locs hq h => ?_)
  obtain rfl := hq
  have h := sd_world h (ws' := sd_d1 dk qa qh qs ++ sd_dA k3 qa o ++ sd_H k3 qh (sS_u o)) (by simp only [sd_D2, sd_D3, sd_D4, List.append_assoc, List.nil_append, List.append_nil])
  refine lv_aload_n C.1 C.2.1 d_D_drop_17 rfl (lv_at hl 0 rfl) ?_
  refine lv_iconst (v := 1) C.1 C.2.1 d_D_drop_18 (by decide) ?_
  refine lv_iload_n C.1 C.2.1 d_D_drop_19 rfl (lv_at hl 1 rfl) ?_
  refine lv_iload_n C.1 C.2.1 d_D_drop_20 rfl (lv_at hl 2 rfl) ?_
  refine lv_iconst (v := 0) C.1 C.2.1 d_D_drop_21 (by decide) ?_
  have h := sd_world h (ws' := ([]) ++ (sd_d1 dk qa qh qs ++ sd_dA k3 qa o ++ sd_H k3 qh (sS_u o)) ++ ([])) (by simp only [sd_D2, sd_D3, sd_D4, List.append_assoc, List.nil_append, List.append_nil])
  refine sd_calll h (va_runV (As := [.int 1, .int (nI k), .int (nI j), .int 0]) (rest := []) C (k_D_doAndKeep l D k3 H.size dk qa qh qs o 1 (nI k) (nI j) 0 (Classical.not_not.mp hf) (Or.inr (Or.inl ⟨rfl, k, j, hk, h1, h9, rfl, rfl⟩))) (sd_cwV 4 C.2.2.2.2 tb_285 tb_287 tb_4 tb_21 tb_288 rfl rfl (by decide +kernel) ⟨Nat.le_of_ble_eq_true rfl, Nat.le_of_ble_eq_true rfl⟩) (sd_preV h (q0 := 0) (T := T_D) (N := 3) rfl rfl) rfl rfl hl.1 rfl (lv_room (Nat.le_of_ble_eq_true rfl)) d_D_drop_22 ⟨Nat.le_of_ble_eq_true rfl, Nat.le_of_ble_eq_true rfl⟩) (fun r w1 H locs hq h => ?_)
  obtain ⟨rfl, rfl⟩ := hq
  have h := sd_world h (ws' := sd_d1 dk qa qh qs ++ sd_dA k3 qa (sS_put o 1 (nI k) (nI j) 0) ++ sd_H k3 qh (sS_u (sS_put o 1 (nI k) (nI j) 0))) (by simp only [sd_D2, sd_D3, sd_D4, List.append_assoc, List.nil_append, List.append_nil])
  refine lv_l2i (v := (sd_an (sS_u o) 1 (nI k) (nI j) 0).toInt32) C.1 C.2.1 d_D_drop_25 rfl ?_
  refine W.widen (k := 1) (n := 6) (by decide) (by decide) ?_
  refine vx_ret ?_
  exact sd_iret (v := (sd_an (sS_u o) 1 (nI k) (nI j) 0).toInt32) C hr hlk h (sp_pri (sd_D3 k3 dk qa qh qs) ((if_neg hb).trans ((if_neg (by rw [nI_clamp (show k < 2 ^ 31 by omega)]; exact not_not_intro ht)).trans ((if_neg hf).trans rfl)))) d_D_drop_26

set_option maxHeartbeats 4000000 in
set_option maxRecDepth 100000 in
theorem k_D_serves (l : Launch) (hst : l.stackTraces = false) (D : va_G) (k3 : ClassId × ClassId × ClassId) (sz : Nat) (dk : Nat) (qa : Nat → Nat) (qh : Nat → Nat) (qs : Nat → Nat) (o : sd_S) (x : Int32) (y : Int32) (ho : sS_ok o) : vx_Met l y_D_serves (sd_ws y_D_serves c_D_serves 3 none) ({ frames := 8, cells := 1, slots := 6, locals := 123 }) (sd_Px D (sd_t3 k3) [.ref dk, .int x, .int y] sz (sd_d1 dk qa qh qs ++ sd_dA k3 qa o ++ sd_H k3 qh (sS_u o))) (sd_Qv D (sd_t3 k3) (va_A (sd_d1 dk qa qh qs ++ sd_dA k3 qa o ++ sd_H k3 qh (sS_u o)) sz) (fun w => (sp_serves o x y).1 = "" ∧ w = sd_D3 k3 dk qa qh qs (sp_serves o x y).2.2)) (sd_X D (sd_t3 k3) (va_A (sd_d1 dk qa qh qs ++ sd_dA k3 qa o ++ sd_H k3 qh (sS_u o)) sz) (fun E w => (sp_serves o x y).1 = E ∧ ¬ E = "" ∧ w = sd_D3 k3 dk qa qh qs (sp_serves o x y).2.2)) 1 6 (va_A (sd_d1 dk qa qh qs ++ sd_dA k3 qa o ++ sd_H k3 qh (sS_u o)) sz) := by
  refine sd_metx (cc := c_D_serves) (maxL := 3) (ret := none) (by decide) (Nat.le_of_ble_eq_true rfl) (fun p e s m below meth c C hr hlk htb hz h ls hl => ?_)
  generalize va_A (sd_d1 dk qa qh qs ++ sd_dA k3 qa o ++ sd_H k3 qh (sS_u o)) sz = A at h hz ⊢
  have hl : lv_has ls 3 [(0, .ref dk), (1, .int x), (2, .int y)] := hl
  generalize hH : s.heap = H at h ⊢
  refine lv_iload_n C.1 C.2.1 d_D_serves_0 rfl (lv_at hl 1 rfl) ?_
  rcases Classical.em (sp_bad x 6) with hb | hb
  · have h := sd_world h (ws' := ([]) ++ ([]) ++ (sd_d1 dk qa qh qs ++ sd_dA k3 qa o ++ sd_H k3 qh (sS_u o))) (by simp only [sd_D2, sd_D3, sd_D4, List.append_assoc, List.nil_append, List.append_nil])
    refine sd_xcallv h (vx_runS (As := [.int x]) (rest := []) C (kx_D_requirePart l hst D k3 H.size x hb) (sd_cwS 1 C.2.2.2.2 tb_376 tb_377 tb_21 tb_378 rfl rfl (by decide +kernel) ⟨Nat.le_of_ble_eq_true rfl, Nat.le_of_ble_eq_true rfl⟩) (sd_preSx h hz) rfl rfl hl.1 rfl (lv_room (Nat.le_of_ble_eq_true rfl)) d_D_serves_1 ⟨Nat.le_of_ble_eq_true rfl, Nat.le_of_ble_eq_true rfl⟩) (fun E ce q9 w1 H locs hq h hce hcv hcl => ?_) (fun w1 H locs hq h => hq.elim)
    obtain ⟨rfl, rfl⟩ := hq
    have h := sd_world h (ws' := sd_d1 dk qa qh qs ++ sd_dA k3 qa o ++ sd_H k3 qh (sS_u o)) (by simp only [sd_D2, sd_D3, sd_D4, List.append_assoc, List.nil_append, List.append_nil])
    exact sd_on hlk htb h (sp_px (sd_D3 k3 dk qa qh qs) (o := o) (if_pos hb) (by decide)) hce hcv hcl (by decide) (by decide)
  have h := sd_world h (ws' := ([]) ++ ([]) ++ (sd_d1 dk qa qh qs ++ sd_dA k3 qa o ++ sd_H k3 qh (sS_u o))) (by simp only [sd_D2, sd_D3, sd_D4, List.append_assoc, List.nil_append, List.append_nil])
  refine sd_callv h (va_runS (As := [.int x]) (rest := []) C (k_D_requirePart l D k3 H.size x hb) (sd_cwS 1 C.2.2.2.2 tb_376 tb_377 tb_21 tb_378 rfl rfl (by decide +kernel) ⟨Nat.le_of_ble_eq_true rfl, Nat.le_of_ble_eq_true rfl⟩) (sd_preS h) rfl rfl hl.1 rfl (lv_room (Nat.le_of_ble_eq_true rfl)) d_D_serves_1 ⟨Nat.le_of_ble_eq_true rfl, Nat.le_of_ble_eq_true rfl⟩) (fun w1 H locs hq h => ?_)
  obtain rfl := hq
  have h := sd_world h (ws' := sd_d1 dk qa qh qs ++ sd_dA k3 qa o ++ sd_H k3 qh (sS_u o)) (by simp only [sd_D2, sd_D3, sd_D4, List.append_assoc, List.nil_append, List.append_nil])
  obtain ⟨pt, hpt, rfl⟩ := sp_in 6 rfl (by decide) hb
  refine lv_iload_n C.1 C.2.1 d_D_serves_4 rfl (lv_at hl 2 rfl) ?_
  rcases Classical.em (sp_bad y 5) with hb2 | hb2
  · have h := sd_world h (ws' := ([]) ++ ([]) ++ (sd_d1 dk qa qh qs ++ sd_dA k3 qa o ++ sd_H k3 qh (sS_u o))) (by simp only [sd_D2, sd_D3, sd_D4, List.append_assoc, List.nil_append, List.append_nil])
    refine sd_xcallv h (vx_runS (As := [.int y]) (rest := []) C (kx_D_requireKind l hst D k3 H.size y hb2) (sd_cwS 1 C.2.2.2.2 tb_185 tb_186 tb_21 tb_187 rfl rfl (by decide +kernel) ⟨Nat.le_of_ble_eq_true rfl, Nat.le_of_ble_eq_true rfl⟩) (sd_preSx h hz) rfl rfl hl.1 rfl (lv_room (Nat.le_of_ble_eq_true rfl)) d_D_serves_5 ⟨Nat.le_of_ble_eq_true rfl, Nat.le_of_ble_eq_true rfl⟩) (fun E ce q9 w1 H locs hq h hce hcv hcl => ?_) (fun w1 H locs hq h => hq.elim)
    obtain ⟨rfl, rfl⟩ := hq
    have h := sd_world h (ws' := sd_d1 dk qa qh qs ++ sd_dA k3 qa o ++ sd_H k3 qh (sS_u o)) (by simp only [sd_D2, sd_D3, sd_D4, List.append_assoc, List.nil_append, List.append_nil])
    exact sd_on hlk htb h (sp_px (sd_D3 k3 dk qa qh qs) (o := o) ((if_neg hb).trans (if_pos hb2)) (by decide)) hce hcv hcl (by decide) (by decide)
  have h := sd_world h (ws' := ([]) ++ ([]) ++ (sd_d1 dk qa qh qs ++ sd_dA k3 qa o ++ sd_H k3 qh (sS_u o))) (by simp only [sd_D2, sd_D3, sd_D4, List.append_assoc, List.nil_append, List.append_nil])
  refine sd_callv h (va_runS (As := [.int y]) (rest := []) C (k_D_requireKind l D k3 H.size y hb2) (sd_cwS 1 C.2.2.2.2 tb_185 tb_186 tb_21 tb_187 rfl rfl (by decide +kernel) ⟨Nat.le_of_ble_eq_true rfl, Nat.le_of_ble_eq_true rfl⟩) (sd_preS h) rfl rfl hl.1 rfl (lv_room (Nat.le_of_ble_eq_true rfl)) d_D_serves_5 ⟨Nat.le_of_ble_eq_true rfl, Nat.le_of_ble_eq_true rfl⟩) (fun w1 H locs hq h => ?_)
  obtain rfl := hq
  have h := sd_world h (ws' := sd_d1 dk qa qh qs ++ sd_dA k3 qa o ++ sd_H k3 qh (sS_u o)) (by simp only [sd_D2, sd_D3, sd_D4, List.append_assoc, List.nil_append, List.append_nil])
  obtain ⟨k, hk, rfl⟩ := sp_in 5 rfl (by decide) hb2
  refine lv_aload_n C.1 C.2.1 d_D_serves_8 rfl (lv_at hl 0 rfl) ?_
  rcases Classical.em (sp_full o) with hf | hf
  · have h := sd_world h (ws' := ([]) ++ (sd_d1 dk qa qh qs ++ sd_dA k3 qa o) ++ (sd_H k3 qh (sS_u o))) (by simp only [sd_D2, sd_D3, sd_D4, List.append_assoc, List.nil_append, List.append_nil])
    refine sd_xcallv h (vx_runV (As := []) (rest := []) C (kx_D_requireRoomForAct l hst D k3 H.size dk qa qh qs o ho hf) (sd_cwV 0 C.2.2.2.2 tb_280 tb_282 tb_3 tb_21 tb_283 rfl rfl (by decide +kernel) ⟨Nat.le_of_ble_eq_true rfl, Nat.le_of_ble_eq_true rfl⟩) (sd_preVx h hz (q0 := 0) (T := T_D) (N := 3) rfl rfl) rfl rfl hl.1 rfl (lv_room (Nat.le_of_ble_eq_true rfl)) d_D_serves_9 ⟨Nat.le_of_ble_eq_true rfl, Nat.le_of_ble_eq_true rfl⟩) (fun E ce q9 w1 H locs hq h hce hcv hcl => ?_) (fun w1 H locs hq h => hq.elim)
    obtain ⟨rfl, rfl⟩ := hq
    have h := sd_world h (ws' := sd_d1 dk qa qh qs ++ sd_dA k3 qa o ++ sd_H k3 qh (sS_u o)) (by simp only [sd_D2, sd_D3, sd_D4, List.append_assoc, List.nil_append, List.append_nil])
    exact sd_on hlk htb h (sp_px (sd_D3 k3 dk qa qh qs) (o := o) ((if_neg hb).trans ((if_neg hb2).trans (if_pos hf))) (by decide)) hce hcv hcl (by decide) (by decide)
  have h := sd_world h (ws' := ([]) ++ (sd_d1 dk qa qh qs ++ sd_dA k3 qa o) ++ (sd_H k3 qh (sS_u o))) (by simp only [sd_D2, sd_D3, sd_D4, List.append_assoc, List.nil_append, List.append_nil])
  refine sd_callv h (va_runV (As := []) (rest := []) C (k_D_requireRoomForAct l D k3 H.size dk qa qh qs o ho hf) (sd_cwV 0 C.2.2.2.2 tb_280 tb_282 tb_3 tb_21 tb_283 rfl rfl (by decide +kernel) ⟨Nat.le_of_ble_eq_true rfl, Nat.le_of_ble_eq_true rfl⟩) (sd_preV h (q0 := 0) (T := T_D) (N := 3) rfl rfl) rfl rfl hl.1 rfl (lv_room (Nat.le_of_ble_eq_true rfl)) d_D_serves_9 ⟨Nat.le_of_ble_eq_true rfl, Nat.le_of_ble_eq_true rfl⟩) (fun w1 H locs hq h => ?_)
  obtain rfl := hq
  have h := sd_world h (ws' := sd_d1 dk qa qh qs ++ sd_dA k3 qa o ++ sd_H k3 qh (sS_u o)) (by simp only [sd_D2, sd_D3, sd_D4, List.append_assoc, List.nil_append, List.append_nil])
  refine lv_aload_n C.1 C.2.1 d_D_serves_12 rfl (lv_at hl 0 rfl) ?_
  refine lv_iconst (v := 2) C.1 C.2.1 d_D_serves_13 (by decide) ?_
  refine lv_iload_n C.1 C.2.1 d_D_serves_14 rfl (lv_at hl 1 rfl) ?_
  refine lv_iload_n C.1 C.2.1 d_D_serves_15 rfl (lv_at hl 2 rfl) ?_
  refine lv_iconst (v := 0) C.1 C.2.1 d_D_serves_16 (by decide) ?_
  have h := sd_world h (ws' := ([]) ++ (sd_d1 dk qa qh qs ++ sd_dA k3 qa o ++ sd_H k3 qh (sS_u o)) ++ ([])) (by simp only [sd_D2, sd_D3, sd_D4, List.append_assoc, List.nil_append, List.append_nil])
  refine sd_calll h (va_runV (As := [.int 2, .int (nI pt), .int (nI k), .int 0]) (rest := []) C (k_D_doAndKeep l D k3 H.size dk qa qh qs o 2 (nI pt) (nI k) 0 (Classical.not_not.mp hf) (Or.inr (Or.inr (Or.inl ⟨rfl, pt, k, hpt, hk, rfl, rfl⟩)))) (sd_cwV 4 C.2.2.2.2 tb_285 tb_287 tb_4 tb_21 tb_288 rfl rfl (by decide +kernel) ⟨Nat.le_of_ble_eq_true rfl, Nat.le_of_ble_eq_true rfl⟩) (sd_preV h (q0 := 0) (T := T_D) (N := 3) rfl rfl) rfl rfl hl.1 rfl (lv_room (Nat.le_of_ble_eq_true rfl)) d_D_serves_17 ⟨Nat.le_of_ble_eq_true rfl, Nat.le_of_ble_eq_true rfl⟩) (fun r w1 H locs hq h => ?_)
  obtain ⟨rfl, rfl⟩ := hq
  have h := sd_world h (ws' := sd_d1 dk qa qh qs ++ sd_dA k3 qa (sS_put o 2 (nI pt) (nI k) 0) ++ sd_H k3 qh (sS_u (sS_put o 2 (nI pt) (nI k) 0))) (by simp only [sd_D2, sd_D3, sd_D4, List.append_assoc, List.nil_append, List.append_nil])
  refine lv_pop2_2 C.1 C.2.1 d_D_serves_20 rfl ?_
  refine W.widen (k := 1) (n := 6) (by decide) (by decide) ?_
  refine vx_ret ?_
  exact sd_vret C hr hlk h (sp_prv (sd_D3 k3 dk qa qh qs) ((if_neg hb).trans ((if_neg hb2).trans ((if_neg hf).trans rfl)))) d_D_serves_21

set_option maxHeartbeats 4000000 in
set_option maxRecDepth 100000 in
theorem k_D_answers (l : Launch) (hst : l.stackTraces = false) (D : va_G) (k3 : ClassId × ClassId × ClassId) (sz : Nat) (dk : Nat) (qa : Nat → Nat) (qh : Nat → Nat) (qs : Nat → Nat) (o : sd_S) (x : Int32) (y : Int32) (z : Int32) (ho : sS_ok o) : vx_Met l y_D_answers (sd_ws y_D_answers c_D_answers 4 none) ({ frames := 8, cells := 1, slots := 6, locals := 123 }) (sd_Px D (sd_t3 k3) [.ref dk, .int x, .int y, .int z] sz (sd_d1 dk qa qh qs ++ sd_dA k3 qa o ++ sd_H k3 qh (sS_u o))) (sd_Qv D (sd_t3 k3) (va_A (sd_d1 dk qa qh qs ++ sd_dA k3 qa o ++ sd_H k3 qh (sS_u o)) sz) (fun w => (sp_answers o x y z).1 = "" ∧ w = sd_D3 k3 dk qa qh qs (sp_answers o x y z).2.2)) (sd_X D (sd_t3 k3) (va_A (sd_d1 dk qa qh qs ++ sd_dA k3 qa o ++ sd_H k3 qh (sS_u o)) sz) (fun E w => (sp_answers o x y z).1 = E ∧ ¬ E = "" ∧ w = sd_D3 k3 dk qa qh qs (sp_answers o x y z).2.2)) 1 6 (va_A (sd_d1 dk qa qh qs ++ sd_dA k3 qa o ++ sd_H k3 qh (sS_u o)) sz) := by
  refine sd_metx (cc := c_D_answers) (maxL := 4) (ret := none) (by decide) (Nat.le_of_ble_eq_true rfl) (fun p e s m below meth c C hr hlk htb hz h ls hl => ?_)
  generalize va_A (sd_d1 dk qa qh qs ++ sd_dA k3 qa o ++ sd_H k3 qh (sS_u o)) sz = A at h hz ⊢
  have hl : lv_has ls 4 [(0, .ref dk), (1, .int x), (2, .int y), (3, .int z)] := hl
  generalize hH : s.heap = H at h ⊢
  refine lv_iload_n C.1 C.2.1 d_D_answers_0 rfl (lv_at hl 1 rfl) ?_
  rcases Classical.em (sp_bad x 6) with hb | hb
  · have h := sd_world h (ws' := ([]) ++ ([]) ++ (sd_d1 dk qa qh qs ++ sd_dA k3 qa o ++ sd_H k3 qh (sS_u o))) (by simp only [sd_D2, sd_D3, sd_D4, List.append_assoc, List.nil_append, List.append_nil])
    refine sd_xcallv h (vx_runS (As := [.int x]) (rest := []) C (kx_D_requirePart l hst D k3 H.size x hb) (sd_cwS 1 C.2.2.2.2 tb_376 tb_377 tb_21 tb_378 rfl rfl (by decide +kernel) ⟨Nat.le_of_ble_eq_true rfl, Nat.le_of_ble_eq_true rfl⟩) (sd_preSx h hz) rfl rfl hl.1 rfl (lv_room (Nat.le_of_ble_eq_true rfl)) d_D_answers_1 ⟨Nat.le_of_ble_eq_true rfl, Nat.le_of_ble_eq_true rfl⟩) (fun E ce q9 w1 H locs hq h hce hcv hcl => ?_) (fun w1 H locs hq h => hq.elim)
    obtain ⟨rfl, rfl⟩ := hq
    have h := sd_world h (ws' := sd_d1 dk qa qh qs ++ sd_dA k3 qa o ++ sd_H k3 qh (sS_u o)) (by simp only [sd_D2, sd_D3, sd_D4, List.append_assoc, List.nil_append, List.append_nil])
    exact sd_on hlk htb h (sp_px (sd_D3 k3 dk qa qh qs) (o := o) (if_pos hb) (by decide)) hce hcv hcl (by decide) (by decide)
  have h := sd_world h (ws' := ([]) ++ ([]) ++ (sd_d1 dk qa qh qs ++ sd_dA k3 qa o ++ sd_H k3 qh (sS_u o))) (by simp only [sd_D2, sd_D3, sd_D4, List.append_assoc, List.nil_append, List.append_nil])
  refine sd_callv h (va_runS (As := [.int x]) (rest := []) C (k_D_requirePart l D k3 H.size x hb) (sd_cwS 1 C.2.2.2.2 tb_376 tb_377 tb_21 tb_378 rfl rfl (by decide +kernel) ⟨Nat.le_of_ble_eq_true rfl, Nat.le_of_ble_eq_true rfl⟩) (sd_preS h) rfl rfl hl.1 rfl (lv_room (Nat.le_of_ble_eq_true rfl)) d_D_answers_1 ⟨Nat.le_of_ble_eq_true rfl, Nat.le_of_ble_eq_true rfl⟩) (fun w1 H locs hq h => ?_)
  obtain rfl := hq
  have h := sd_world h (ws' := sd_d1 dk qa qh qs ++ sd_dA k3 qa o ++ sd_H k3 qh (sS_u o)) (by simp only [sd_D2, sd_D3, sd_D4, List.append_assoc, List.nil_append, List.append_nil])
  obtain ⟨pt, hpt, rfl⟩ := sp_in 6 rfl (by decide) hb
  refine lv_iload_n C.1 C.2.1 d_D_answers_4 rfl (lv_at hl 2 rfl) ?_
  rcases Classical.em (sp_amt y) with hb2 | hb2
  · have h := sd_world h (ws' := ([]) ++ ([]) ++ (sd_d1 dk qa qh qs ++ sd_dA k3 qa o ++ sd_H k3 qh (sS_u o))) (by simp only [sd_D2, sd_D3, sd_D4, List.append_assoc, List.nil_append, List.append_nil])
    refine sd_xcallv h (vx_runS (As := [.int y]) (rest := []) C (kx_D_requireAmount l hst D k3 H.size y hb2) (sd_cwS 1 C.2.2.2.2 tb_386 tb_387 tb_21 tb_388 rfl rfl (by decide +kernel) ⟨Nat.le_of_ble_eq_true rfl, Nat.le_of_ble_eq_true rfl⟩) (sd_preSx h hz) rfl rfl hl.1 rfl (lv_room (Nat.le_of_ble_eq_true rfl)) d_D_answers_5 ⟨Nat.le_of_ble_eq_true rfl, Nat.le_of_ble_eq_true rfl⟩) (fun E ce q9 w1 H locs hq h hce hcv hcl => ?_) (fun w1 H locs hq h => hq.elim)
    obtain ⟨rfl, rfl⟩ := hq
    have h := sd_world h (ws' := sd_d1 dk qa qh qs ++ sd_dA k3 qa o ++ sd_H k3 qh (sS_u o)) (by simp only [sd_D2, sd_D3, sd_D4, List.append_assoc, List.nil_append, List.append_nil])
    exact sd_on hlk htb h (sp_px (sd_D3 k3 dk qa qh qs) (o := o) ((if_neg hb).trans (if_pos hb2)) (by decide)) hce hcv hcl (by decide) (by decide)
  have h := sd_world h (ws' := ([]) ++ ([]) ++ (sd_d1 dk qa qh qs ++ sd_dA k3 qa o ++ sd_H k3 qh (sS_u o))) (by simp only [sd_D2, sd_D3, sd_D4, List.append_assoc, List.nil_append, List.append_nil])
  refine sd_callv h (va_runS (As := [.int y]) (rest := []) C (k_D_requireAmount l D k3 H.size y hb2) (sd_cwS 1 C.2.2.2.2 tb_386 tb_387 tb_21 tb_388 rfl rfl (by decide +kernel) ⟨Nat.le_of_ble_eq_true rfl, Nat.le_of_ble_eq_true rfl⟩) (sd_preS h) rfl rfl hl.1 rfl (lv_room (Nat.le_of_ble_eq_true rfl)) d_D_answers_5 ⟨Nat.le_of_ble_eq_true rfl, Nat.le_of_ble_eq_true rfl⟩) (fun w1 H locs hq h => ?_)
  obtain rfl := hq
  have h := sd_world h (ws' := sd_d1 dk qa qh qs ++ sd_dA k3 qa o ++ sd_H k3 qh (sS_u o)) (by simp only [sd_D2, sd_D3, sd_D4, List.append_assoc, List.nil_append, List.append_nil])
  refine lv_iload_n C.1 C.2.1 d_D_answers_8 rfl (lv_at hl 3 rfl) ?_
  rcases Classical.em (sp_amt z) with hb3 | hb3
  · have h := sd_world h (ws' := ([]) ++ ([]) ++ (sd_d1 dk qa qh qs ++ sd_dA k3 qa o ++ sd_H k3 qh (sS_u o))) (by simp only [sd_D2, sd_D3, sd_D4, List.append_assoc, List.nil_append, List.append_nil])
    refine sd_xcallv h (vx_runS (As := [.int z]) (rest := []) C (kx_D_requireAmount l hst D k3 H.size z hb3) (sd_cwS 1 C.2.2.2.2 tb_386 tb_387 tb_21 tb_388 rfl rfl (by decide +kernel) ⟨Nat.le_of_ble_eq_true rfl, Nat.le_of_ble_eq_true rfl⟩) (sd_preSx h hz) rfl rfl hl.1 rfl (lv_room (Nat.le_of_ble_eq_true rfl)) d_D_answers_9 ⟨Nat.le_of_ble_eq_true rfl, Nat.le_of_ble_eq_true rfl⟩) (fun E ce q9 w1 H locs hq h hce hcv hcl => ?_) (fun w1 H locs hq h => hq.elim)
    obtain ⟨rfl, rfl⟩ := hq
    have h := sd_world h (ws' := sd_d1 dk qa qh qs ++ sd_dA k3 qa o ++ sd_H k3 qh (sS_u o)) (by simp only [sd_D2, sd_D3, sd_D4, List.append_assoc, List.nil_append, List.append_nil])
    exact sd_on hlk htb h (sp_px (sd_D3 k3 dk qa qh qs) (o := o) ((if_neg hb).trans ((if_neg hb2).trans (if_pos hb3))) (by decide)) hce hcv hcl (by decide) (by decide)
  have h := sd_world h (ws' := ([]) ++ ([]) ++ (sd_d1 dk qa qh qs ++ sd_dA k3 qa o ++ sd_H k3 qh (sS_u o))) (by simp only [sd_D2, sd_D3, sd_D4, List.append_assoc, List.nil_append, List.append_nil])
  refine sd_callv h (va_runS (As := [.int z]) (rest := []) C (k_D_requireAmount l D k3 H.size z hb3) (sd_cwS 1 C.2.2.2.2 tb_386 tb_387 tb_21 tb_388 rfl rfl (by decide +kernel) ⟨Nat.le_of_ble_eq_true rfl, Nat.le_of_ble_eq_true rfl⟩) (sd_preS h) rfl rfl hl.1 rfl (lv_room (Nat.le_of_ble_eq_true rfl)) d_D_answers_9 ⟨Nat.le_of_ble_eq_true rfl, Nat.le_of_ble_eq_true rfl⟩) (fun w1 H locs hq h => ?_)
  obtain rfl := hq
  have h := sd_world h (ws' := sd_d1 dk qa qh qs ++ sd_dA k3 qa o ++ sd_H k3 qh (sS_u o)) (by simp only [sd_D2, sd_D3, sd_D4, List.append_assoc, List.nil_append, List.append_nil])
  refine lv_aload_n C.1 C.2.1 d_D_answers_12 rfl (lv_at hl 0 rfl) ?_
  rcases Classical.em (sp_full o) with hf | hf
  · have h := sd_world h (ws' := ([]) ++ (sd_d1 dk qa qh qs ++ sd_dA k3 qa o) ++ (sd_H k3 qh (sS_u o))) (by simp only [sd_D2, sd_D3, sd_D4, List.append_assoc, List.nil_append, List.append_nil])
    refine sd_xcallv h (vx_runV (As := []) (rest := []) C (kx_D_requireRoomForAct l hst D k3 H.size dk qa qh qs o ho hf) (sd_cwV 0 C.2.2.2.2 tb_280 tb_282 tb_3 tb_21 tb_283 rfl rfl (by decide +kernel) ⟨Nat.le_of_ble_eq_true rfl, Nat.le_of_ble_eq_true rfl⟩) (sd_preVx h hz (q0 := 0) (T := T_D) (N := 3) rfl rfl) rfl rfl hl.1 rfl (lv_room (Nat.le_of_ble_eq_true rfl)) d_D_answers_13 ⟨Nat.le_of_ble_eq_true rfl, Nat.le_of_ble_eq_true rfl⟩) (fun E ce q9 w1 H locs hq h hce hcv hcl => ?_) (fun w1 H locs hq h => hq.elim)
    obtain ⟨rfl, rfl⟩ := hq
    have h := sd_world h (ws' := sd_d1 dk qa qh qs ++ sd_dA k3 qa o ++ sd_H k3 qh (sS_u o)) (by simp only [sd_D2, sd_D3, sd_D4, List.append_assoc, List.nil_append, List.append_nil])
    exact sd_on hlk htb h (sp_px (sd_D3 k3 dk qa qh qs) (o := o) ((if_neg hb).trans ((if_neg hb2).trans ((if_neg hb3).trans (if_pos hf)))) (by decide)) hce hcv hcl (by decide) (by decide)
  have h := sd_world h (ws' := ([]) ++ (sd_d1 dk qa qh qs ++ sd_dA k3 qa o) ++ (sd_H k3 qh (sS_u o))) (by simp only [sd_D2, sd_D3, sd_D4, List.append_assoc, List.nil_append, List.append_nil])
  refine sd_callv h (va_runV (As := []) (rest := []) C (k_D_requireRoomForAct l D k3 H.size dk qa qh qs o ho hf) (sd_cwV 0 C.2.2.2.2 tb_280 tb_282 tb_3 tb_21 tb_283 rfl rfl (by decide +kernel) ⟨Nat.le_of_ble_eq_true rfl, Nat.le_of_ble_eq_true rfl⟩) (sd_preV h (q0 := 0) (T := T_D) (N := 3) rfl rfl) rfl rfl hl.1 rfl (lv_room (Nat.le_of_ble_eq_true rfl)) d_D_answers_13 ⟨Nat.le_of_ble_eq_true rfl, Nat.le_of_ble_eq_true rfl⟩) (fun w1 H locs hq h => ?_)
  obtain rfl := hq
  have h := sd_world h (ws' := sd_d1 dk qa qh qs ++ sd_dA k3 qa o ++ sd_H k3 qh (sS_u o)) (by simp only [sd_D2, sd_D3, sd_D4, List.append_assoc, List.nil_append, List.append_nil])
  refine lv_aload_n C.1 C.2.1 d_D_answers_16 rfl (lv_at hl 0 rfl) ?_
  refine lv_iconst (v := 3) C.1 C.2.1 d_D_answers_17 (by decide) ?_
  refine lv_iload_n C.1 C.2.1 d_D_answers_18 rfl (lv_at hl 1 rfl) ?_
  refine lv_iload_n C.1 C.2.1 d_D_answers_19 rfl (lv_at hl 2 rfl) ?_
  refine lv_iload_n C.1 C.2.1 d_D_answers_20 rfl (lv_at hl 3 rfl) ?_
  have h := sd_world h (ws' := ([]) ++ (sd_d1 dk qa qh qs ++ sd_dA k3 qa o ++ sd_H k3 qh (sS_u o)) ++ ([])) (by simp only [sd_D2, sd_D3, sd_D4, List.append_assoc, List.nil_append, List.append_nil])
  refine sd_calll h (va_runV (As := [.int 3, .int (nI pt), .int y, .int z]) (rest := []) C (k_D_doAndKeep l D k3 H.size dk qa qh qs o 3 (nI pt) y z (Classical.not_not.mp hf) (Or.inr (Or.inr (Or.inr (Or.inl ⟨rfl, pt, hpt, rfl⟩))))) (sd_cwV 4 C.2.2.2.2 tb_285 tb_287 tb_4 tb_21 tb_288 rfl rfl (by decide +kernel) ⟨Nat.le_of_ble_eq_true rfl, Nat.le_of_ble_eq_true rfl⟩) (sd_preV h (q0 := 0) (T := T_D) (N := 3) rfl rfl) rfl rfl hl.1 rfl (lv_room (Nat.le_of_ble_eq_true rfl)) d_D_answers_21 ⟨Nat.le_of_ble_eq_true rfl, Nat.le_of_ble_eq_true rfl⟩) (fun r w1 H locs hq h => ?_)
  obtain ⟨rfl, rfl⟩ := hq
  have h := sd_world h (ws' := sd_d1 dk qa qh qs ++ sd_dA k3 qa (sS_put o 3 (nI pt) y z) ++ sd_H k3 qh (sS_u (sS_put o 3 (nI pt) y z))) (by simp only [sd_D2, sd_D3, sd_D4, List.append_assoc, List.nil_append, List.append_nil])
  refine lv_pop2_2 C.1 C.2.1 d_D_answers_24 rfl ?_
  refine W.widen (k := 1) (n := 6) (by decide) (by decide) ?_
  refine vx_ret ?_
  exact sd_vret C hr hlk h (sp_prv (sd_D3 k3 dk qa qh qs) ((if_neg hb).trans ((if_neg hb2).trans ((if_neg hb3).trans ((if_neg hf).trans rfl))))) d_D_answers_25

set_option maxHeartbeats 4000000 in
set_option maxRecDepth 100000 in
theorem k_D_fails (l : Launch) (hst : l.stackTraces = false) (D : va_G) (k3 : ClassId × ClassId × ClassId) (sz : Nat) (dk : Nat) (qa : Nat → Nat) (qh : Nat → Nat) (qs : Nat → Nat) (o : sd_S) (x : Int32) (y : Int32) (ho : sS_ok o) : vx_Met l y_D_fails (sd_ws y_D_fails c_D_fails 3 (some FieldType.int)) ({ frames := 8, cells := 1, slots := 6, locals := 123 }) (sd_Px D (sd_t3 k3) [.ref dk, .int x, .int y] sz (sd_d1 dk qa qh qs ++ sd_dA k3 qa o ++ sd_H k3 qh (sS_u o))) (sd_Qi D (sd_t3 k3) (va_A (sd_d1 dk qa qh qs ++ sd_dA k3 qa o ++ sd_H k3 qh (sS_u o)) sz) (fun r w => (sp_fails o x y).1 = "" ∧ r = (sp_fails o x y).2.1.toInt32 ∧ w = sd_D3 k3 dk qa qh qs (sp_fails o x y).2.2)) (sd_X D (sd_t3 k3) (va_A (sd_d1 dk qa qh qs ++ sd_dA k3 qa o ++ sd_H k3 qh (sS_u o)) sz) (fun E w => (sp_fails o x y).1 = E ∧ ¬ E = "" ∧ w = sd_D3 k3 dk qa qh qs (sp_fails o x y).2.2)) 1 6 (va_A (sd_d1 dk qa qh qs ++ sd_dA k3 qa o ++ sd_H k3 qh (sS_u o)) sz) := by
  refine sd_metx (cc := c_D_fails) (maxL := 3) (ret := some .int) (by decide) (Nat.le_of_ble_eq_true rfl) (fun p e s m below meth c C hr hlk htb hz h ls hl => ?_)
  generalize va_A (sd_d1 dk qa qh qs ++ sd_dA k3 qa o ++ sd_H k3 qh (sS_u o)) sz = A at h hz ⊢
  have hl : lv_has ls 3 [(0, .ref dk), (1, .int x), (2, .int y)] := hl
  generalize hH : s.heap = H at h ⊢
  refine lv_iload_n C.1 C.2.1 d_D_fails_0 rfl (lv_at hl 1 rfl) ?_
  rcases Classical.em (sp_bad x 6) with hb | hb
  · have h := sd_world h (ws' := ([]) ++ ([]) ++ (sd_d1 dk qa qh qs ++ sd_dA k3 qa o ++ sd_H k3 qh (sS_u o))) (by simp only [sd_D2, sd_D3, sd_D4, List.append_assoc, List.nil_append, List.append_nil])
    refine sd_xcallv h (vx_runS (As := [.int x]) (rest := []) C (kx_D_requirePart l hst D k3 H.size x hb) (sd_cwS 1 C.2.2.2.2 tb_376 tb_377 tb_21 tb_378 rfl rfl (by decide +kernel) ⟨Nat.le_of_ble_eq_true rfl, Nat.le_of_ble_eq_true rfl⟩) (sd_preSx h hz) rfl rfl hl.1 rfl (lv_room (Nat.le_of_ble_eq_true rfl)) d_D_fails_1 ⟨Nat.le_of_ble_eq_true rfl, Nat.le_of_ble_eq_true rfl⟩) (fun E ce q9 w1 H locs hq h hce hcv hcl => ?_) (fun w1 H locs hq h => hq.elim)
    obtain ⟨rfl, rfl⟩ := hq
    have h := sd_world h (ws' := sd_d1 dk qa qh qs ++ sd_dA k3 qa o ++ sd_H k3 qh (sS_u o)) (by simp only [sd_D2, sd_D3, sd_D4, List.append_assoc, List.nil_append, List.append_nil])
    exact sd_on hlk htb h (sp_px (sd_D3 k3 dk qa qh qs) (o := o) (if_pos hb) (by decide)) hce hcv hcl (by decide) (by decide)
  have h := sd_world h (ws' := ([]) ++ ([]) ++ (sd_d1 dk qa qh qs ++ sd_dA k3 qa o ++ sd_H k3 qh (sS_u o))) (by simp only [sd_D2, sd_D3, sd_D4, List.append_assoc, List.nil_append, List.append_nil])
  refine sd_callv h (va_runS (As := [.int x]) (rest := []) C (k_D_requirePart l D k3 H.size x hb) (sd_cwS 1 C.2.2.2.2 tb_376 tb_377 tb_21 tb_378 rfl rfl (by decide +kernel) ⟨Nat.le_of_ble_eq_true rfl, Nat.le_of_ble_eq_true rfl⟩) (sd_preS h) rfl rfl hl.1 rfl (lv_room (Nat.le_of_ble_eq_true rfl)) d_D_fails_1 ⟨Nat.le_of_ble_eq_true rfl, Nat.le_of_ble_eq_true rfl⟩) (fun w1 H locs hq h => ?_)
  obtain rfl := hq
  have h := sd_world h (ws' := sd_d1 dk qa qh qs ++ sd_dA k3 qa o ++ sd_H k3 qh (sS_u o)) (by simp only [sd_D2, sd_D3, sd_D4, List.append_assoc, List.nil_append, List.append_nil])
  obtain ⟨pt, hpt, rfl⟩ := sp_in 6 rfl (by decide) hb
  refine lv_iload_n C.1 C.2.1 d_D_fails_4 rfl (lv_at hl 2 rfl) ?_
  refine lv_iconst (v := 4) C.1 C.2.1 d_D_fails_5 (by decide) ?_
  rcases Classical.em (sp_bad y 4) with hb2 | hb2
  · have h := sd_world h (ws' := ([]) ++ ([]) ++ (sd_d1 dk qa qh qs ++ sd_dA k3 qa o ++ sd_H k3 qh (sS_u o))) (by simp only [sd_D2, sd_D3, sd_D4, List.append_assoc, List.nil_append, List.append_nil])
    refine sd_xcallv h (vx_runS (As := [.int y, .int 4]) (rest := []) C (kx_D_requireBelow l hst D k3 H.size y 4 hb2) (sd_cwS 2 C.2.2.2.2 tb_188 tb_189 tb_21 tb_190 rfl rfl (by decide +kernel) ⟨Nat.le_of_ble_eq_true rfl, Nat.le_of_ble_eq_true rfl⟩) (sd_preSx h hz) rfl rfl hl.1 rfl (lv_room (Nat.le_of_ble_eq_true rfl)) d_D_fails_6 ⟨Nat.le_of_ble_eq_true rfl, Nat.le_of_ble_eq_true rfl⟩) (fun E ce q9 w1 H locs hq h hce hcv hcl => ?_) (fun w1 H locs hq h => hq.elim)
    obtain ⟨rfl, rfl⟩ := hq
    have h := sd_world h (ws' := sd_d1 dk qa qh qs ++ sd_dA k3 qa o ++ sd_H k3 qh (sS_u o)) (by simp only [sd_D2, sd_D3, sd_D4, List.append_assoc, List.nil_append, List.append_nil])
    exact sd_on hlk htb h (sp_px (sd_D3 k3 dk qa qh qs) (o := o) ((if_neg hb).trans (if_pos hb2)) (by decide)) hce hcv hcl (by decide) (by decide)
  have h := sd_world h (ws' := ([]) ++ ([]) ++ (sd_d1 dk qa qh qs ++ sd_dA k3 qa o ++ sd_H k3 qh (sS_u o))) (by simp only [sd_D2, sd_D3, sd_D4, List.append_assoc, List.nil_append, List.append_nil])
  refine sd_callv h (va_runS (As := [.int y, .int 4]) (rest := []) C (k_D_requireBelow l D k3 H.size y 4 hb2) (sd_cwS 2 C.2.2.2.2 tb_188 tb_189 tb_21 tb_190 rfl rfl (by decide +kernel) ⟨Nat.le_of_ble_eq_true rfl, Nat.le_of_ble_eq_true rfl⟩) (sd_preS h) rfl rfl hl.1 rfl (lv_room (Nat.le_of_ble_eq_true rfl)) d_D_fails_6 ⟨Nat.le_of_ble_eq_true rfl, Nat.le_of_ble_eq_true rfl⟩) (fun w1 H locs hq h => ?_)
  obtain rfl := hq
  have h := sd_world h (ws' := sd_d1 dk qa qh qs ++ sd_dA k3 qa o ++ sd_H k3 qh (sS_u o)) (by simp only [sd_D2, sd_D3, sd_D4, List.append_assoc, List.nil_append, List.append_nil])
  refine lv_aload_n C.1 C.2.1 d_D_fails_9 rfl (lv_at hl 0 rfl) ?_
  rcases Classical.em (sp_full o) with hf | hf
  · have h := sd_world h (ws' := ([]) ++ (sd_d1 dk qa qh qs ++ sd_dA k3 qa o) ++ (sd_H k3 qh (sS_u o))) (by simp only [sd_D2, sd_D3, sd_D4, List.append_assoc, List.nil_append, List.append_nil])
    refine sd_xcallv h (vx_runV (As := []) (rest := []) C (kx_D_requireRoomForAct l hst D k3 H.size dk qa qh qs o ho hf) (sd_cwV 0 C.2.2.2.2 tb_280 tb_282 tb_3 tb_21 tb_283 rfl rfl (by decide +kernel) ⟨Nat.le_of_ble_eq_true rfl, Nat.le_of_ble_eq_true rfl⟩) (sd_preVx h hz (q0 := 0) (T := T_D) (N := 3) rfl rfl) rfl rfl hl.1 rfl (lv_room (Nat.le_of_ble_eq_true rfl)) d_D_fails_10 ⟨Nat.le_of_ble_eq_true rfl, Nat.le_of_ble_eq_true rfl⟩) (fun E ce q9 w1 H locs hq h hce hcv hcl => ?_) (fun w1 H locs hq h => hq.elim)
    obtain ⟨rfl, rfl⟩ := hq
    have h := sd_world h (ws' := sd_d1 dk qa qh qs ++ sd_dA k3 qa o ++ sd_H k3 qh (sS_u o)) (by simp only [sd_D2, sd_D3, sd_D4, List.append_assoc, List.nil_append, List.append_nil])
    exact sd_on hlk htb h (sp_px (sd_D3 k3 dk qa qh qs) (o := o) ((if_neg hb).trans ((if_neg hb2).trans (if_pos hf))) (by decide)) hce hcv hcl (by decide) (by decide)
  have h := sd_world h (ws' := ([]) ++ (sd_d1 dk qa qh qs ++ sd_dA k3 qa o) ++ (sd_H k3 qh (sS_u o))) (by simp only [sd_D2, sd_D3, sd_D4, List.append_assoc, List.nil_append, List.append_nil])
  refine sd_callv h (va_runV (As := []) (rest := []) C (k_D_requireRoomForAct l D k3 H.size dk qa qh qs o ho hf) (sd_cwV 0 C.2.2.2.2 tb_280 tb_282 tb_3 tb_21 tb_283 rfl rfl (by decide +kernel) ⟨Nat.le_of_ble_eq_true rfl, Nat.le_of_ble_eq_true rfl⟩) (sd_preV h (q0 := 0) (T := T_D) (N := 3) rfl rfl) rfl rfl hl.1 rfl (lv_room (Nat.le_of_ble_eq_true rfl)) d_D_fails_10 ⟨Nat.le_of_ble_eq_true rfl, Nat.le_of_ble_eq_true rfl⟩) (fun w1 H locs hq h => ?_)
  obtain rfl := hq
  have h := sd_world h (ws' := sd_d1 dk qa qh qs ++ sd_dA k3 qa o ++ sd_H k3 qh (sS_u o)) (by simp only [sd_D2, sd_D3, sd_D4, List.append_assoc, List.nil_append, List.append_nil])
  refine lv_aload_n C.1 C.2.1 d_D_fails_13 rfl (lv_at hl 0 rfl) ?_
  refine lv_iconst (v := 4) C.1 C.2.1 d_D_fails_14 (by decide) ?_
  refine lv_iload_n C.1 C.2.1 d_D_fails_15 rfl (lv_at hl 1 rfl) ?_
  refine lv_iload_n C.1 C.2.1 d_D_fails_16 rfl (lv_at hl 2 rfl) ?_
  refine lv_iconst (v := 0) C.1 C.2.1 d_D_fails_17 (by decide) ?_
  have h := sd_world h (ws' := ([]) ++ (sd_d1 dk qa qh qs ++ sd_dA k3 qa o ++ sd_H k3 qh (sS_u o)) ++ ([])) (by simp only [sd_D2, sd_D3, sd_D4, List.append_assoc, List.nil_append, List.append_nil])
  refine sd_calll h (va_runV (As := [.int 4, .int (nI pt), .int y, .int 0]) (rest := []) C (k_D_doAndKeep l D k3 H.size dk qa qh qs o 4 (nI pt) y 0 (Classical.not_not.mp hf) (Or.inr (Or.inr (Or.inr (Or.inr (Or.inl ⟨rfl, pt, hpt, rfl, fun z => hb2 (Or.inl z)⟩)))))) (sd_cwV 4 C.2.2.2.2 tb_285 tb_287 tb_4 tb_21 tb_288 rfl rfl (by decide +kernel) ⟨Nat.le_of_ble_eq_true rfl, Nat.le_of_ble_eq_true rfl⟩) (sd_preV h (q0 := 0) (T := T_D) (N := 3) rfl rfl) rfl rfl hl.1 rfl (lv_room (Nat.le_of_ble_eq_true rfl)) d_D_fails_18 ⟨Nat.le_of_ble_eq_true rfl, Nat.le_of_ble_eq_true rfl⟩) (fun r w1 H locs hq h => ?_)
  obtain ⟨rfl, rfl⟩ := hq
  have h := sd_world h (ws' := sd_d1 dk qa qh qs ++ sd_dA k3 qa (sS_put o 4 (nI pt) y 0) ++ sd_H k3 qh (sS_u (sS_put o 4 (nI pt) y 0))) (by simp only [sd_D2, sd_D3, sd_D4, List.append_assoc, List.nil_append, List.append_nil])
  refine lv_l2i (v := (sd_an (sS_u o) 4 (nI pt) y 0).toInt32) C.1 C.2.1 d_D_fails_21 rfl ?_
  refine W.widen (k := 1) (n := 6) (by decide) (by decide) ?_
  refine vx_ret ?_
  exact sd_iret (v := (sd_an (sS_u o) 4 (nI pt) y 0).toInt32) C hr hlk h (sp_pri (sd_D3 k3 dk qa qh qs) ((if_neg hb).trans ((if_neg hb2).trans ((if_neg hf).trans rfl)))) d_D_fails_22

set_option maxHeartbeats 4000000 in
set_option maxRecDepth 100000 in
theorem k_D_collect (l : Launch) (hst : l.stackTraces = false) (D : va_G) (k3 : ClassId × ClassId × ClassId) (sz : Nat) (dk : Nat) (qa : Nat → Nat) (qh : Nat → Nat) (qs : Nat → Nat) (o : sd_S) (x : Int32) (ho : sS_ok o) : vx_Met l y_D_collect (sd_ws y_D_collect c_D_collect 2 (some FieldType.int)) ({ frames := 7, cells := 1, slots := 6, locals := 103 }) (sd_Px D (sd_t3 k3) [.ref dk, .int x] sz (sd_d1 dk qa qh qs ++ sd_dA k3 qa o ++ sd_H k3 qh (sS_u o))) (sd_Qi D (sd_t3 k3) (va_A (sd_d1 dk qa qh qs ++ sd_dA k3 qa o ++ sd_H k3 qh (sS_u o)) sz) (fun r w => (sp_collect o x).1 = "" ∧ r = (sp_collect o x).2.1.toInt32 ∧ w = sd_D3 k3 dk qa qh qs (sp_collect o x).2.2)) (sd_X D (sd_t3 k3) (va_A (sd_d1 dk qa qh qs ++ sd_dA k3 qa o ++ sd_H k3 qh (sS_u o)) sz) (fun E w => (sp_collect o x).1 = E ∧ ¬ E = "" ∧ w = sd_D3 k3 dk qa qh qs (sp_collect o x).2.2)) 1 6 (va_A (sd_d1 dk qa qh qs ++ sd_dA k3 qa o ++ sd_H k3 qh (sS_u o)) sz) := by
  refine sd_metx (cc := c_D_collect) (maxL := 2) (ret := some .int) (by decide) (Nat.le_of_ble_eq_true rfl) (fun p e s m below meth c C hr hlk htb hz h ls hl => ?_)
  generalize va_A (sd_d1 dk qa qh qs ++ sd_dA k3 qa o ++ sd_H k3 qh (sS_u o)) sz = A at h hz ⊢
  have hl : lv_has ls 2 [(0, .ref dk), (1, .int x)] := hl
  generalize hH : s.heap = H at h ⊢
  refine lv_iload_n C.1 C.2.1 d_D_collect_0 rfl (lv_at hl 1 rfl) ?_
  refine lv_sipush (v := 256) C.1 C.2.1 d_D_collect_1 (by decide) ?_
  rcases Classical.em (sp_bad x 256) with hb | hb
  · have h := sd_world h (ws' := ([]) ++ ([]) ++ (sd_d1 dk qa qh qs ++ sd_dA k3 qa o ++ sd_H k3 qh (sS_u o))) (by simp only [sd_D2, sd_D3, sd_D4, List.append_assoc, List.nil_append, List.append_nil])
    refine sd_xcallv h (vx_runS (As := [.int x, .int 256]) (rest := []) C (kx_D_requireBelow l hst D k3 H.size x 256 hb) (sd_cwS 2 C.2.2.2.2 tb_188 tb_189 tb_21 tb_190 rfl rfl (by decide +kernel) ⟨Nat.le_of_ble_eq_true rfl, Nat.le_of_ble_eq_true rfl⟩) (sd_preSx h hz) rfl rfl hl.1 rfl (lv_room (Nat.le_of_ble_eq_true rfl)) d_D_collect_4 ⟨Nat.le_of_ble_eq_true rfl, Nat.le_of_ble_eq_true rfl⟩) (fun E ce q9 w1 H locs hq h hce hcv hcl => ?_) (fun w1 H locs hq h => hq.elim)
    obtain ⟨rfl, rfl⟩ := hq
    have h := sd_world h (ws' := sd_d1 dk qa qh qs ++ sd_dA k3 qa o ++ sd_H k3 qh (sS_u o)) (by simp only [sd_D2, sd_D3, sd_D4, List.append_assoc, List.nil_append, List.append_nil])
    exact sd_on hlk htb h (sp_px (sd_D3 k3 dk qa qh qs) (o := o) (if_pos hb) (by decide)) hce hcv hcl (by decide) (by decide)
  have h := sd_world h (ws' := ([]) ++ ([]) ++ (sd_d1 dk qa qh qs ++ sd_dA k3 qa o ++ sd_H k3 qh (sS_u o))) (by simp only [sd_D2, sd_D3, sd_D4, List.append_assoc, List.nil_append, List.append_nil])
  refine sd_callv h (va_runS (As := [.int x, .int 256]) (rest := []) C (k_D_requireBelow l D k3 H.size x 256 hb) (sd_cwS 2 C.2.2.2.2 tb_188 tb_189 tb_21 tb_190 rfl rfl (by decide +kernel) ⟨Nat.le_of_ble_eq_true rfl, Nat.le_of_ble_eq_true rfl⟩) (sd_preS h) rfl rfl hl.1 rfl (lv_room (Nat.le_of_ble_eq_true rfl)) d_D_collect_4 ⟨Nat.le_of_ble_eq_true rfl, Nat.le_of_ble_eq_true rfl⟩) (fun w1 H locs hq h => ?_)
  obtain rfl := hq
  have h := sd_world h (ws' := sd_d1 dk qa qh qs ++ sd_dA k3 qa o ++ sd_H k3 qh (sS_u o)) (by simp only [sd_D2, sd_D3, sd_D4, List.append_assoc, List.nil_append, List.append_nil])
  refine lv_aload_n C.1 C.2.1 d_D_collect_7 rfl (lv_at hl 0 rfl) ?_
  rcases Classical.em (sp_full o) with hf | hf
  · have h := sd_world h (ws' := ([]) ++ (sd_d1 dk qa qh qs ++ sd_dA k3 qa o) ++ (sd_H k3 qh (sS_u o))) (by simp only [sd_D2, sd_D3, sd_D4, List.append_assoc, List.nil_append, List.append_nil])
    refine sd_xcallv h (vx_runV (As := []) (rest := []) C (kx_D_requireRoomForAct l hst D k3 H.size dk qa qh qs o ho hf) (sd_cwV 0 C.2.2.2.2 tb_280 tb_282 tb_3 tb_21 tb_283 rfl rfl (by decide +kernel) ⟨Nat.le_of_ble_eq_true rfl, Nat.le_of_ble_eq_true rfl⟩) (sd_preVx h hz (q0 := 0) (T := T_D) (N := 3) rfl rfl) rfl rfl hl.1 rfl (lv_room (Nat.le_of_ble_eq_true rfl)) d_D_collect_8 ⟨Nat.le_of_ble_eq_true rfl, Nat.le_of_ble_eq_true rfl⟩) (fun E ce q9 w1 H locs hq h hce hcv hcl => ?_) (fun w1 H locs hq h => hq.elim)
    obtain ⟨rfl, rfl⟩ := hq
    have h := sd_world h (ws' := sd_d1 dk qa qh qs ++ sd_dA k3 qa o ++ sd_H k3 qh (sS_u o)) (by simp only [sd_D2, sd_D3, sd_D4, List.append_assoc, List.nil_append, List.append_nil])
    exact sd_on hlk htb h (sp_px (sd_D3 k3 dk qa qh qs) (o := o) ((if_neg hb).trans (if_pos hf)) (by decide)) hce hcv hcl (by decide) (by decide)
  have h := sd_world h (ws' := ([]) ++ (sd_d1 dk qa qh qs ++ sd_dA k3 qa o) ++ (sd_H k3 qh (sS_u o))) (by simp only [sd_D2, sd_D3, sd_D4, List.append_assoc, List.nil_append, List.append_nil])
  refine sd_callv h (va_runV (As := []) (rest := []) C (k_D_requireRoomForAct l D k3 H.size dk qa qh qs o ho hf) (sd_cwV 0 C.2.2.2.2 tb_280 tb_282 tb_3 tb_21 tb_283 rfl rfl (by decide +kernel) ⟨Nat.le_of_ble_eq_true rfl, Nat.le_of_ble_eq_true rfl⟩) (sd_preV h (q0 := 0) (T := T_D) (N := 3) rfl rfl) rfl rfl hl.1 rfl (lv_room (Nat.le_of_ble_eq_true rfl)) d_D_collect_8 ⟨Nat.le_of_ble_eq_true rfl, Nat.le_of_ble_eq_true rfl⟩) (fun w1 H locs hq h => ?_)
  obtain rfl := hq
  have h := sd_world h (ws' := sd_d1 dk qa qh qs ++ sd_dA k3 qa o ++ sd_H k3 qh (sS_u o)) (by simp only [sd_D2, sd_D3, sd_D4, List.append_assoc, List.nil_append, List.append_nil])
  refine lv_aload_n C.1 C.2.1 d_D_collect_11 rfl (lv_at hl 0 rfl) ?_
  refine lv_bipush (v := 6) C.1 C.2.1 d_D_collect_12 (by decide) ?_
  refine lv_iload_n C.1 C.2.1 d_D_collect_14 rfl (lv_at hl 1 rfl) ?_
  refine lv_iconst (v := 0) C.1 C.2.1 d_D_collect_15 (by decide) ?_
  refine lv_iconst (v := 0) C.1 C.2.1 d_D_collect_16 (by decide) ?_
  have h := sd_world h (ws' := ([]) ++ (sd_d1 dk qa qh qs ++ sd_dA k3 qa o ++ sd_H k3 qh (sS_u o)) ++ ([])) (by simp only [sd_D2, sd_D3, sd_D4, List.append_assoc, List.nil_append, List.append_nil])
  refine sd_calll h (va_runV (As := [.int 6, .int x, .int 0, .int 0]) (rest := []) C (k_D_doAndKeep l D k3 H.size dk qa qh qs o 6 x 0 0 (Classical.not_not.mp hf) (Or.inr (Or.inr (Or.inr (Or.inr (Or.inr (Or.inr rfl))))))) (sd_cwV 4 C.2.2.2.2 tb_285 tb_287 tb_4 tb_21 tb_288 rfl rfl (by decide +kernel) ⟨Nat.le_of_ble_eq_true rfl, Nat.le_of_ble_eq_true rfl⟩) (sd_preV h (q0 := 0) (T := T_D) (N := 3) rfl rfl) rfl rfl hl.1 rfl (lv_room (Nat.le_of_ble_eq_true rfl)) d_D_collect_17 ⟨Nat.le_of_ble_eq_true rfl, Nat.le_of_ble_eq_true rfl⟩) (fun r w1 H locs hq h => ?_)
  obtain ⟨rfl, rfl⟩ := hq
  have h := sd_world h (ws' := sd_d1 dk qa qh qs ++ sd_dA k3 qa (sS_put o 6 x 0 0) ++ sd_H k3 qh (sS_u (sS_put o 6 x 0 0))) (by simp only [sd_D2, sd_D3, sd_D4, List.append_assoc, List.nil_append, List.append_nil])
  refine lv_l2i (v := (sd_an (sS_u o) 6 x 0 0).toInt32) C.1 C.2.1 d_D_collect_20 rfl ?_
  refine W.widen (k := 1) (n := 6) (by decide) (by decide) ?_
  refine vx_ret ?_
  exact sd_iret (v := (sd_an (sS_u o) 6 x 0 0).toInt32) C hr hlk h (sp_pri (sd_D3 k3 dk qa qh qs) ((if_neg hb).trans ((if_neg hf).trans rfl))) d_D_collect_21

set_option maxHeartbeats 4000000 in
set_option maxRecDepth 100000 in
theorem k_D_call (l : Launch) (hst : l.stackTraces = false) (D : va_G) (k3 : ClassId × ClassId × ClassId) (sz : Nat) (dk : Nat) (qa : Nat → Nat) (qh : Nat → Nat) (qs : Nat → Nat) (o : sd_S) (x : Int32) (y : Int32) (z : Int32) (ho : sS_ok o) : vx_Met l y_D_call (sd_ws y_D_call c_D_call 7 (some FieldType.long)) ({ frames := 8, cells := 1, slots := 6, locals := 123 }) (sd_Px D (sd_t3 k3) [.ref dk, .int x, .int y, .int z] sz (sd_d1 dk qa qh qs ++ sd_dA k3 qa o ++ sd_H k3 qh (sS_u o))) (sd_Ql D (sd_t3 k3) (va_A (sd_d1 dk qa qh qs ++ sd_dA k3 qa o ++ sd_H k3 qh (sS_u o)) sz) (fun r w => (sp_call o x y z).1 = "" ∧ r = (sp_call o x y z).2.1 ∧ w = sd_D3 k3 dk qa qh qs (sp_call o x y z).2.2)) (sd_X D (sd_t3 k3) (va_A (sd_d1 dk qa qh qs ++ sd_dA k3 qa o ++ sd_H k3 qh (sS_u o)) sz) (fun E w => (sp_call o x y z).1 = E ∧ ¬ E = "" ∧ w = sd_D3 k3 dk qa qh qs (sp_call o x y z).2.2)) 1 6 (va_A (sd_d1 dk qa qh qs ++ sd_dA k3 qa o ++ sd_H k3 qh (sS_u o)) sz) := by
  refine sd_metx (cc := c_D_call) (maxL := 7) (ret := some .long) (by decide) (Nat.le_of_ble_eq_true rfl) (fun p e s m below meth c C hr hlk htb hz h ls hl => ?_)
  generalize va_A (sd_d1 dk qa qh qs ++ sd_dA k3 qa o ++ sd_H k3 qh (sS_u o)) sz = A at h hz ⊢
  have hl : lv_has ls 7 [(0, .ref dk), (1, .int x), (2, .int y), (3, .int z)] := hl
  generalize hH : s.heap = H at h ⊢
  refine lv_iload_n C.1 C.2.1 d_D_call_0 rfl (lv_at hl 1 rfl) ?_
  rcases Classical.em (sp_bad x 6) with hb | hb
  · have h := sd_world h (ws' := ([]) ++ ([]) ++ (sd_d1 dk qa qh qs ++ sd_dA k3 qa o ++ sd_H k3 qh (sS_u o))) (by simp only [sd_D2, sd_D3, sd_D4, List.append_assoc, List.nil_append, List.append_nil])
    refine sd_xcallv h (vx_runS (As := [.int x]) (rest := []) C (kx_D_requirePart l hst D k3 H.size x hb) (sd_cwS 1 C.2.2.2.2 tb_376 tb_377 tb_21 tb_378 rfl rfl (by decide +kernel) ⟨Nat.le_of_ble_eq_true rfl, Nat.le_of_ble_eq_true rfl⟩) (sd_preSx h hz) rfl rfl hl.1 rfl (lv_room (Nat.le_of_ble_eq_true rfl)) d_D_call_1 ⟨Nat.le_of_ble_eq_true rfl, Nat.le_of_ble_eq_true rfl⟩) (fun E ce q9 w1 H locs hq h hce hcv hcl => ?_) (fun w1 H locs hq h => hq.elim)
    obtain ⟨rfl, rfl⟩ := hq
    have h := sd_world h (ws' := sd_d1 dk qa qh qs ++ sd_dA k3 qa o ++ sd_H k3 qh (sS_u o)) (by simp only [sd_D2, sd_D3, sd_D4, List.append_assoc, List.nil_append, List.append_nil])
    exact sd_on hlk htb h (sp_px (sd_D3 k3 dk qa qh qs) (o := o) (if_pos hb) (by decide)) hce hcv hcl (by decide) (by decide)
  have h := sd_world h (ws' := ([]) ++ ([]) ++ (sd_d1 dk qa qh qs ++ sd_dA k3 qa o ++ sd_H k3 qh (sS_u o))) (by simp only [sd_D2, sd_D3, sd_D4, List.append_assoc, List.nil_append, List.append_nil])
  refine sd_callv h (va_runS (As := [.int x]) (rest := []) C (k_D_requirePart l D k3 H.size x hb) (sd_cwS 1 C.2.2.2.2 tb_376 tb_377 tb_21 tb_378 rfl rfl (by decide +kernel) ⟨Nat.le_of_ble_eq_true rfl, Nat.le_of_ble_eq_true rfl⟩) (sd_preS h) rfl rfl hl.1 rfl (lv_room (Nat.le_of_ble_eq_true rfl)) d_D_call_1 ⟨Nat.le_of_ble_eq_true rfl, Nat.le_of_ble_eq_true rfl⟩) (fun w1 H locs hq h => ?_)
  obtain rfl := hq
  have h := sd_world h (ws' := sd_d1 dk qa qh qs ++ sd_dA k3 qa o ++ sd_H k3 qh (sS_u o)) (by simp only [sd_D2, sd_D3, sd_D4, List.append_assoc, List.nil_append, List.append_nil])
  obtain ⟨pt, hpt, rfl⟩ := sp_in 6 rfl (by decide) hb
  refine lv_iload_n C.1 C.2.1 d_D_call_4 rfl (lv_at hl 3 rfl) ?_
  rcases Classical.em (sp_amt z) with hb2 | hb2
  · have h := sd_world h (ws' := ([]) ++ ([]) ++ (sd_d1 dk qa qh qs ++ sd_dA k3 qa o ++ sd_H k3 qh (sS_u o))) (by simp only [sd_D2, sd_D3, sd_D4, List.append_assoc, List.nil_append, List.append_nil])
    refine sd_xcallv h (vx_runS (As := [.int z]) (rest := []) C (kx_D_requireAmount l hst D k3 H.size z hb2) (sd_cwS 1 C.2.2.2.2 tb_386 tb_387 tb_21 tb_388 rfl rfl (by decide +kernel) ⟨Nat.le_of_ble_eq_true rfl, Nat.le_of_ble_eq_true rfl⟩) (sd_preSx h hz) rfl rfl hl.1 rfl (lv_room (Nat.le_of_ble_eq_true rfl)) d_D_call_5 ⟨Nat.le_of_ble_eq_true rfl, Nat.le_of_ble_eq_true rfl⟩) (fun E ce q9 w1 H locs hq h hce hcv hcl => ?_) (fun w1 H locs hq h => hq.elim)
    obtain ⟨rfl, rfl⟩ := hq
    have h := sd_world h (ws' := sd_d1 dk qa qh qs ++ sd_dA k3 qa o ++ sd_H k3 qh (sS_u o)) (by simp only [sd_D2, sd_D3, sd_D4, List.append_assoc, List.nil_append, List.append_nil])
    exact sd_on hlk htb h (sp_px (sd_D3 k3 dk qa qh qs) (o := o) ((if_neg hb).trans (if_pos hb2)) (by decide)) hce hcv hcl (by decide) (by decide)
  have h := sd_world h (ws' := ([]) ++ ([]) ++ (sd_d1 dk qa qh qs ++ sd_dA k3 qa o ++ sd_H k3 qh (sS_u o))) (by simp only [sd_D2, sd_D3, sd_D4, List.append_assoc, List.nil_append, List.append_nil])
  refine sd_callv h (va_runS (As := [.int z]) (rest := []) C (k_D_requireAmount l D k3 H.size z hb2) (sd_cwS 1 C.2.2.2.2 tb_386 tb_387 tb_21 tb_388 rfl rfl (by decide +kernel) ⟨Nat.le_of_ble_eq_true rfl, Nat.le_of_ble_eq_true rfl⟩) (sd_preS h) rfl rfl hl.1 rfl (lv_room (Nat.le_of_ble_eq_true rfl)) d_D_call_5 ⟨Nat.le_of_ble_eq_true rfl, Nat.le_of_ble_eq_true rfl⟩) (fun w1 H locs hq h => ?_)
  obtain rfl := hq
  have h := sd_world h (ws' := sd_d1 dk qa qh qs ++ sd_dA k3 qa o ++ sd_H k3 qh (sS_u o)) (by simp only [sd_D2, sd_D3, sd_D4, List.append_assoc, List.nil_append, List.append_nil])
  refine lv_aload_n C.1 C.2.1 d_D_call_8 rfl (lv_at hl 0 rfl) ?_
  refine sd_get C h 0 1 (v := .ref (qh 0)) (ci := 2) (Cn := "StockDesk") (T := T_D) (N := 3) rfl rfl (by decide) in_D tb_139 rfl d_D_call_9 ?_
  refine lv_aload_n C.1 C.2.1 d_D_call_12 rfl (lv_at hl 0 rfl) ?_
  refine sd_get C h 0 1 (v := .ref (qh 0)) (ci := 2) (Cn := "StockDesk") (T := T_D) (N := 3) rfl rfl (by decide) in_D tb_139 rfl d_D_call_13 ?_
  refine lv_iload_n C.1 C.2.1 d_D_call_16 rfl (lv_at hl 1 rfl) ?_
  have h := sd_world h (ws' := (sd_d1 dk qa qh qs ++ sd_dA k3 qa o) ++ (sd_H k3 qh (sS_u o)) ++ ([])) (by simp only [sd_D2, sd_D3, sd_D4, List.append_assoc, List.nil_append, List.append_nil])
  refine sd_calli h (va_runV (As := [.int (nI pt)]) (rest := [.ref (qh 0)]) C (k_H_kindOf l D k3 H.size qh (sS_u o) pt hpt) (sd_cwV 1 C.2.2.2.2 tb_407 tb_408 tb_409 tb_23 tb_410 rfl rfl (by decide +kernel) ⟨Nat.le_of_ble_eq_true rfl, Nat.le_of_ble_eq_true rfl⟩) (sd_preV h (q0 := 6) (T := T_H) (N := 16) rfl rfl) rfl rfl hl.1 rfl (lv_room (Nat.le_of_ble_eq_true rfl)) d_D_call_17 ⟨Nat.le_of_ble_eq_true rfl, Nat.le_of_ble_eq_true rfl⟩) (fun r w1 H locs hq h => ?_)
  obtain ⟨rfl, rfl⟩ := hq
  have h := sd_world h (ws' := sd_d1 dk qa qh qs ++ sd_dA k3 qa o ++ sd_H k3 qh (sS_u o)) (by simp only [sd_D2, sd_D3, sd_D4, List.append_assoc, List.nil_append, List.append_nil])
  obtain ⟨k, hk, hkp⟩ := (sS_inv ho).2.1 pt hpt
  refine sd_top (v := .int (hf_pk (sS_u o) pt)) (v' := .int (nI k)) (congrArg Value.int (hkp)) ?_
  refine lv_iload_n C.1 C.2.1 d_D_call_20 rfl (lv_at hl 2 rfl) ?_
  rcases Classical.em (¬ hd_has (sS_u o) k y) with ht | ht
  · have h := sd_world h (ws' := (sd_d1 dk qa qh qs ++ sd_dA k3 qa o) ++ (sd_H k3 qh (sS_u o)) ++ ([])) (by simp only [sd_D2, sd_D3, sd_D4, List.append_assoc, List.nil_append, List.append_nil])
    refine sd_xcallv h (vx_runS (As := [.ref (qh 0), .int (nI k), .int y]) (rest := []) C (kx_D_requireThing l hst D k3 H.size qh (sS_u o) k y hk ht) (sd_cwS 3 C.2.2.2.2 tb_346 tb_347 tb_21 tb_348 rfl rfl (by decide +kernel) ⟨Nat.le_of_ble_eq_true rfl, Nat.le_of_ble_eq_true rfl⟩) (sd_preSx h hz) rfl rfl hl.1 rfl (lv_room (Nat.le_of_ble_eq_true rfl)) d_D_call_21 ⟨Nat.le_of_ble_eq_true rfl, Nat.le_of_ble_eq_true rfl⟩) (fun E ce q9 w1 H locs hq h hce hcv hcl => ?_) (fun w1 H locs hq h => hq.elim)
    obtain ⟨rfl, rfl⟩ := hq
    have h := sd_world h (ws' := sd_d1 dk qa qh qs ++ sd_dA k3 qa o ++ sd_H k3 qh (sS_u o)) (by simp only [sd_D2, sd_D3, sd_D4, List.append_assoc, List.nil_append, List.append_nil])
    exact sd_on hlk htb h (sp_px (sd_D3 k3 dk qa qh qs) (o := o) ((if_neg hb).trans ((if_neg hb2).trans (if_pos (by rw [nI_clamp (show pt < 2 ^ 31 by omega), hkp, nI_clamp (show k < 2 ^ 31 by omega)]; exact ht)))) (by decide)) hce hcv hcl (by decide) (by decide)
  have h := sd_world h (ws' := (sd_d1 dk qa qh qs ++ sd_dA k3 qa o) ++ (sd_H k3 qh (sS_u o)) ++ ([])) (by simp only [sd_D2, sd_D3, sd_D4, List.append_assoc, List.nil_append, List.append_nil])
  refine sd_callv h (va_runS (As := [.ref (qh 0), .int (nI k), .int y]) (rest := []) C (k_D_requireThing l D k3 H.size qh (sS_u o) k y hk ht) (sd_cwS 3 C.2.2.2.2 tb_346 tb_347 tb_21 tb_348 rfl rfl (by decide +kernel) ⟨Nat.le_of_ble_eq_true rfl, Nat.le_of_ble_eq_true rfl⟩) (sd_preS h) rfl rfl hl.1 rfl (lv_room (Nat.le_of_ble_eq_true rfl)) d_D_call_21 ⟨Nat.le_of_ble_eq_true rfl, Nat.le_of_ble_eq_true rfl⟩) (fun w1 H locs hq h => ?_)
  obtain rfl := hq
  have h := sd_world h (ws' := sd_d1 dk qa qh qs ++ sd_dA k3 qa o ++ sd_H k3 qh (sS_u o)) (by simp only [sd_D2, sd_D3, sd_D4, List.append_assoc, List.nil_append, List.append_nil])
  have ht := Classical.not_not.mp ht
  obtain ⟨j, h1, h9, rfl⟩ := sp_hasj ht
  refine lv_aload_n C.1 C.2.1 d_D_call_24 rfl (lv_at hl 0 rfl) ?_
  rcases Classical.em (sp_full o) with hf | hf
  · have h := sd_world h (ws' := ([]) ++ (sd_d1 dk qa qh qs ++ sd_dA k3 qa o) ++ (sd_H k3 qh (sS_u o))) (by simp only [sd_D2, sd_D3, sd_D4, List.append_assoc, List.nil_append, List.append_nil])
    refine sd_xcallv h (vx_runV (As := []) (rest := []) C (kx_D_requireRoomForAct l hst D k3 H.size dk qa qh qs o ho hf) (sd_cwV 0 C.2.2.2.2 tb_280 tb_282 tb_3 tb_21 tb_283 rfl rfl (by decide +kernel) ⟨Nat.le_of_ble_eq_true rfl, Nat.le_of_ble_eq_true rfl⟩) (sd_preVx h hz (q0 := 0) (T := T_D) (N := 3) rfl rfl) rfl rfl hl.1 rfl (lv_room (Nat.le_of_ble_eq_true rfl)) d_D_call_25 ⟨Nat.le_of_ble_eq_true rfl, Nat.le_of_ble_eq_true rfl⟩) (fun E ce q9 w1 H locs hq h hce hcv hcl => ?_) (fun w1 H locs hq h => hq.elim)
    obtain ⟨rfl, rfl⟩ := hq
    have h := sd_world h (ws' := sd_d1 dk qa qh qs ++ sd_dA k3 qa o ++ sd_H k3 qh (sS_u o)) (by simp only [sd_D2, sd_D3, sd_D4, List.append_assoc, List.nil_append, List.append_nil])
    exact sd_on hlk htb h (sp_px (sd_D3 k3 dk qa qh qs) (o := o) ((if_neg hb).trans ((if_neg hb2).trans ((if_neg (by rw [nI_clamp (show pt < 2 ^ 31 by omega), hkp, nI_clamp (show k < 2 ^ 31 by omega)]; exact not_not_intro ht)).trans (if_pos hf)))) (by decide)) hce hcv hcl (by decide) (by decide)
  have h := sd_world h (ws' := ([]) ++ (sd_d1 dk qa qh qs ++ sd_dA k3 qa o) ++ (sd_H k3 qh (sS_u o))) (by simp only [sd_D2, sd_D3, sd_D4, List.append_assoc, List.nil_append, List.append_nil])
  refine sd_callv h (va_runV (As := []) (rest := []) C (k_D_requireRoomForAct l D k3 H.size dk qa qh qs o ho hf) (sd_cwV 0 C.2.2.2.2 tb_280 tb_282 tb_3 tb_21 tb_283 rfl rfl (by decide +kernel) ⟨Nat.le_of_ble_eq_true rfl, Nat.le_of_ble_eq_true rfl⟩) (sd_preV h (q0 := 0) (T := T_D) (N := 3) rfl rfl) rfl rfl hl.1 rfl (lv_room (Nat.le_of_ble_eq_true rfl)) d_D_call_25 ⟨Nat.le_of_ble_eq_true rfl, Nat.le_of_ble_eq_true rfl⟩) (fun w1 H locs hq h => ?_)
  obtain rfl := hq
  have h := sd_world h (ws' := sd_d1 dk qa qh qs ++ sd_dA k3 qa o ++ sd_H k3 qh (sS_u o)) (by simp only [sd_D2, sd_D3, sd_D4, List.append_assoc, List.nil_append, List.append_nil])
  refine lv_aload_n C.1 C.2.1 d_D_call_28 rfl (lv_at hl 0 rfl) ?_
  refine sd_get C h 0 1 (v := .ref (qh 0)) (ci := 2) (Cn := "StockDesk") (T := T_D) (N := 3) rfl rfl (by decide) in_D tb_139 rfl d_D_call_29 ?_
  refine lv_iload_n C.1 C.2.1 d_D_call_32 rfl (lv_at hl 1 rfl) ?_
  have h := sd_world h (ws' := (sd_d1 dk qa qh qs ++ sd_dA k3 qa o) ++ (sd_H k3 qh (sS_u o)) ++ ([])) (by simp only [sd_D2, sd_D3, sd_D4, List.append_assoc, List.nil_append, List.append_nil])
  refine sd_calli h (va_runV (As := [.int (nI pt)]) (rest := []) C (k_H_isFailing l D k3 H.size qh (sS_u o) pt hpt) (sd_cwV 1 C.2.2.2.2 tb_411 tb_322 tb_323 tb_23 tb_324 rfl rfl (by decide +kernel) ⟨Nat.le_of_ble_eq_true rfl, Nat.le_of_ble_eq_true rfl⟩) (sd_preV h (q0 := 6) (T := T_H) (N := 16) rfl rfl) rfl rfl hl.1 rfl (lv_room (Nat.le_of_ble_eq_true rfl)) d_D_call_33 ⟨Nat.le_of_ble_eq_true rfl, Nat.le_of_ble_eq_true rfl⟩) (fun r w1 H locs hq h => ?_)
  obtain ⟨rfl, rfl⟩ := hq
  have h := sd_world h (ws' := sd_d1 dk qa qh qs ++ sd_dA k3 qa o ++ sd_H k3 qh (sS_u o)) (by simp only [sd_D2, sd_D3, sd_D4, List.append_assoc, List.nil_append, List.append_nil])
  refine lv_istore (lv' := [(4, .int (if hf_pw (sS_u o) pt = 0 then 0 else 1)), (0, .ref dk), (1, .int (nI pt)), (2, .int (nI j)), (3, .int z)]) C.1 C.2.1 d_D_call_36 hl (by decide) rfl (fun ls hl => ?_)
  refine lv_aload_n C.1 C.2.1 d_D_call_38 rfl (lv_at hl 1 rfl) ?_
  refine lv_iconst (v := 5) C.1 C.2.1 d_D_call_39 (by decide) ?_
  refine lv_iload_n C.1 C.2.1 d_D_call_40 rfl (lv_at hl 2 rfl) ?_
  refine lv_iload_n C.1 C.2.1 d_D_call_41 rfl (lv_at hl 3 rfl) ?_
  refine lv_iload_n C.1 C.2.1 d_D_call_42 rfl (lv_at hl 4 rfl) ?_
  have h := sd_world h (ws' := ([]) ++ (sd_d1 dk qa qh qs ++ sd_dA k3 qa o ++ sd_H k3 qh (sS_u o)) ++ ([])) (by simp only [sd_D2, sd_D3, sd_D4, List.append_assoc, List.nil_append, List.append_nil])
  refine sd_calll h (va_runV (As := [.int 5, .int (nI pt), .int (nI j), .int z]) (rest := []) C (k_D_doAndKeep l D k3 H.size dk qa qh qs o 5 (nI pt) (nI j) z (Classical.not_not.mp hf) (Or.inr (Or.inr (Or.inr (Or.inr (Or.inr (Or.inl ⟨rfl, pt, k, j, hpt, hk, h1, h9, rfl, rfl, hkp, by have z := ht.2.2; rw [nI_clamp (show j < 2 ^ 31 by omega)] at z; exact z⟩))))))) (sd_cwV 4 C.2.2.2.2 tb_285 tb_287 tb_4 tb_21 tb_288 rfl rfl (by decide +kernel) ⟨Nat.le_of_ble_eq_true rfl, Nat.le_of_ble_eq_true rfl⟩) (sd_preV h (q0 := 0) (T := T_D) (N := 3) rfl rfl) rfl rfl hl.1 rfl (lv_room (Nat.le_of_ble_eq_true rfl)) d_D_call_43 ⟨Nat.le_of_ble_eq_true rfl, Nat.le_of_ble_eq_true rfl⟩) (fun r w1 H locs hq h => ?_)
  obtain ⟨rfl, rfl⟩ := hq
  have h := sd_world h (ws' := sd_d1 dk qa qh qs ++ sd_dA k3 qa (sS_put o 5 (nI pt) (nI j) z) ++ sd_H k3 qh (sS_u (sS_put o 5 (nI pt) (nI j) z))) (by simp only [sd_D2, sd_D3, sd_D4, List.append_assoc, List.nil_append, List.append_nil])
  refine lv_lstore (lv' := [(5, .long (sd_an (sS_u o) 5 (nI pt) (nI j) z)), (4, .int (if hf_pw (sS_u o) pt = 0 then 0 else 1)), (0, .ref dk), (1, .int (nI pt)), (2, .int (nI j)), (3, .int z)]) C.1 C.2.1 d_D_call_46 hl (by decide) rfl (fun ls hl => ?_)
  refine lv_iload C.1 C.2.1 d_D_call_48 (lv_at hl 1 rfl) ?_
  refine lv_if_eq (tgt := 63) C.1 C.2.1 d_D_call_50 (by decide) (fun c50 => ?_) (fun c50 => ?_)
  · have hw : hf_pw (sS_u o) pt = 0 := Classical.byContradiction fun z => by rw [if_neg z] at c50; exact absurd c50 (by decide)
    refine lv_lload C.1 C.2.1 d_D_call_63 (lv_at hl 0 rfl) ?_
    refine W.widen (k := 1) (n := 6) (by decide) (by decide) ?_
    refine vx_ret ?_
    exact sd_lret (v := sd_an (sS_u o) 5 (nI pt) (nI j) z) C hr hlk h (sp_prl (sd_D3 k3 dk qa qh qs) ((if_neg hb).trans ((if_neg hb2).trans ((if_neg (by rw [nI_clamp (show pt < 2 ^ 31 by omega), hkp, nI_clamp (show k < 2 ^ 31 by omega)]; exact not_not_intro ht)).trans ((if_neg hf).trans (if_pos (by rw [nI_clamp (show pt < 2 ^ 31 by omega)]; exact hw))))))) d_D_call_65
  · have hw : ¬ hf_pw (sS_u o) pt = 0 := fun z => c50 (if_pos z)
    exact sd_throw (names := ["java/lang/RuntimeException", "java/lang/Exception"]) (cls := xIS) (text := "the part failed") (ik := 69) (is := 71) (ic := 73) C hst hlk htb hz h hl.1 (by decide +kernel) (by decide +kernel) tb_412 tb_31 (by decide +kernel) at_xIS_73 gd_xIS_69_73 d_D_call_53 d_D_call_56 d_D_call_57 d_D_call_59 d_D_call_62 (by decide) (Nat.le_of_ble_eq_true rfl) (by decide) (by decide) (sp_px (sd_D3 k3 dk qa qh qs) (o := sS_put o 5 (nI pt) (nI j) z) ((if_neg hb).trans ((if_neg hb2).trans ((if_neg (by rw [nI_clamp (show pt < 2 ^ 31 by omega), hkp, nI_clamp (show k < 2 ^ 31 by omega)]; exact not_not_intro ht)).trans ((if_neg hf).trans (if_neg (by rw [nI_clamp (show pt < 2 ^ 31 by omega)]; exact hw)))))) (by decide)) (by decide) (by decide)

set_option maxHeartbeats 4000000 in
set_option maxRecDepth 100000 in
theorem k_D_again (l : Launch) (hst : l.stackTraces = false) (D : va_G) (k3 : ClassId × ClassId × ClassId) (sz : Nat) (dk : Nat) (qa : Nat → Nat) (qh : Nat → Nat) (qs : Nat → Nat) (o : sd_S) (v : sd_HS) (x : Int32) (y : Int32) (z : Int32) (ho : sS_ok o) : vx_Met l y_D_again (sd_ws y_D_again c_D_again 4 (some FieldType.long)) ({ frames := 8, cells := 1, slots := 6, locals := 123 }) (sd_Px D (sd_t3 k3) [.ref dk, .int x, .int y, .int z] sz (sd_d1 dk qa qh qs ++ sd_dA k3 qa o ++ sd_H k3 qh (sS_u o) ++ sd_H k3 qs v)) (sd_Ql D (sd_t3 k3) (va_A (sd_d1 dk qa qh qs ++ sd_dA k3 qa o ++ sd_H k3 qh (sS_u o) ++ sd_H k3 qs v) sz) (fun r w => (sp_again o x y z).1 = "" ∧ r = (sp_again o x y z).2.1 ∧ ∃ v9, w = sd_D4 k3 dk qa qh qs (sp_again o x y z).2.2 v9)) (sd_X D (sd_t3 k3) (va_A (sd_d1 dk qa qh qs ++ sd_dA k3 qa o ++ sd_H k3 qh (sS_u o) ++ sd_H k3 qs v) sz) (fun E w => (sp_again o x y z).1 = E ∧ ¬ E = "" ∧ ∃ v9, w = sd_D4 k3 dk qa qh qs (sp_again o x y z).2.2 v9)) 1 6 (va_A (sd_d1 dk qa qh qs ++ sd_dA k3 qa o ++ sd_H k3 qh (sS_u o) ++ sd_H k3 qs v) sz) := by
  refine sd_metx (cc := c_D_again) (maxL := 4) (ret := some .long) (by decide) (Nat.le_of_ble_eq_true rfl) (fun p e s m below meth c C hr hlk htb hz h ls hl => ?_)
  generalize va_A (sd_d1 dk qa qh qs ++ sd_dA k3 qa o ++ sd_H k3 qh (sS_u o) ++ sd_H k3 qs v) sz = A at h hz ⊢
  have hl : lv_has ls 4 [(0, .ref dk), (1, .int x), (2, .int y), (3, .int z)] := hl
  generalize hH : s.heap = H at h ⊢
  refine lv_iload_n C.1 C.2.1 d_D_again_0 rfl (lv_at hl 1 rfl) ?_
  rcases Classical.em (sp_bad x 6) with hb | hb
  · have h := sd_world h (ws' := ([]) ++ ([]) ++ (sd_d1 dk qa qh qs ++ sd_dA k3 qa o ++ sd_H k3 qh (sS_u o) ++ sd_H k3 qs v)) (by simp only [sd_D2, sd_D3, sd_D4, List.append_assoc, List.nil_append, List.append_nil])
    refine sd_xcallv h (vx_runS (As := [.int x]) (rest := []) C (kx_D_requirePart l hst D k3 H.size x hb) (sd_cwS 1 C.2.2.2.2 tb_376 tb_377 tb_21 tb_378 rfl rfl (by decide +kernel) ⟨Nat.le_of_ble_eq_true rfl, Nat.le_of_ble_eq_true rfl⟩) (sd_preSx h hz) rfl rfl hl.1 rfl (lv_room (Nat.le_of_ble_eq_true rfl)) d_D_again_1 ⟨Nat.le_of_ble_eq_true rfl, Nat.le_of_ble_eq_true rfl⟩) (fun E ce q9 w1 H locs hq h hce hcv hcl => ?_) (fun w1 H locs hq h => hq.elim)
    obtain ⟨rfl, rfl⟩ := hq
    have h := sd_world h (ws' := sd_d1 dk qa qh qs ++ sd_dA k3 qa o ++ sd_H k3 qh (sS_u o) ++ sd_H k3 qs v) (by simp only [sd_D2, sd_D3, sd_D4, List.append_assoc, List.nil_append, List.append_nil])
    exact sd_on hlk htb h (sp_px4 (F := sd_D4 k3 dk qa qh qs) (o := o) v (if_pos hb) (by decide)) hce hcv hcl (by decide) (by decide)
  have h := sd_world h (ws' := ([]) ++ ([]) ++ (sd_d1 dk qa qh qs ++ sd_dA k3 qa o ++ sd_H k3 qh (sS_u o) ++ sd_H k3 qs v)) (by simp only [sd_D2, sd_D3, sd_D4, List.append_assoc, List.nil_append, List.append_nil])
  refine sd_callv h (va_runS (As := [.int x]) (rest := []) C (k_D_requirePart l D k3 H.size x hb) (sd_cwS 1 C.2.2.2.2 tb_376 tb_377 tb_21 tb_378 rfl rfl (by decide +kernel) ⟨Nat.le_of_ble_eq_true rfl, Nat.le_of_ble_eq_true rfl⟩) (sd_preS h) rfl rfl hl.1 rfl (lv_room (Nat.le_of_ble_eq_true rfl)) d_D_again_1 ⟨Nat.le_of_ble_eq_true rfl, Nat.le_of_ble_eq_true rfl⟩) (fun w1 H locs hq h => ?_)
  obtain rfl := hq
  have h := sd_world h (ws' := sd_d1 dk qa qh qs ++ sd_dA k3 qa o ++ sd_H k3 qh (sS_u o) ++ sd_H k3 qs v) (by simp only [sd_D2, sd_D3, sd_D4, List.append_assoc, List.nil_append, List.append_nil])
  obtain ⟨pt, hpt, rfl⟩ := sp_in 6 rfl (by decide) hb
  refine lv_iload_n C.1 C.2.1 d_D_again_4 rfl (lv_at hl 3 rfl) ?_
  rcases Classical.em (sp_amt z) with hb2 | hb2
  · have h := sd_world h (ws' := ([]) ++ ([]) ++ (sd_d1 dk qa qh qs ++ sd_dA k3 qa o ++ sd_H k3 qh (sS_u o) ++ sd_H k3 qs v)) (by simp only [sd_D2, sd_D3, sd_D4, List.append_assoc, List.nil_append, List.append_nil])
    refine sd_xcallv h (vx_runS (As := [.int z]) (rest := []) C (kx_D_requireAmount l hst D k3 H.size z hb2) (sd_cwS 1 C.2.2.2.2 tb_386 tb_387 tb_21 tb_388 rfl rfl (by decide +kernel) ⟨Nat.le_of_ble_eq_true rfl, Nat.le_of_ble_eq_true rfl⟩) (sd_preSx h hz) rfl rfl hl.1 rfl (lv_room (Nat.le_of_ble_eq_true rfl)) d_D_again_5 ⟨Nat.le_of_ble_eq_true rfl, Nat.le_of_ble_eq_true rfl⟩) (fun E ce q9 w1 H locs hq h hce hcv hcl => ?_) (fun w1 H locs hq h => hq.elim)
    obtain ⟨rfl, rfl⟩ := hq
    have h := sd_world h (ws' := sd_d1 dk qa qh qs ++ sd_dA k3 qa o ++ sd_H k3 qh (sS_u o) ++ sd_H k3 qs v) (by simp only [sd_D2, sd_D3, sd_D4, List.append_assoc, List.nil_append, List.append_nil])
    exact sd_on hlk htb h (sp_px4 (F := sd_D4 k3 dk qa qh qs) (o := o) v ((if_neg hb).trans (if_pos hb2)) (by decide)) hce hcv hcl (by decide) (by decide)
  have h := sd_world h (ws' := ([]) ++ ([]) ++ (sd_d1 dk qa qh qs ++ sd_dA k3 qa o ++ sd_H k3 qh (sS_u o) ++ sd_H k3 qs v)) (by simp only [sd_D2, sd_D3, sd_D4, List.append_assoc, List.nil_append, List.append_nil])
  refine sd_callv h (va_runS (As := [.int z]) (rest := []) C (k_D_requireAmount l D k3 H.size z hb2) (sd_cwS 1 C.2.2.2.2 tb_386 tb_387 tb_21 tb_388 rfl rfl (by decide +kernel) ⟨Nat.le_of_ble_eq_true rfl, Nat.le_of_ble_eq_true rfl⟩) (sd_preS h) rfl rfl hl.1 rfl (lv_room (Nat.le_of_ble_eq_true rfl)) d_D_again_5 ⟨Nat.le_of_ble_eq_true rfl, Nat.le_of_ble_eq_true rfl⟩) (fun w1 H locs hq h => ?_)
  obtain rfl := hq
  have h := sd_world h (ws' := sd_d1 dk qa qh qs ++ sd_dA k3 qa o ++ sd_H k3 qh (sS_u o) ++ sd_H k3 qs v) (by simp only [sd_D2, sd_D3, sd_D4, List.append_assoc, List.nil_append, List.append_nil])
  refine lv_aload_n C.1 C.2.1 d_D_again_8 rfl (lv_at hl 0 rfl) ?_
  refine sd_get C h 0 0 (v := .ref (qa 0)) (ci := 2) (Cn := "StockDesk") (T := T_D) (N := 3) rfl rfl (by decide) in_D tb_138 rfl d_D_again_9 ?_
  refine lv_aload_n C.1 C.2.1 d_D_again_12 rfl (lv_at hl 0 rfl) ?_
  refine sd_get C h 0 2 (v := .ref (qs 0)) (ci := 2) (Cn := "StockDesk") (T := T_D) (N := 3) rfl rfl (by decide) in_D tb_140 rfl d_D_again_13 ?_
  have h := sd_swap (wa := sd_d1 dk qa qh qs ++ sd_A k3 qa (nI o.1) o.2.1 o.2.2.1 o.2.2.2.1 o.2.2.2.2) (wb := sd_H k3 qh (sS_u o)) (wc := sd_H k3 qs v) (wd := []) (sd_world h (by simp only [sd_dA, List.append_assoc, List.nil_append, List.append_nil]))
  have h := sd_world h (ws' := sd_d1 dk qa qh qs ++ sd_A k3 qa (nI o.1) o.2.1 o.2.2.1 o.2.2.2.1 o.2.2.2.2 ++ sd_H k3 qs v ++ sd_H k3 qh (sS_u o)) (by simp only [List.append_assoc, List.nil_append, List.append_nil])
  have h := sd_world h (ws' := (sd_d1 dk qa qh qs) ++ (sd_A k3 qa (nI o.1) o.2.1 o.2.2.1 o.2.2.2.1 o.2.2.2.2 ++ sd_H k3 qs v) ++ (sd_H k3 qh (sS_u o))) (by simp only [sd_D2, sd_D3, sd_D4, List.append_assoc, List.nil_append, List.append_nil])
  refine sd_callv h (va_runV (As := [.ref (qs 0)]) (rest := []) C (k_A_doAllOn l D k3 H.size qa o.1 o.2.1 o.2.2.1 o.2.2.2.1 o.2.2.2.2 qs v ho.1 (fun j hj => ho.2 j hj)) (sd_cwV 1 C.2.2.2.2 tb_435 tb_436 tb_437 tb_22 tb_438 rfl rfl (by decide +kernel) ⟨Nat.le_of_ble_eq_true rfl, Nat.le_of_ble_eq_true rfl⟩) (sd_preV h (q0 := 1) (T := T_A) (N := 5) rfl rfl) rfl rfl hl.1 rfl (lv_room (Nat.le_of_ble_eq_true rfl)) d_D_again_16 ⟨Nat.le_of_ble_eq_true rfl, Nat.le_of_ble_eq_true rfl⟩) (fun w1 H locs hq h => ?_)
  have hq : w1 = sd_A k3 qa (nI o.1) o.2.1 o.2.2.1 o.2.2.2.1 o.2.2.2.2 ++ sd_H k3 qs (sS_u o) := hq
  subst hq
  have h := sd_world h (ws' := sd_d1 dk qa qh qs ++ sd_A k3 qa (nI o.1) o.2.1 o.2.2.1 o.2.2.2.1 o.2.2.2.2 ++ sd_H k3 qs (sS_u o) ++ sd_H k3 qh (sS_u o)) (by simp only [sd_D2, sd_D3, sd_D4, List.append_assoc, List.nil_append, List.append_nil])
  have h := sd_swap (wa := sd_d1 dk qa qh qs ++ sd_A k3 qa (nI o.1) o.2.1 o.2.2.1 o.2.2.2.1 o.2.2.2.2) (wb := sd_H k3 qs (sS_u o)) (wc := sd_H k3 qh (sS_u o)) (wd := []) (sd_world h (by simp only [List.append_assoc, List.nil_append, List.append_nil]))
  have h := sd_world h (ws' := sd_d1 dk qa qh qs ++ sd_dA k3 qa o ++ sd_H k3 qh (sS_u o) ++ sd_H k3 qs (sS_u o)) (by simp only [sd_dA, List.append_assoc, List.nil_append, List.append_nil])
  refine lv_aload_n C.1 C.2.1 d_D_again_19 rfl (lv_at hl 0 rfl) ?_
  refine sd_get C h 0 2 (v := .ref (qs 0)) (ci := 2) (Cn := "StockDesk") (T := T_D) (N := 3) rfl rfl (by decide) in_D tb_140 rfl d_D_again_20 ?_
  refine lv_aload_n C.1 C.2.1 d_D_again_23 rfl (lv_at hl 0 rfl) ?_
  refine sd_get C h 0 2 (v := .ref (qs 0)) (ci := 2) (Cn := "StockDesk") (T := T_D) (N := 3) rfl rfl (by decide) in_D tb_140 rfl d_D_again_24 ?_
  refine lv_iload_n C.1 C.2.1 d_D_again_27 rfl (lv_at hl 1 rfl) ?_
  have h := sd_world h (ws' := (sd_d1 dk qa qh qs ++ sd_dA k3 qa o ++ sd_H k3 qh (sS_u o)) ++ (sd_H k3 qs (sS_u o)) ++ ([])) (by simp only [sd_D2, sd_D3, sd_D4, List.append_assoc, List.nil_append, List.append_nil])
  refine sd_calli h (va_runV (As := [.int (nI pt)]) (rest := [.ref (qs 0)]) C (k_H_kindOf l D k3 H.size qs (sS_u o) pt hpt) (sd_cwV 1 C.2.2.2.2 tb_407 tb_408 tb_409 tb_23 tb_410 rfl rfl (by decide +kernel) ⟨Nat.le_of_ble_eq_true rfl, Nat.le_of_ble_eq_true rfl⟩) (sd_preV h (q0 := 15) (T := T_H) (N := 16) rfl rfl) rfl rfl hl.1 rfl (lv_room (Nat.le_of_ble_eq_true rfl)) d_D_again_28 ⟨Nat.le_of_ble_eq_true rfl, Nat.le_of_ble_eq_true rfl⟩) (fun r w1 H locs hq h => ?_)
  obtain ⟨rfl, rfl⟩ := hq
  have h := sd_world h (ws' := sd_d1 dk qa qh qs ++ sd_dA k3 qa o ++ sd_H k3 qh (sS_u o) ++ sd_H k3 qs (sS_u o)) (by simp only [sd_D2, sd_D3, sd_D4, List.append_assoc, List.nil_append, List.append_nil])
  obtain ⟨k, hk, hkp⟩ := (sS_inv ho).2.1 pt hpt
  refine sd_top (v := .int (hf_pk (sS_u o) pt)) (v' := .int (nI k)) (congrArg Value.int (hkp)) ?_
  refine lv_iload_n C.1 C.2.1 d_D_again_31 rfl (lv_at hl 2 rfl) ?_
  rcases Classical.em (¬ hd_has (sS_u o) k y) with ht | ht
  · have h := sd_world h (ws' := (sd_d1 dk qa qh qs ++ sd_dA k3 qa o ++ sd_H k3 qh (sS_u o)) ++ (sd_H k3 qs (sS_u o)) ++ ([])) (by simp only [sd_D2, sd_D3, sd_D4, List.append_assoc, List.nil_append, List.append_nil])
    refine sd_xcallv h (vx_runS (As := [.ref (qs 0), .int (nI k), .int y]) (rest := []) C (kx_D_requireThing l hst D k3 H.size qs (sS_u o) k y hk ht) (sd_cwS 3 C.2.2.2.2 tb_346 tb_347 tb_21 tb_348 rfl rfl (by decide +kernel) ⟨Nat.le_of_ble_eq_true rfl, Nat.le_of_ble_eq_true rfl⟩) (sd_preSx h hz) rfl rfl hl.1 rfl (lv_room (Nat.le_of_ble_eq_true rfl)) d_D_again_32 ⟨Nat.le_of_ble_eq_true rfl, Nat.le_of_ble_eq_true rfl⟩) (fun E ce q9 w1 H locs hq h hce hcv hcl => ?_) (fun w1 H locs hq h => hq.elim)
    obtain ⟨rfl, rfl⟩ := hq
    have h := sd_world h (ws' := sd_d1 dk qa qh qs ++ sd_dA k3 qa o ++ sd_H k3 qh (sS_u o) ++ sd_H k3 qs (sS_u o)) (by simp only [sd_D2, sd_D3, sd_D4, List.append_assoc, List.nil_append, List.append_nil])
    exact sd_on hlk htb h (sp_px4 (F := sd_D4 k3 dk qa qh qs) (o := o) (sS_u o) ((if_neg hb).trans ((if_neg hb2).trans (if_pos (by rw [nI_clamp (show pt < 2 ^ 31 by omega), hkp, nI_clamp (show k < 2 ^ 31 by omega)]; exact ht)))) (by decide)) hce hcv hcl (by decide) (by decide)
  have h := sd_world h (ws' := (sd_d1 dk qa qh qs ++ sd_dA k3 qa o ++ sd_H k3 qh (sS_u o)) ++ (sd_H k3 qs (sS_u o)) ++ ([])) (by simp only [sd_D2, sd_D3, sd_D4, List.append_assoc, List.nil_append, List.append_nil])
  refine sd_callv h (va_runS (As := [.ref (qs 0), .int (nI k), .int y]) (rest := []) C (k_D_requireThing l D k3 H.size qs (sS_u o) k y hk ht) (sd_cwS 3 C.2.2.2.2 tb_346 tb_347 tb_21 tb_348 rfl rfl (by decide +kernel) ⟨Nat.le_of_ble_eq_true rfl, Nat.le_of_ble_eq_true rfl⟩) (sd_preS h) rfl rfl hl.1 rfl (lv_room (Nat.le_of_ble_eq_true rfl)) d_D_again_32 ⟨Nat.le_of_ble_eq_true rfl, Nat.le_of_ble_eq_true rfl⟩) (fun w1 H locs hq h => ?_)
  obtain rfl := hq
  have h := sd_world h (ws' := sd_d1 dk qa qh qs ++ sd_dA k3 qa o ++ sd_H k3 qh (sS_u o) ++ sd_H k3 qs (sS_u o)) (by simp only [sd_D2, sd_D3, sd_D4, List.append_assoc, List.nil_append, List.append_nil])
  have ht := Classical.not_not.mp ht
  obtain ⟨j, h1, h9, rfl⟩ := sp_hasj ht
  refine lv_aload_n C.1 C.2.1 d_D_again_35 rfl (lv_at hl 0 rfl) ?_
  refine sd_get C h 0 2 (v := .ref (qs 0)) (ci := 2) (Cn := "StockDesk") (T := T_D) (N := 3) rfl rfl (by decide) in_D tb_140 rfl d_D_again_36 ?_
  refine lv_iload_n C.1 C.2.1 d_D_again_39 rfl (lv_at hl 1 rfl) ?_
  have h := sd_world h (ws' := (sd_d1 dk qa qh qs ++ sd_dA k3 qa o ++ sd_H k3 qh (sS_u o)) ++ (sd_H k3 qs (sS_u o)) ++ ([])) (by simp only [sd_D2, sd_D3, sd_D4, List.append_assoc, List.nil_append, List.append_nil])
  refine sd_calli h (va_runV (As := [.int (nI pt)]) (rest := []) C (k_H_isFailing l D k3 H.size qs (sS_u o) pt hpt) (sd_cwV 1 C.2.2.2.2 tb_411 tb_322 tb_323 tb_23 tb_324 rfl rfl (by decide +kernel) ⟨Nat.le_of_ble_eq_true rfl, Nat.le_of_ble_eq_true rfl⟩) (sd_preV h (q0 := 15) (T := T_H) (N := 16) rfl rfl) rfl rfl hl.1 rfl (lv_room (Nat.le_of_ble_eq_true rfl)) d_D_again_40 ⟨Nat.le_of_ble_eq_true rfl, Nat.le_of_ble_eq_true rfl⟩) (fun r w1 H locs hq h => ?_)
  obtain ⟨rfl, rfl⟩ := hq
  have h := sd_world h (ws' := sd_d1 dk qa qh qs ++ sd_dA k3 qa o ++ sd_H k3 qh (sS_u o) ++ sd_H k3 qs (sS_u o)) (by simp only [sd_D2, sd_D3, sd_D4, List.append_assoc, List.nil_append, List.append_nil])
  refine lv_if_eq (tgt := 56) C.1 C.2.1 d_D_again_43 (by decide) (fun c43 => ?_) (fun c43 => ?_)
  · have hw : hf_pw (sS_u o) pt = 0 := Classical.byContradiction fun z => by rw [if_neg z] at c43; exact absurd c43 (by decide)
    refine lv_aload_n C.1 C.2.1 d_D_again_56 rfl (lv_at hl 0 rfl) ?_
    refine sd_get C h 0 2 (v := .ref (qs 0)) (ci := 2) (Cn := "StockDesk") (T := T_D) (N := 3) rfl rfl (by decide) in_D tb_140 rfl d_D_again_57 ?_
    refine lv_iload_n C.1 C.2.1 d_D_again_60 rfl (lv_at hl 1 rfl) ?_
    refine lv_iload_n C.1 C.2.1 d_D_again_61 rfl (lv_at hl 2 rfl) ?_
    refine lv_iload_n C.1 C.2.1 d_D_again_62 rfl (lv_at hl 3 rfl) ?_
    have h := sd_world h (ws' := (sd_d1 dk qa qh qs ++ sd_dA k3 qa o ++ sd_H k3 qh (sS_u o)) ++ (sd_H k3 qs (sS_u o)) ++ ([])) (by simp only [sd_D2, sd_D3, sd_D4, List.append_assoc, List.nil_append, List.append_nil])
    refine sd_calll h (va_runV (As := [.int (nI pt), .int (nI j), .int z]) (rest := []) C (k_H_answerOf l D k3 H.size qs (sS_u o) pt (nI j) z hpt) (sd_cwV 3 C.2.2.2.2 tb_442 tb_330 tb_331 tb_23 tb_332 rfl rfl (by decide +kernel) ⟨Nat.le_of_ble_eq_true rfl, Nat.le_of_ble_eq_true rfl⟩) (sd_preV h (q0 := 15) (T := T_H) (N := 16) rfl rfl) rfl rfl hl.1 rfl (lv_room (Nat.le_of_ble_eq_true rfl)) d_D_again_63 ⟨Nat.le_of_ble_eq_true rfl, Nat.le_of_ble_eq_true rfl⟩) (fun r w1 H locs hq h => ?_)
    obtain ⟨rfl, rfl⟩ := hq
    have h := sd_world h (ws' := sd_d1 dk qa qh qs ++ sd_dA k3 qa o ++ sd_H k3 qh (sS_u o) ++ sd_H k3 qs (sS_u o)) (by simp only [sd_D2, sd_D3, sd_D4, List.append_assoc, List.nil_append, List.append_nil])
    refine W.widen (k := 1) (n := 6) (by decide) (by decide) ?_
    refine vx_ret ?_
    exact sd_lret (v := hd_ans (sS_u o) pt (nI j) z) C hr hlk h (sp_pl4 (F := sd_D4 k3 dk qa qh qs) (o := o) (sS_u o) (((if_neg hb).trans ((if_neg hb2).trans ((if_neg (by rw [nI_clamp (show pt < 2 ^ 31 by omega), hkp, nI_clamp (show k < 2 ^ 31 by omega)]; exact not_not_intro ht)).trans (if_pos (by rw [nI_clamp (show pt < 2 ^ 31 by omega)]; exact hw))))).trans (by rw [nI_clamp (show pt < 2 ^ 31 by omega)]))) d_D_again_66
  · have hw : ¬ hf_pw (sS_u o) pt = 0 := fun z => c43 (if_pos z)
    exact sd_throw (names := ["java/lang/RuntimeException", "java/lang/Exception"]) (cls := xIS) (text := "the part would fail") (ik := 69) (is := 78) (ic := 73) C hst hlk htb hz h hl.1 (by decide +kernel) (by decide +kernel) tb_412 tb_31 (by decide +kernel) at_xIS_73 gd_xIS_69_73 d_D_again_46 d_D_again_49 d_D_again_50 d_D_again_52 d_D_again_55 (by decide) (Nat.le_of_ble_eq_true rfl) (by decide) (by decide) (sp_px4 (F := sd_D4 k3 dk qa qh qs) (o := o) (sS_u o) ((if_neg hb).trans ((if_neg hb2).trans ((if_neg (by rw [nI_clamp (show pt < 2 ^ 31 by omega), hkp, nI_clamp (show k < 2 ^ 31 by omega)]; exact not_not_intro ht)).trans (if_neg (by rw [nI_clamp (show pt < 2 ^ 31 by omega)]; exact hw))))) (by decide)) (by decide) (by decide)

set_option maxHeartbeats 4000000 in
set_option maxRecDepth 100000 in
theorem k_D_sums (l : Launch) (D : va_G) (k3 : ClassId × ClassId × ClassId) (sz : Nat) (dk : Nat) (qa : Nat → Nat) (qh : Nat → Nat) (qs : Nat → Nat) (o : sd_S) (ho : sS_ok o) : Met l y_D_sums (sd_ws y_D_sums c_D_sums 1 (some FieldType.long)) ({ frames := 1, cells := 0, slots := 0, locals := 20 }) (sd_Pc D (sd_t3 k3) [.ref dk] sz (sd_d1 dk qa qh qs ++ sd_dA k3 qa o ++ sd_H k3 qh (sS_u o))) (sd_Ql D (sd_t3 k3) (va_A (sd_d1 dk qa qh qs ++ sd_dA k3 qa o ++ sd_H k3 qh (sS_u o)) sz) (fun r w => r = sp_sums o ∧ w = sd_D3 k3 dk qa qh qs o)) 0 0 (va_A (sd_d1 dk qa qh qs ++ sd_dA k3 qa o ++ sd_H k3 qh (sS_u o)) sz) := by
  refine sd_met (cc := c_D_sums) (maxL := 1) (ret := some .long) (by decide) (Nat.le_of_ble_eq_true rfl) (fun p e s m below meth c C hr hlk hnm hsz h ls hl => ?_)
  generalize va_A (sd_d1 dk qa qh qs ++ sd_dA k3 qa o ++ sd_H k3 qh (sS_u o)) sz = A at h ⊢
  have hl : lv_has ls 1 [(0, .ref dk)] := hl
  generalize hH : s.heap = H at h ⊢
  refine lv_aload_n C.1 C.2.1 d_D_sums_0 rfl (lv_at hl 0 rfl) ?_
  refine sd_get C h 0 1 (v := .ref (qh 0)) (ci := 2) (Cn := "StockDesk") (T := T_D) (N := 3) rfl rfl (by decide) in_D tb_139 rfl d_D_sums_1 ?_
  have h := sd_world h (ws' := (sd_d1 dk qa qh qs ++ sd_dA k3 qa o) ++ (sd_H k3 qh (sS_u o)) ++ ([])) (by simp only [sd_D2, sd_D3, sd_D4, List.append_assoc, List.nil_append, List.append_nil])
  refine sd_calll h (va_runV (As := []) (rest := []) C (k_H_bothSums l D k3 H.size qh (sS_u o) ) (sd_cwV 0 C.2.2.2.2 tb_152 tb_153 tb_154 tb_23 tb_155 rfl rfl (by decide +kernel) ⟨Nat.le_of_ble_eq_true rfl, Nat.le_of_ble_eq_true rfl⟩) (sd_preV h (q0 := 6) (T := T_H) (N := 16) rfl rfl) rfl rfl hl.1 rfl (lv_room (Nat.le_of_ble_eq_true rfl)) d_D_sums_4 ⟨Nat.le_of_ble_eq_true rfl, Nat.le_of_ble_eq_true rfl⟩) (fun r w1 H locs hq h => ?_)
  obtain ⟨rfl, rfl⟩ := hq
  have h := sd_world h (ws' := sd_d1 dk qa qh qs ++ sd_dA k3 qa o ++ sd_H k3 qh (sS_u o)) (by simp only [sd_D2, sd_D3, sd_D4, List.append_assoc, List.nil_append, List.append_nil])
  exact sd_lret (v := (hf_s2 (sS_u o)).toInt64 * 65536 + (hf_s1 (sS_u o)).toInt64) C hr hlk h ⟨rfl, rfl⟩ d_D_sums_7

set_option maxHeartbeats 4000000 in
set_option maxRecDepth 100000 in
theorem k_D_worth (l : Launch) (hst : l.stackTraces = false) (D : va_G) (k3 : ClassId × ClassId × ClassId) (sz : Nat) (dk : Nat) (qa : Nat → Nat) (qh : Nat → Nat) (qs : Nat → Nat) (o : sd_S) (x : Int32) (ho : sS_ok o) : vx_Met l y_D_worth (sd_ws y_D_worth c_D_worth 2 (some FieldType.long)) ({ frames := 8, cells := 1, slots := 6, locals := 123 }) (sd_Px D (sd_t3 k3) [.ref dk, .int x] sz (sd_d1 dk qa qh qs ++ sd_dA k3 qa o ++ sd_H k3 qh (sS_u o))) (sd_Ql D (sd_t3 k3) (va_A (sd_d1 dk qa qh qs ++ sd_dA k3 qa o ++ sd_H k3 qh (sS_u o)) sz) (fun r w => (sp_worth o x).1 = "" ∧ r = (sp_worth o x).2.1 ∧ w = sd_D3 k3 dk qa qh qs (sp_worth o x).2.2)) (sd_X D (sd_t3 k3) (va_A (sd_d1 dk qa qh qs ++ sd_dA k3 qa o ++ sd_H k3 qh (sS_u o)) sz) (fun E w => (sp_worth o x).1 = E ∧ ¬ E = "" ∧ w = sd_D3 k3 dk qa qh qs (sp_worth o x).2.2)) 1 6 (va_A (sd_d1 dk qa qh qs ++ sd_dA k3 qa o ++ sd_H k3 qh (sS_u o)) sz) := by
  refine sd_metx (cc := c_D_worth) (maxL := 2) (ret := some .long) (by decide) (Nat.le_of_ble_eq_true rfl) (fun p e s m below meth c C hr hlk htb hz h ls hl => ?_)
  generalize va_A (sd_d1 dk qa qh qs ++ sd_dA k3 qa o ++ sd_H k3 qh (sS_u o)) sz = A at h hz ⊢
  have hl : lv_has ls 2 [(0, .ref dk), (1, .int x)] := hl
  generalize hH : s.heap = H at h ⊢
  refine lv_iload_n C.1 C.2.1 d_D_worth_0 rfl (lv_at hl 1 rfl) ?_
  rcases Classical.em (sp_bad x 6) with hb | hb
  · have h := sd_world h (ws' := ([]) ++ ([]) ++ (sd_d1 dk qa qh qs ++ sd_dA k3 qa o ++ sd_H k3 qh (sS_u o))) (by simp only [sd_D2, sd_D3, sd_D4, List.append_assoc, List.nil_append, List.append_nil])
    refine sd_xcallv h (vx_runS (As := [.int x]) (rest := []) C (kx_D_requirePart l hst D k3 H.size x hb) (sd_cwS 1 C.2.2.2.2 tb_376 tb_377 tb_21 tb_378 rfl rfl (by decide +kernel) ⟨Nat.le_of_ble_eq_true rfl, Nat.le_of_ble_eq_true rfl⟩) (sd_preSx h hz) rfl rfl hl.1 rfl (lv_room (Nat.le_of_ble_eq_true rfl)) d_D_worth_1 ⟨Nat.le_of_ble_eq_true rfl, Nat.le_of_ble_eq_true rfl⟩) (fun E ce q9 w1 H locs hq h hce hcv hcl => ?_) (fun w1 H locs hq h => hq.elim)
    obtain ⟨rfl, rfl⟩ := hq
    have h := sd_world h (ws' := sd_d1 dk qa qh qs ++ sd_dA k3 qa o ++ sd_H k3 qh (sS_u o)) (by simp only [sd_D2, sd_D3, sd_D4, List.append_assoc, List.nil_append, List.append_nil])
    exact sd_on hlk htb h (sp_px (sd_D3 k3 dk qa qh qs) (o := o) (if_pos hb) (by decide)) hce hcv hcl (by decide) (by decide)
  have h := sd_world h (ws' := ([]) ++ ([]) ++ (sd_d1 dk qa qh qs ++ sd_dA k3 qa o ++ sd_H k3 qh (sS_u o))) (by simp only [sd_D2, sd_D3, sd_D4, List.append_assoc, List.nil_append, List.append_nil])
  refine sd_callv h (va_runS (As := [.int x]) (rest := []) C (k_D_requirePart l D k3 H.size x hb) (sd_cwS 1 C.2.2.2.2 tb_376 tb_377 tb_21 tb_378 rfl rfl (by decide +kernel) ⟨Nat.le_of_ble_eq_true rfl, Nat.le_of_ble_eq_true rfl⟩) (sd_preS h) rfl rfl hl.1 rfl (lv_room (Nat.le_of_ble_eq_true rfl)) d_D_worth_1 ⟨Nat.le_of_ble_eq_true rfl, Nat.le_of_ble_eq_true rfl⟩) (fun w1 H locs hq h => ?_)
  obtain rfl := hq
  have h := sd_world h (ws' := sd_d1 dk qa qh qs ++ sd_dA k3 qa o ++ sd_H k3 qh (sS_u o)) (by simp only [sd_D2, sd_D3, sd_D4, List.append_assoc, List.nil_append, List.append_nil])
  obtain ⟨pt, hpt, rfl⟩ := sp_in 6 rfl (by decide) hb
  refine lv_aload_n C.1 C.2.1 d_D_worth_4 rfl (lv_at hl 0 rfl) ?_
  refine sd_get C h 0 1 (v := .ref (qh 0)) (ci := 2) (Cn := "StockDesk") (T := T_D) (N := 3) rfl rfl (by decide) in_D tb_139 rfl d_D_worth_5 ?_
  refine lv_iload_n C.1 C.2.1 d_D_worth_8 rfl (lv_at hl 1 rfl) ?_
  have h := sd_world h (ws' := (sd_d1 dk qa qh qs ++ sd_dA k3 qa o) ++ (sd_H k3 qh (sS_u o)) ++ ([])) (by simp only [sd_D2, sd_D3, sd_D4, List.append_assoc, List.nil_append, List.append_nil])
  refine sd_calll h (va_runV (As := [.int (nI pt)]) (rest := []) C (k_H_worthOf l D k3 H.size qh (sS_u o) pt hpt) (sd_cwV 1 C.2.2.2.2 tb_477 tb_478 tb_479 tb_23 tb_480 rfl rfl (by decide +kernel) ⟨Nat.le_of_ble_eq_true rfl, Nat.le_of_ble_eq_true rfl⟩) (sd_preV h (q0 := 6) (T := T_H) (N := 16) rfl rfl) rfl rfl hl.1 rfl (lv_room (Nat.le_of_ble_eq_true rfl)) d_D_worth_9 ⟨Nat.le_of_ble_eq_true rfl, Nat.le_of_ble_eq_true rfl⟩) (fun r w1 H locs hq h => ?_)
  obtain ⟨rfl, rfl⟩ := hq
  have h := sd_world h (ws' := sd_d1 dk qa qh qs ++ sd_dA k3 qa o ++ sd_H k3 qh (sS_u o)) (by simp only [sd_D2, sd_D3, sd_D4, List.append_assoc, List.nil_append, List.append_nil])
  refine W.widen (k := 1) (n := 6) (by decide) (by decide) ?_
  refine vx_ret ?_
  exact sd_lret (v := hf_wt (sS_u o) pt) C hr hlk h (sp_pl (sd_D3 k3 dk qa qh qs) ((if_neg hb).trans (by rw [nI_clamp (show pt < 2 ^ 31 by omega)]))) d_D_worth_12

set_option maxHeartbeats 4000000 in
set_option maxRecDepth 100000 in
theorem k_D_uses (l : Launch) (hst : l.stackTraces = false) (D : va_G) (k3 : ClassId × ClassId × ClassId) (sz : Nat) (dk : Nat) (qa : Nat → Nat) (qh : Nat → Nat) (qs : Nat → Nat) (o : sd_S) (x : Int32) (y : Int32) (ho : sS_ok o) : vx_Met l y_D_uses (sd_ws y_D_uses c_D_uses 3 (some FieldType.int)) ({ frames := 8, cells := 1, slots := 6, locals := 123 }) (sd_Px D (sd_t3 k3) [.ref dk, .int x, .int y] sz (sd_d1 dk qa qh qs ++ sd_dA k3 qa o ++ sd_H k3 qh (sS_u o))) (sd_Qi D (sd_t3 k3) (va_A (sd_d1 dk qa qh qs ++ sd_dA k3 qa o ++ sd_H k3 qh (sS_u o)) sz) (fun r w => (sp_uses o x y).1 = "" ∧ r = (sp_uses o x y).2.1.toInt32 ∧ w = sd_D3 k3 dk qa qh qs (sp_uses o x y).2.2)) (sd_X D (sd_t3 k3) (va_A (sd_d1 dk qa qh qs ++ sd_dA k3 qa o ++ sd_H k3 qh (sS_u o)) sz) (fun E w => (sp_uses o x y).1 = E ∧ ¬ E = "" ∧ w = sd_D3 k3 dk qa qh qs (sp_uses o x y).2.2)) 1 6 (va_A (sd_d1 dk qa qh qs ++ sd_dA k3 qa o ++ sd_H k3 qh (sS_u o)) sz) := by
  refine sd_metx (cc := c_D_uses) (maxL := 3) (ret := some .int) (by decide) (Nat.le_of_ble_eq_true rfl) (fun p e s m below meth c C hr hlk htb hz h ls hl => ?_)
  generalize va_A (sd_d1 dk qa qh qs ++ sd_dA k3 qa o ++ sd_H k3 qh (sS_u o)) sz = A at h hz ⊢
  have hl : lv_has ls 3 [(0, .ref dk), (1, .int x), (2, .int y)] := hl
  generalize hH : s.heap = H at h ⊢
  refine lv_iload_n C.1 C.2.1 d_D_uses_0 rfl (lv_at hl 1 rfl) ?_
  rcases Classical.em (sp_bad x 5) with hb | hb
  · have h := sd_world h (ws' := ([]) ++ ([]) ++ (sd_d1 dk qa qh qs ++ sd_dA k3 qa o ++ sd_H k3 qh (sS_u o))) (by simp only [sd_D2, sd_D3, sd_D4, List.append_assoc, List.nil_append, List.append_nil])
    refine sd_xcallv h (vx_runS (As := [.int x]) (rest := []) C (kx_D_requireKind l hst D k3 H.size x hb) (sd_cwS 1 C.2.2.2.2 tb_185 tb_186 tb_21 tb_187 rfl rfl (by decide +kernel) ⟨Nat.le_of_ble_eq_true rfl, Nat.le_of_ble_eq_true rfl⟩) (sd_preSx h hz) rfl rfl hl.1 rfl (lv_room (Nat.le_of_ble_eq_true rfl)) d_D_uses_1 ⟨Nat.le_of_ble_eq_true rfl, Nat.le_of_ble_eq_true rfl⟩) (fun E ce q9 w1 H locs hq h hce hcv hcl => ?_) (fun w1 H locs hq h => hq.elim)
    obtain ⟨rfl, rfl⟩ := hq
    have h := sd_world h (ws' := sd_d1 dk qa qh qs ++ sd_dA k3 qa o ++ sd_H k3 qh (sS_u o)) (by simp only [sd_D2, sd_D3, sd_D4, List.append_assoc, List.nil_append, List.append_nil])
    exact sd_on hlk htb h (sp_px (sd_D3 k3 dk qa qh qs) (o := o) (if_pos hb) (by decide)) hce hcv hcl (by decide) (by decide)
  have h := sd_world h (ws' := ([]) ++ ([]) ++ (sd_d1 dk qa qh qs ++ sd_dA k3 qa o ++ sd_H k3 qh (sS_u o))) (by simp only [sd_D2, sd_D3, sd_D4, List.append_assoc, List.nil_append, List.append_nil])
  refine sd_callv h (va_runS (As := [.int x]) (rest := []) C (k_D_requireKind l D k3 H.size x hb) (sd_cwS 1 C.2.2.2.2 tb_185 tb_186 tb_21 tb_187 rfl rfl (by decide +kernel) ⟨Nat.le_of_ble_eq_true rfl, Nat.le_of_ble_eq_true rfl⟩) (sd_preS h) rfl rfl hl.1 rfl (lv_room (Nat.le_of_ble_eq_true rfl)) d_D_uses_1 ⟨Nat.le_of_ble_eq_true rfl, Nat.le_of_ble_eq_true rfl⟩) (fun w1 H locs hq h => ?_)
  obtain rfl := hq
  have h := sd_world h (ws' := sd_d1 dk qa qh qs ++ sd_dA k3 qa o ++ sd_H k3 qh (sS_u o)) (by simp only [sd_D2, sd_D3, sd_D4, List.append_assoc, List.nil_append, List.append_nil])
  obtain ⟨k, hk, rfl⟩ := sp_in 5 rfl (by decide) hb
  refine lv_aload_n C.1 C.2.1 d_D_uses_4 rfl (lv_at hl 0 rfl) ?_
  refine sd_get C h 0 1 (v := .ref (qh 0)) (ci := 2) (Cn := "StockDesk") (T := T_D) (N := 3) rfl rfl (by decide) in_D tb_139 rfl d_D_uses_5 ?_
  refine lv_iload_n C.1 C.2.1 d_D_uses_8 rfl (lv_at hl 1 rfl) ?_
  refine lv_iload_n C.1 C.2.1 d_D_uses_9 rfl (lv_at hl 2 rfl) ?_
  rcases Classical.em (¬ hd_has (sS_u o) k y) with ht | ht
  · have h := sd_world h (ws' := (sd_d1 dk qa qh qs ++ sd_dA k3 qa o) ++ (sd_H k3 qh (sS_u o)) ++ ([])) (by simp only [sd_D2, sd_D3, sd_D4, List.append_assoc, List.nil_append, List.append_nil])
    refine sd_xcallv h (vx_runS (As := [.ref (qh 0), .int (nI k), .int y]) (rest := []) C (kx_D_requireThing l hst D k3 H.size qh (sS_u o) k y hk ht) (sd_cwS 3 C.2.2.2.2 tb_346 tb_347 tb_21 tb_348 rfl rfl (by decide +kernel) ⟨Nat.le_of_ble_eq_true rfl, Nat.le_of_ble_eq_true rfl⟩) (sd_preSx h hz) rfl rfl hl.1 rfl (lv_room (Nat.le_of_ble_eq_true rfl)) d_D_uses_10 ⟨Nat.le_of_ble_eq_true rfl, Nat.le_of_ble_eq_true rfl⟩) (fun E ce q9 w1 H locs hq h hce hcv hcl => ?_) (fun w1 H locs hq h => hq.elim)
    obtain ⟨rfl, rfl⟩ := hq
    have h := sd_world h (ws' := sd_d1 dk qa qh qs ++ sd_dA k3 qa o ++ sd_H k3 qh (sS_u o)) (by simp only [sd_D2, sd_D3, sd_D4, List.append_assoc, List.nil_append, List.append_nil])
    exact sd_on hlk htb h (sp_px (sd_D3 k3 dk qa qh qs) (o := o) ((if_neg hb).trans (if_pos (by rw [nI_clamp (show k < 2 ^ 31 by omega)]; exact ht))) (by decide)) hce hcv hcl (by decide) (by decide)
  have h := sd_world h (ws' := (sd_d1 dk qa qh qs ++ sd_dA k3 qa o) ++ (sd_H k3 qh (sS_u o)) ++ ([])) (by simp only [sd_D2, sd_D3, sd_D4, List.append_assoc, List.nil_append, List.append_nil])
  refine sd_callv h (va_runS (As := [.ref (qh 0), .int (nI k), .int y]) (rest := []) C (k_D_requireThing l D k3 H.size qh (sS_u o) k y hk ht) (sd_cwS 3 C.2.2.2.2 tb_346 tb_347 tb_21 tb_348 rfl rfl (by decide +kernel) ⟨Nat.le_of_ble_eq_true rfl, Nat.le_of_ble_eq_true rfl⟩) (sd_preS h) rfl rfl hl.1 rfl (lv_room (Nat.le_of_ble_eq_true rfl)) d_D_uses_10 ⟨Nat.le_of_ble_eq_true rfl, Nat.le_of_ble_eq_true rfl⟩) (fun w1 H locs hq h => ?_)
  obtain rfl := hq
  have h := sd_world h (ws' := sd_d1 dk qa qh qs ++ sd_dA k3 qa o ++ sd_H k3 qh (sS_u o)) (by simp only [sd_D2, sd_D3, sd_D4, List.append_assoc, List.nil_append, List.append_nil])
  have ht := Classical.not_not.mp ht
  obtain ⟨j, h1, h9, rfl⟩ := sp_hasj ht
  refine lv_aload_n C.1 C.2.1 d_D_uses_13 rfl (lv_at hl 0 rfl) ?_
  refine sd_get C h 0 1 (v := .ref (qh 0)) (ci := 2) (Cn := "StockDesk") (T := T_D) (N := 3) rfl rfl (by decide) in_D tb_139 rfl d_D_uses_14 ?_
  refine lv_iload_n C.1 C.2.1 d_D_uses_17 rfl (lv_at hl 1 rfl) ?_
  refine lv_iload_n C.1 C.2.1 d_D_uses_18 rfl (lv_at hl 2 rfl) ?_
  have h := sd_world h (ws' := (sd_d1 dk qa qh qs ++ sd_dA k3 qa o) ++ (sd_H k3 qh (sS_u o)) ++ ([])) (by simp only [sd_D2, sd_D3, sd_D4, List.append_assoc, List.nil_append, List.append_nil])
  refine sd_calli h (va_runV (As := [.int (nI k), .int (nI j)]) (rest := []) C (k_H_usesOf l D k3 H.size qh (sS_u o) k j hk h1 h9) (sd_cwV 2 C.2.2.2.2 tb_488 tb_489 tb_490 tb_23 tb_491 rfl rfl (by decide +kernel) ⟨Nat.le_of_ble_eq_true rfl, Nat.le_of_ble_eq_true rfl⟩) (sd_preV h (q0 := 6) (T := T_H) (N := 16) rfl rfl) rfl rfl hl.1 rfl (lv_room (Nat.le_of_ble_eq_true rfl)) d_D_uses_19 ⟨Nat.le_of_ble_eq_true rfl, Nat.le_of_ble_eq_true rfl⟩) (fun r w1 H locs hq h => ?_)
  obtain ⟨rfl, rfl⟩ := hq
  have h := sd_world h (ws' := sd_d1 dk qa qh qs ++ sd_dA k3 qa o ++ sd_H k3 qh (sS_u o)) (by simp only [sd_D2, sd_D3, sd_D4, List.append_assoc, List.nil_append, List.append_nil])
  refine W.widen (k := 1) (n := 6) (by decide) (by decide) ?_
  refine vx_ret ?_
  exact sd_iret (v := hf_us (sS_u o) (k * 9 + j - 1)) C hr hlk h (sp_pi (sd_D3 k3 dk qa qh qs) (((if_neg hb).trans (if_neg (by rw [nI_clamp (show k < 2 ^ 31 by omega)]; exact not_not_intro ht))).trans (by rw [nI_clamp (show k < 2 ^ 31 by omega), nI_clamp (show j < 2 ^ 31 by omega)]))) d_D_uses_22

set_option maxHeartbeats 4000000 in
set_option maxRecDepth 100000 in
theorem k_D_numbers (l : Launch) (hst : l.stackTraces = false) (D : va_G) (k3 : ClassId × ClassId × ClassId) (sz : Nat) (dk : Nat) (qa : Nat → Nat) (qh : Nat → Nat) (qs : Nat → Nat) (o : sd_S) (x : Int32) (y : Int32) (ho : sS_ok o) : vx_Met l y_D_numbers (sd_ws y_D_numbers c_D_numbers 3 (some FieldType.int)) ({ frames := 8, cells := 1, slots := 6, locals := 123 }) (sd_Px D (sd_t3 k3) [.ref dk, .int x, .int y] sz (sd_d1 dk qa qh qs ++ sd_dA k3 qa o ++ sd_H k3 qh (sS_u o))) (sd_Qi D (sd_t3 k3) (va_A (sd_d1 dk qa qh qs ++ sd_dA k3 qa o ++ sd_H k3 qh (sS_u o)) sz) (fun r w => (sp_numbers o x y).1 = "" ∧ r = (sp_numbers o x y).2.1.toInt32 ∧ w = sd_D3 k3 dk qa qh qs (sp_numbers o x y).2.2)) (sd_X D (sd_t3 k3) (va_A (sd_d1 dk qa qh qs ++ sd_dA k3 qa o ++ sd_H k3 qh (sS_u o)) sz) (fun E w => (sp_numbers o x y).1 = E ∧ ¬ E = "" ∧ w = sd_D3 k3 dk qa qh qs (sp_numbers o x y).2.2)) 1 6 (va_A (sd_d1 dk qa qh qs ++ sd_dA k3 qa o ++ sd_H k3 qh (sS_u o)) sz) := by
  refine sd_metx (cc := c_D_numbers) (maxL := 3) (ret := some .int) (by decide) (Nat.le_of_ble_eq_true rfl) (fun p e s m below meth c C hr hlk htb hz h ls hl => ?_)
  generalize va_A (sd_d1 dk qa qh qs ++ sd_dA k3 qa o ++ sd_H k3 qh (sS_u o)) sz = A at h hz ⊢
  have hl : lv_has ls 3 [(0, .ref dk), (1, .int x), (2, .int y)] := hl
  generalize hH : s.heap = H at h ⊢
  refine lv_iload_n C.1 C.2.1 d_D_numbers_0 rfl (lv_at hl 1 rfl) ?_
  rcases Classical.em (sp_bad x 5) with hb | hb
  · have h := sd_world h (ws' := ([]) ++ ([]) ++ (sd_d1 dk qa qh qs ++ sd_dA k3 qa o ++ sd_H k3 qh (sS_u o))) (by simp only [sd_D2, sd_D3, sd_D4, List.append_assoc, List.nil_append, List.append_nil])
    refine sd_xcallv h (vx_runS (As := [.int x]) (rest := []) C (kx_D_requireKind l hst D k3 H.size x hb) (sd_cwS 1 C.2.2.2.2 tb_185 tb_186 tb_21 tb_187 rfl rfl (by decide +kernel) ⟨Nat.le_of_ble_eq_true rfl, Nat.le_of_ble_eq_true rfl⟩) (sd_preSx h hz) rfl rfl hl.1 rfl (lv_room (Nat.le_of_ble_eq_true rfl)) d_D_numbers_1 ⟨Nat.le_of_ble_eq_true rfl, Nat.le_of_ble_eq_true rfl⟩) (fun E ce q9 w1 H locs hq h hce hcv hcl => ?_) (fun w1 H locs hq h => hq.elim)
    obtain ⟨rfl, rfl⟩ := hq
    have h := sd_world h (ws' := sd_d1 dk qa qh qs ++ sd_dA k3 qa o ++ sd_H k3 qh (sS_u o)) (by simp only [sd_D2, sd_D3, sd_D4, List.append_assoc, List.nil_append, List.append_nil])
    exact sd_on hlk htb h (sp_px (sd_D3 k3 dk qa qh qs) (o := o) (if_pos hb) (by decide)) hce hcv hcl (by decide) (by decide)
  have h := sd_world h (ws' := ([]) ++ ([]) ++ (sd_d1 dk qa qh qs ++ sd_dA k3 qa o ++ sd_H k3 qh (sS_u o))) (by simp only [sd_D2, sd_D3, sd_D4, List.append_assoc, List.nil_append, List.append_nil])
  refine sd_callv h (va_runS (As := [.int x]) (rest := []) C (k_D_requireKind l D k3 H.size x hb) (sd_cwS 1 C.2.2.2.2 tb_185 tb_186 tb_21 tb_187 rfl rfl (by decide +kernel) ⟨Nat.le_of_ble_eq_true rfl, Nat.le_of_ble_eq_true rfl⟩) (sd_preS h) rfl rfl hl.1 rfl (lv_room (Nat.le_of_ble_eq_true rfl)) d_D_numbers_1 ⟨Nat.le_of_ble_eq_true rfl, Nat.le_of_ble_eq_true rfl⟩) (fun w1 H locs hq h => ?_)
  obtain rfl := hq
  have h := sd_world h (ws' := sd_d1 dk qa qh qs ++ sd_dA k3 qa o ++ sd_H k3 qh (sS_u o)) (by simp only [sd_D2, sd_D3, sd_D4, List.append_assoc, List.nil_append, List.append_nil])
  obtain ⟨k, hk, rfl⟩ := sp_in 5 rfl (by decide) hb
  refine lv_iload_n C.1 C.2.1 d_D_numbers_4 rfl (lv_at hl 2 rfl) ?_
  refine lv_iconst (v := 2) C.1 C.2.1 d_D_numbers_5 (by decide) ?_
  rcases Classical.em (sp_bad y 2) with hb2 | hb2
  · have h := sd_world h (ws' := ([]) ++ ([]) ++ (sd_d1 dk qa qh qs ++ sd_dA k3 qa o ++ sd_H k3 qh (sS_u o))) (by simp only [sd_D2, sd_D3, sd_D4, List.append_assoc, List.nil_append, List.append_nil])
    refine sd_xcallv h (vx_runS (As := [.int y, .int 2]) (rest := []) C (kx_D_requireBelow l hst D k3 H.size y 2 hb2) (sd_cwS 2 C.2.2.2.2 tb_188 tb_189 tb_21 tb_190 rfl rfl (by decide +kernel) ⟨Nat.le_of_ble_eq_true rfl, Nat.le_of_ble_eq_true rfl⟩) (sd_preSx h hz) rfl rfl hl.1 rfl (lv_room (Nat.le_of_ble_eq_true rfl)) d_D_numbers_6 ⟨Nat.le_of_ble_eq_true rfl, Nat.le_of_ble_eq_true rfl⟩) (fun E ce q9 w1 H locs hq h hce hcv hcl => ?_) (fun w1 H locs hq h => hq.elim)
    obtain ⟨rfl, rfl⟩ := hq
    have h := sd_world h (ws' := sd_d1 dk qa qh qs ++ sd_dA k3 qa o ++ sd_H k3 qh (sS_u o)) (by simp only [sd_D2, sd_D3, sd_D4, List.append_assoc, List.nil_append, List.append_nil])
    exact sd_on hlk htb h (sp_px (sd_D3 k3 dk qa qh qs) (o := o) ((if_neg hb).trans (if_pos hb2)) (by decide)) hce hcv hcl (by decide) (by decide)
  have h := sd_world h (ws' := ([]) ++ ([]) ++ (sd_d1 dk qa qh qs ++ sd_dA k3 qa o ++ sd_H k3 qh (sS_u o))) (by simp only [sd_D2, sd_D3, sd_D4, List.append_assoc, List.nil_append, List.append_nil])
  refine sd_callv h (va_runS (As := [.int y, .int 2]) (rest := []) C (k_D_requireBelow l D k3 H.size y 2 hb2) (sd_cwS 2 C.2.2.2.2 tb_188 tb_189 tb_21 tb_190 rfl rfl (by decide +kernel) ⟨Nat.le_of_ble_eq_true rfl, Nat.le_of_ble_eq_true rfl⟩) (sd_preS h) rfl rfl hl.1 rfl (lv_room (Nat.le_of_ble_eq_true rfl)) d_D_numbers_6 ⟨Nat.le_of_ble_eq_true rfl, Nat.le_of_ble_eq_true rfl⟩) (fun w1 H locs hq h => ?_)
  obtain rfl := hq
  have h := sd_world h (ws' := sd_d1 dk qa qh qs ++ sd_dA k3 qa o ++ sd_H k3 qh (sS_u o)) (by simp only [sd_D2, sd_D3, sd_D4, List.append_assoc, List.nil_append, List.append_nil])
  refine lv_iload_n C.1 C.2.1 d_D_numbers_9 rfl (lv_at hl 2 rfl) ?_
  refine lv_if_ne (tgt := 24) C.1 C.2.1 d_D_numbers_10 (by decide) (fun c10 => ?_) (fun c10 => ?_)
  · obtain ⟨n, hn9, hm⟩ := (sS_inv ho).1 k hk
    have em : sp_mn o k = n := by unfold sp_mn; rw [hm]; exact nI_clamp (by omega)
    refine lv_aload_n C.1 C.2.1 d_D_numbers_24 rfl (lv_at hl 0 rfl) ?_
    refine sd_get C h 0 1 (v := .ref (qh 0)) (ci := 2) (Cn := "StockDesk") (T := T_D) (N := 3) rfl rfl (by decide) in_D tb_139 rfl d_D_numbers_25 ?_
    refine lv_iload_n C.1 C.2.1 d_D_numbers_28 rfl (lv_at hl 1 rfl) ?_
    have h := sd_world h (ws' := (sd_d1 dk qa qh qs ++ sd_dA k3 qa o) ++ (sd_H k3 qh (sS_u o)) ++ ([])) (by simp only [sd_D2, sd_D3, sd_D4, List.append_assoc, List.nil_append, List.append_nil])
    refine sd_calli h (va_runV (As := [.int (nI k)]) (rest := []) C (k_H_thereOf l D k3 H.size qh (sS_u o) k n hk hn9 hm) (sd_cwV 1 C.2.2.2.2 tb_499 tb_170 tb_171 tb_23 tb_172 rfl rfl (by decide +kernel) ⟨Nat.le_of_ble_eq_true rfl, Nat.le_of_ble_eq_true rfl⟩) (sd_preV h (q0 := 6) (T := T_H) (N := 16) rfl rfl) rfl rfl hl.1 rfl (lv_room (Nat.le_of_ble_eq_true rfl)) d_D_numbers_29 ⟨Nat.le_of_ble_eq_true rfl, Nat.le_of_ble_eq_true rfl⟩) (fun r w1 H locs hq h => ?_)
    obtain ⟨rfl, rfl⟩ := hq
    have h := sd_world h (ws' := sd_d1 dk qa qh qs ++ sd_dA k3 qa o ++ sd_H k3 qh (sS_u o)) (by simp only [sd_D2, sd_D3, sd_D4, List.append_assoc, List.nil_append, List.append_nil])
    refine W.widen (k := 1) (n := 6) (by decide) (by decide) ?_
    refine vx_ret ?_
    exact sd_iret (v := nI (hd_cnt (hf_th (sS_u o)) k n)) C hr hlk h (sp_pi (sd_D3 k3 dk qa qh qs) ((if_neg hb).trans ((if_neg hb2).trans ((if_neg c10).trans (by rw [nI_clamp (show k < 2 ^ 31 by omega), em]))))) d_D_numbers_32
  · refine lv_aload_n C.1 C.2.1 d_D_numbers_13 rfl (lv_at hl 0 rfl) ?_
    refine sd_get C h 0 1 (v := .ref (qh 0)) (ci := 2) (Cn := "StockDesk") (T := T_D) (N := 3) rfl rfl (by decide) in_D tb_139 rfl d_D_numbers_14 ?_
    refine lv_iload_n C.1 C.2.1 d_D_numbers_17 rfl (lv_at hl 1 rfl) ?_
    have h := sd_world h (ws' := (sd_d1 dk qa qh qs ++ sd_dA k3 qa o) ++ (sd_H k3 qh (sS_u o)) ++ ([])) (by simp only [sd_D2, sd_D3, sd_D4, List.append_assoc, List.nil_append, List.append_nil])
    refine sd_calli h (va_runV (As := [.int (nI k)]) (rest := []) C (k_H_madeOf l D k3 H.size qh (sS_u o) k hk) (sd_cwV 1 C.2.2.2.2 tb_260 tb_261 tb_262 tb_23 tb_263 rfl rfl (by decide +kernel) ⟨Nat.le_of_ble_eq_true rfl, Nat.le_of_ble_eq_true rfl⟩) (sd_preV h (q0 := 6) (T := T_H) (N := 16) rfl rfl) rfl rfl hl.1 rfl (lv_room (Nat.le_of_ble_eq_true rfl)) d_D_numbers_18 ⟨Nat.le_of_ble_eq_true rfl, Nat.le_of_ble_eq_true rfl⟩) (fun r w1 H locs hq h => ?_)
    obtain ⟨rfl, rfl⟩ := hq
    have h := sd_world h (ws' := sd_d1 dk qa qh qs ++ sd_dA k3 qa o ++ sd_H k3 qh (sS_u o)) (by simp only [sd_D2, sd_D3, sd_D4, List.append_assoc, List.nil_append, List.append_nil])
    refine lv_goto (tgt := 32) C.1 C.2.1 d_D_numbers_21 (by decide) ?_
    refine W.widen (k := 1) (n := 6) (by decide) (by decide) ?_
    refine vx_ret ?_
    exact sd_iret (v := hf_md (sS_u o) k) C hr hlk h (sp_pi (sd_D3 k3 dk qa qh qs) ((if_neg hb).trans ((if_neg hb2).trans ((if_pos c10).trans (by rw [nI_clamp (show k < 2 ^ 31 by omega)]))))) d_D_numbers_32
