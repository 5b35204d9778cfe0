theorem sp_t4 (x : Int32) : x = 0 ∨ x = 1 ∨ x = 2 ∨ x = 3 ∨ (x.toInt < 0 ∨ 3 < x.toInt) := by
  rcases Classical.em (x.toInt < 0 ∨ 3 < x.toInt) with h | h
  · exact Or.inr (Or.inr (Or.inr (Or.inr h)))
  · have h4 : x.toInt = 0 ∨ x.toInt = 1 ∨ x.toInt = 2 ∨ x.toInt = 3 := by omega
    rcases h4 with e | e | e | e
    · exact Or.inl (Int32.toInt_inj.mp e)
    · exact Or.inr (Or.inl (Int32.toInt_inj.mp e))
    · exact Or.inr (Or.inr (Or.inl (Int32.toInt_inj.mp e)))
    · exact Or.inr (Or.inr (Or.inr (Or.inl (Int32.toInt_inj.mp e))))
theorem sp_n4 {x : Int32} (h : x.toInt < 0 ∨ 3 < x.toInt) : ¬ x = 0 ∧ ¬ x = 1 ∧ ¬ x = 2 ∧ ¬ x = 3 := by
  refine ⟨?_, ?_, ?_, ?_⟩ <;> (intro e; subst e; revert h; decide)
theorem sp_mn_ok {o : sd_S} (ho : sS_ok o) (k : Nat) (hk : k < 5) : sp_mn o k ≤ 9 ∧ hf_md (sS_u o) k = nI (sp_mn o k) := by
  obtain ⟨n, hn9, hm⟩ := (sS_inv ho).1 k hk
  have em : sp_mn o k = n := by unfold sp_mn; rw [hm]; exact nI_clamp (by omega)
  rw [em]
  exact ⟨hn9, hm⟩
def sS_0 : sd_S := (0, fun _ => 0, fun _ => 0, fun _ => 0, fun _ => 0)
set_option maxHeartbeats 4000000 in
set_option maxRecDepth 100000 in
theorem k_D_back (l : Launch) (hst : l.stackTraces = false) (D : va_G) (k3 : ClassId × ClassId × ClassId) (sz : Nat) (dk : Nat) (qa : Nat → Nat) (qh : Nat → Nat) (qs : Nat → Nat) (o : sd_S) (ho : sS_ok o) : vx_Met l y_D_back (sd_ws y_D_back c_D_back 1 (some FieldType.int)) ({ frames := 6, cells := 1, slots := 6, locals := 94 }) (sd_Px D (sd_t3 k3) [.ref dk] sz (sd_d1 dk qa qh qs ++ sd_dA k3 qa o ++ sd_H k3 qh (sS_u o))) (sd_Qi D (sd_t3 k3) (va_A (sd_d1 dk qa qh qs ++ sd_dA k3 qa o ++ sd_H k3 qh (sS_u o)) sz) (fun r w => (sp_back o).1 = "" ∧ r = (sp_back o).2.1.toInt32 ∧ w = sd_D3 k3 dk qa qh qs (sp_back o).2.2)) (sd_X D (sd_t3 k3) (va_A (sd_d1 dk qa qh qs ++ sd_dA k3 qa o ++ sd_H k3 qh (sS_u o)) sz) (fun E w => (sp_back o).1 = E ∧ ¬ E = "" ∧ w = sd_D3 k3 dk qa qh qs (sp_back o).2.2)) 1 6 (va_A (sd_d1 dk qa qh qs ++ sd_dA k3 qa o ++ sd_H k3 qh (sS_u o)) sz) := by
  refine sd_metx (cc := c_D_back) (maxL := 1) (ret := some .int) (by decide) (Nat.le_of_ble_eq_true rfl) (fun p e s m below meth c C hr hlk htb hz h ls hl => ?_)
  generalize va_A (sd_d1 dk qa qh qs ++ sd_dA k3 qa o ++ sd_H k3 qh (sS_u o)) sz = A at h hz ⊢
  have hl : lv_has ls 1 [(0, .ref dk)] := hl
  generalize hH : s.heap = H at h ⊢
  refine lv_aload_n C.1 C.2.1 d_D_back_0 rfl (lv_at hl 0 rfl) ?_
  refine sd_get C h 0 0 (v := .ref (qa 0)) (ci := 2) (Cn := "StockDesk") (T := T_D) (N := 3) rfl rfl (by decide) in_D tb_138 rfl d_D_back_1 ?_
  have h := sd_world h (ws' := sd_d1 dk qa qh qs ++ sd_A k3 qa (nI o.1) o.2.1 o.2.2.1 o.2.2.2.1 o.2.2.2.2 ++ sd_H k3 qh (sS_u o)) rfl
  have h := sd_world h (ws' := (sd_d1 dk qa qh qs) ++ (sd_A k3 qa (nI o.1) o.2.1 o.2.2.1 o.2.2.2.1 o.2.2.2.2) ++ (sd_H k3 qh (sS_u o))) (by simp only [sd_D2, sd_D3, sd_D4, List.append_assoc, List.nil_append, List.append_nil])
  refine sd_calli h (va_runV (As := []) (rest := []) C (k_A_size l D k3 H.size qa (nI o.1) o.2.1 o.2.2.1 o.2.2.2.1 o.2.2.2.2 ) (sd_cwV 0 C.2.2.2.2 tb_161 tb_162 tb_163 tb_22 tb_164 rfl rfl (by decide +kernel) ⟨Nat.le_of_ble_eq_true rfl, Nat.le_of_ble_eq_true rfl⟩) (sd_preV h (q0 := 1) (T := T_A) (N := 5) rfl rfl) rfl rfl hl.1 rfl (lv_room (Nat.le_of_ble_eq_true rfl)) d_D_back_4 ⟨Nat.le_of_ble_eq_true rfl, Nat.le_of_ble_eq_true rfl⟩) (fun r w1 H locs hq h => ?_)
  obtain ⟨rfl, rfl⟩ := hq
  have h := sd_world h (ws' := sd_d1 dk qa qh qs ++ sd_A k3 qa (nI o.1) o.2.1 o.2.2.1 o.2.2.2.1 o.2.2.2.2 ++ sd_H k3 qh (sS_u o)) (by simp only [sd_D2, sd_D3, sd_D4, List.append_assoc, List.nil_append, List.append_nil])
  have h := sd_world h (ws' := sd_d1 dk qa qh qs ++ sd_dA k3 qa o ++ sd_H k3 qh (sS_u o)) rfl
  refine lv_if_ne (tgt := 20) C.1 C.2.1 d_D_back_7 (by decide) (fun c7 => ?_) (fun c7 => ?_)
  · have h0 : ¬ o.1 = 0 := fun z => c7 (by rw [z]; rfl)
    obtain ⟨nn, hnn⟩ : ∃ nn, o.1 = nn + 1 := ⟨o.1 - 1, by omega⟩
    have ho1 := ho.1
    have h := sd_world h (ws' := sd_d1 dk qa qh qs ++ sd_A k3 qa (nI (nn + 1)) o.2.1 o.2.2.1 o.2.2.2.1 o.2.2.2.2 ++ sd_H k3 qh (sS_u o)) (by simp only [sd_dA, hnn])
    refine lv_aload_n C.1 C.2.1 d_D_back_20 rfl (lv_at hl 0 rfl) ?_
    refine sd_get C h 0 0 (v := .ref (qa 0)) (ci := 2) (Cn := "StockDesk") (T := T_D) (N := 3) rfl rfl (by decide) in_D tb_138 rfl d_D_back_21 ?_
    have h := sd_world h (ws' := (sd_d1 dk qa qh qs) ++ (sd_A k3 qa (nI (nn + 1)) o.2.1 o.2.2.1 o.2.2.2.1 o.2.2.2.2) ++ (sd_H k3 qh (sS_u o))) (by simp only [sd_D2, sd_D3, sd_D4, List.append_assoc, List.nil_append, List.append_nil])
    refine sd_callv h (va_runV (As := []) (rest := []) C (k_A_removeLatest l D k3 H.size qa nn o.2.1 o.2.2.1 o.2.2.2.1 o.2.2.2.2 (by omega : nn < 60)) (sd_cwV 0 C.2.2.2.2 tb_458 tb_459 tb_460 tb_22 tb_461 rfl rfl (by decide +kernel) ⟨Nat.le_of_ble_eq_true rfl, Nat.le_of_ble_eq_true rfl⟩) (sd_preV h (q0 := 1) (T := T_A) (N := 5) rfl rfl) rfl rfl hl.1 rfl (lv_room (Nat.le_of_ble_eq_true rfl)) d_D_back_24 ⟨Nat.le_of_ble_eq_true rfl, Nat.le_of_ble_eq_true rfl⟩) (fun w1 H locs hq h => ?_)
    obtain rfl := hq
    have h := sd_world h (ws' := sd_d1 dk qa qh qs ++ sd_A k3 qa (nI nn) o.2.1 o.2.2.1 o.2.2.2.1 o.2.2.2.2 ++ sd_H k3 qh (sS_u o)) (by simp only [sd_D2, sd_D3, sd_D4, List.append_assoc, List.nil_append, List.append_nil])
    refine lv_aload_n C.1 C.2.1 d_D_back_27 rfl (lv_at hl 0 rfl) ?_
    refine sd_get C h 0 0 (v := .ref (qa 0)) (ci := 2) (Cn := "StockDesk") (T := T_D) (N := 3) rfl rfl (by decide) in_D tb_138 rfl d_D_back_28 ?_
    refine lv_aload_n C.1 C.2.1 d_D_back_31 rfl (lv_at hl 0 rfl) ?_
    refine sd_get C h 0 1 (v := .ref (qh 0)) (ci := 2) (Cn := "StockDesk") (T := T_D) (N := 3) rfl rfl (by decide) in_D tb_139 rfl d_D_back_32 ?_
    have h := sd_world h (ws' := (sd_d1 dk qa qh qs) ++ (sd_A k3 qa (nI nn) o.2.1 o.2.2.1 o.2.2.2.1 o.2.2.2.2 ++ sd_H k3 qh (sS_u o)) ++ ([])) (by simp only [sd_D2, sd_D3, sd_D4, List.append_assoc, List.nil_append, List.append_nil])
    refine sd_callv h (va_runV (As := [.ref (qh 0)]) (rest := []) C (k_A_doAllOn l D k3 H.size qa nn o.2.1 o.2.2.1 o.2.2.2.1 o.2.2.2.2 qh (sS_u o) (by omega : nn ≤ 60) (fun j hj => ho.2 j (by omega))) (sd_cwV 1 C.2.2.2.2 tb_435 tb_436 tb_437 tb_22 tb_438 rfl rfl (by decide +kernel) ⟨Nat.le_of_ble_eq_true rfl, Nat.le_of_ble_eq_true rfl⟩) (sd_preV h (q0 := 1) (T := T_A) (N := 5) rfl rfl) rfl rfl hl.1 rfl (lv_room (Nat.le_of_ble_eq_true rfl)) d_D_back_35 ⟨Nat.le_of_ble_eq_true rfl, Nat.le_of_ble_eq_true rfl⟩) (fun w1 H locs hq h => ?_)
    have hq : w1 = sd_A k3 qa (nI nn) o.2.1 o.2.2.1 o.2.2.2.1 o.2.2.2.2 ++ sd_H k3 qh (sd_run o.2.1 o.2.2.1 o.2.2.2.1 o.2.2.2.2 nn) := hq
    subst hq
    have h := sd_world h (ws' := sd_d1 dk qa qh qs ++ sd_A k3 qa (nI nn) o.2.1 o.2.2.1 o.2.2.2.1 o.2.2.2.2 ++ sd_H k3 qh (sd_run o.2.1 o.2.2.1 o.2.2.2.1 o.2.2.2.2 nn)) (by simp only [sd_D2, sd_D3, sd_D4, List.append_assoc, List.nil_append, List.append_nil])
    refine lv_aload_n C.1 C.2.1 d_D_back_38 rfl (lv_at hl 0 rfl) ?_
    refine sd_get C h 0 0 (v := .ref (qa 0)) (ci := 2) (Cn := "StockDesk") (T := T_D) (N := 3) rfl rfl (by decide) in_D tb_138 rfl d_D_back_39 ?_
    have h := sd_world h (ws' := (sd_d1 dk qa qh qs) ++ (sd_A k3 qa (nI nn) o.2.1 o.2.2.1 o.2.2.2.1 o.2.2.2.2) ++ (sd_H k3 qh (sd_run o.2.1 o.2.2.1 o.2.2.2.1 o.2.2.2.2 nn))) (by simp only [sd_D2, sd_D3, sd_D4, List.append_assoc, List.nil_append, List.append_nil])
    refine sd_calli h (va_runV (As := []) (rest := []) C (k_A_size l D k3 H.size qa (nI nn) o.2.1 o.2.2.1 o.2.2.2.1 o.2.2.2.2 ) (sd_cwV 0 C.2.2.2.2 tb_161 tb_162 tb_163 tb_22 tb_164 rfl rfl (by decide +kernel) ⟨Nat.le_of_ble_eq_true rfl, Nat.le_of_ble_eq_true rfl⟩) (sd_preV h (q0 := 1) (T := T_A) (N := 5) rfl rfl) rfl rfl hl.1 rfl (lv_room (Nat.le_of_ble_eq_true rfl)) d_D_back_42 ⟨Nat.le_of_ble_eq_true rfl, Nat.le_of_ble_eq_true rfl⟩) (fun r w1 H locs hq h => ?_)
    obtain ⟨rfl, rfl⟩ := hq
    have h := sd_world h (ws' := sd_d1 dk qa qh qs ++ sd_A k3 qa (nI nn) o.2.1 o.2.2.1 o.2.2.2.1 o.2.2.2.2 ++ sd_H k3 qh (sd_run o.2.1 o.2.2.1 o.2.2.2.1 o.2.2.2.2 nn)) (by simp only [sd_D2, sd_D3, sd_D4, List.append_assoc, List.nil_append, List.append_nil])
    refine W.widen (k := 1) (n := 6) (by decide) (by decide) ?_
    refine vx_ret ?_
    exact sd_iret (v := nI nn) C hr hlk h (sp_pi (sd_D3 k3 dk qa qh qs) (o := (nn, o.2)) ((if_neg h0).trans (by simp only [sS_pop, hnn, Nat.add_sub_cancel]))) d_D_back_45
  · have h0 : o.1 = 0 := sd_inj (by have := ho.1; omega) (by decide) c7
    exact sd_throw (names := ["java/lang/RuntimeException", "java/lang/Exception"]) (cls := xIS) (text := "there is no act to take back") (ik := 69) (is := 92) (ic := 73) C hst hlk htb hz h hl.1 (by decide +kernel) (by decide +kernel) tb_412 tb_31 (by decide +kernel) at_xIS_73 gd_xIS_69_73 d_D_back_10 d_D_back_13 d_D_back_14 d_D_back_16 d_D_back_19 (by decide) (Nat.le_of_ble_eq_true rfl) (by decide) (by decide) (sp_px (sd_D3 k3 dk qa qh qs) (o := o) (if_pos h0) (by decide)) (by decide) (by decide)

set_option maxHeartbeats 4000000 in
set_option maxRecDepth 100000 in
theorem k_D_told (l : Launch) (hst : l.stackTraces = false) (D : va_G) (k3 : ClassId × ClassId × ClassId) (sz : Nat) (dk : Nat) (qa : Nat → Nat) (qh : Nat → Nat) (qs : Nat → Nat) (o : sd_S) (x : Int32) (ho : sS_ok o) : vx_Met l y_D_told (sd_ws y_D_told c_D_told 2 (some FieldType.int)) ({ frames := 6, cells := 1, slots := 6, locals := 82 }) (sd_Px D (sd_t3 k3) [.ref dk, .int x] sz (sd_d1 dk qa qh qs ++ sd_dA k3 qa o ++ sd_H k3 qh (sS_u o))) (sd_Qi D (sd_t3 k3) (va_A (sd_d1 dk qa qh qs ++ sd_dA k3 qa o ++ sd_H k3 qh (sS_u o)) sz) (fun r w => (sp_told o x).1 = "" ∧ r = (sp_told o x).2.1.toInt32 ∧ w = sd_D3 k3 dk qa qh qs (sp_told o x).2.2)) (sd_X D (sd_t3 k3) (va_A (sd_d1 dk qa qh qs ++ sd_dA k3 qa o ++ sd_H k3 qh (sS_u o)) sz) (fun E w => (sp_told o x).1 = E ∧ ¬ E = "" ∧ w = sd_D3 k3 dk qa qh qs (sp_told o x).2.2)) 1 6 (va_A (sd_d1 dk qa qh qs ++ sd_dA k3 qa o ++ sd_H k3 qh (sS_u o)) sz) := by
  refine sd_metx (cc := c_D_told) (maxL := 2) (ret := some .int) (by decide) (Nat.le_of_ble_eq_true rfl) (fun p e s m below meth c C hr hlk htb hz h ls hl => ?_)
  generalize va_A (sd_d1 dk qa qh qs ++ sd_dA k3 qa o ++ sd_H k3 qh (sS_u o)) sz = A at h hz ⊢
  have hl : lv_has ls 2 [(0, .ref dk), (1, .int x)] := hl
  generalize hH : s.heap = H at h ⊢
  rcases sp_t4 x with rfl | rfl | rfl | rfl | hx
  · have hl : lv_has ls 2 [(0, .ref dk), (1, .int 0)] := hl
    refine lv_iload_n C.1 C.2.1 d_D_told_0 rfl (lv_at hl 1 rfl) ?_
    refine lv_tableIn C.1 C.2.1 d_D_told_1 (off := 31) (tgt := 32) (by decide) (by decide) (by decide) (by decide) ?_
    refine lv_aload_n C.1 C.2.1 d_D_told_32 rfl (lv_at hl 0 rfl) ?_
    refine sd_get C h 0 1 (v := .ref (qh 0)) (ci := 2) (Cn := "StockDesk") (T := T_D) (N := 3) rfl rfl (by decide) in_D tb_139 rfl d_D_told_33 ?_
    refine sd_getN C h 6 8 (v := .int (hf_fl (sS_u o))) (ci := 1) (Cn := "StockDesk$House") (T := T_H) (N := 16) rfl rfl (by decide) in_H (va_Nw.use (w := Cond.fieldLinkNest "StockDesk" 97 "StockDesk$House" "failures" "I" "StockDesk") rfl (hz.2.2.2.1 _ (by decide +kernel))) rfl d_D_told_36 ?_
    refine W.widen (k := 1) (n := 6) (by decide) (by decide) ?_
    refine vx_ret ?_
    exact sd_iret (v := hf_fl (sS_u o)) C hr hlk h (sp_pi (sd_D3 k3 dk qa qh qs) (o := o) (if_pos rfl)) d_D_told_39
  · have hl : lv_has ls 2 [(0, .ref dk), (1, .int 1)] := hl
    refine lv_iload_n C.1 C.2.1 d_D_told_0 rfl (lv_at hl 1 rfl) ?_
    refine lv_tableIn C.1 C.2.1 d_D_told_1 (off := 39) (tgt := 40) (by decide) (by decide) (by decide) (by decide) ?_
    refine lv_aload_n C.1 C.2.1 d_D_told_40 rfl (lv_at hl 0 rfl) ?_
    refine sd_get C h 0 1 (v := .ref (qh 0)) (ci := 2) (Cn := "StockDesk") (T := T_D) (N := 3) rfl rfl (by decide) in_D tb_139 rfl d_D_told_41 ?_
    refine sd_getN C h 6 9 (v := .int (hf_tw (sS_u o))) (ci := 1) (Cn := "StockDesk$House") (T := T_H) (N := 16) rfl rfl (by decide) in_H (va_Nw.use (w := Cond.fieldLinkNest "StockDesk" 101 "StockDesk$House" "toldWay" "I" "StockDesk") rfl (hz.2.2.2.1 _ (by decide +kernel))) rfl d_D_told_44 ?_
    refine W.widen (k := 1) (n := 6) (by decide) (by decide) ?_
    refine vx_ret ?_
    exact sd_iret (v := hf_tw (sS_u o)) C hr hlk h (sp_pi (sd_D3 k3 dk qa qh qs) (o := o) ((if_neg (by decide)).trans (if_pos rfl))) d_D_told_47
  · have hl : lv_has ls 2 [(0, .ref dk), (1, .int 2)] := hl
    refine lv_iload_n C.1 C.2.1 d_D_told_0 rfl (lv_at hl 1 rfl) ?_
    refine lv_tableIn C.1 C.2.1 d_D_told_1 (off := 47) (tgt := 48) (by decide) (by decide) (by decide) (by decide) ?_
    refine lv_aload_n C.1 C.2.1 d_D_told_48 rfl (lv_at hl 0 rfl) ?_
    refine sd_get C h 0 1 (v := .ref (qh 0)) (ci := 2) (Cn := "StockDesk") (T := T_D) (N := 3) rfl rfl (by decide) in_D tb_139 rfl d_D_told_49 ?_
    refine sd_getN C h 6 10 (v := .int (hf_tp (sS_u o))) (ci := 1) (Cn := "StockDesk$House") (T := T_H) (N := 16) rfl rfl (by decide) in_H (va_Nw.use (w := Cond.fieldLinkNest "StockDesk" 104 "StockDesk$House" "toldPart" "I" "StockDesk") rfl (hz.2.2.2.1 _ (by decide +kernel))) rfl d_D_told_52 ?_
    refine W.widen (k := 1) (n := 6) (by decide) (by decide) ?_
    refine vx_ret ?_
    exact sd_iret (v := hf_tp (sS_u o)) C hr hlk h (sp_pi (sd_D3 k3 dk qa qh qs) (o := o) ((if_neg (by decide)).trans ((if_neg (by decide)).trans (if_pos rfl)))) d_D_told_55
  · have hl : lv_has ls 2 [(0, .ref dk), (1, .int 3)] := hl
    refine lv_iload_n C.1 C.2.1 d_D_told_0 rfl (lv_at hl 1 rfl) ?_
    refine lv_tableIn C.1 C.2.1 d_D_told_1 (off := 55) (tgt := 56) (by decide) (by decide) (by decide) (by decide) ?_
    refine lv_aload_n C.1 C.2.1 d_D_told_56 rfl (lv_at hl 0 rfl) ?_
    refine sd_get C h 0 1 (v := .ref (qh 0)) (ci := 2) (Cn := "StockDesk") (T := T_D) (N := 3) rfl rfl (by decide) in_D tb_139 rfl d_D_told_57 ?_
    refine sd_getN C h 6 11 (v := .int (hf_tn (sS_u o))) (ci := 1) (Cn := "StockDesk$House") (T := T_H) (N := 16) rfl rfl (by decide) in_H (va_Nw.use (w := Cond.fieldLinkNest "StockDesk" 107 "StockDesk$House" "toldNumber" "I" "StockDesk") rfl (hz.2.2.2.1 _ (by decide +kernel))) rfl d_D_told_60 ?_
    refine W.widen (k := 1) (n := 6) (by decide) (by decide) ?_
    refine vx_ret ?_
    exact sd_iret (v := hf_tn (sS_u o)) C hr hlk h (sp_pi (sd_D3 k3 dk qa qh qs) (o := o) ((if_neg (by decide)).trans ((if_neg (by decide)).trans ((if_neg (by decide)).trans (if_pos rfl))))) d_D_told_63
  · have hl : lv_has ls 2 [(0, .ref dk), (1, .int x)] := hl
    refine lv_iload_n C.1 C.2.1 d_D_told_0 rfl (lv_at hl 1 rfl) ?_
    refine lv_tableOut C.1 C.2.1 d_D_told_1 (tgt := 64) hx (by decide) ?_
    exact sd_throw (names := ["java/lang/RuntimeException", "java/lang/Exception"]) (cls := xIA) (text := "nothing else is told") (ik := 110) (is := 112) (ic := 114) C hst hlk htb hz h hl.1 (by decide +kernel) (by decide +kernel) tb_191 tb_28 (by decide +kernel) at_xIA_114 gd_xIA_110_114 d_D_told_64 d_D_told_67 d_D_told_68 d_D_told_70 d_D_told_73 (by decide) (Nat.le_of_ble_eq_true rfl) (by decide) (by decide) (sp_px (sd_D3 k3 dk qa qh qs) (o := o) ((if_neg (sp_n4 hx).1).trans ((if_neg (sp_n4 hx).2.1).trans ((if_neg (sp_n4 hx).2.2.1).trans (if_neg (sp_n4 hx).2.2.2)))) (by decide)) (by decide) (by decide)

set_option maxHeartbeats 4000000 in
set_option maxRecDepth 100000 in
theorem k_D_count (l : Launch) (D : va_G) (k3 : ClassId × ClassId × ClassId) (sz : Nat) (dk : Nat) (qa : Nat → Nat) (qh : Nat → Nat) (qs : Nat → Nat) (o : sd_S) (x : Int32) (ho : sS_ok o) : Met l y_D_count (sd_ws y_D_count c_D_count 2 (some FieldType.int)) ({ frames := 3, cells := 0, slots := 0, locals := 66 }) (sd_Px D (sd_t3 k3) [.ref dk, .int x] sz (sd_d1 dk qa qh qs ++ sd_dA k3 qa o ++ sd_H k3 qh (sS_u o))) (sd_Qi D (sd_t3 k3) (va_A (sd_d1 dk qa qh qs ++ sd_dA k3 qa o ++ sd_H k3 qh (sS_u o)) sz) (fun r w => r = sp_count o x ∧ w = sd_D3 k3 dk qa qh qs o)) 0 0 (va_A (sd_d1 dk qa qh qs ++ sd_dA k3 qa o ++ sd_H k3 qh (sS_u o)) sz) := by
  refine sd_mett (cc := c_D_count) (maxL := 2) (ret := some .int) (by decide) (Nat.le_of_ble_eq_true rfl) (fun p e s m below meth c C hr hlk hnm hz h ls hl => ?_)
  generalize va_A (sd_d1 dk qa qh qs ++ sd_dA k3 qa o ++ sd_H k3 qh (sS_u o)) sz = A at h hz ⊢
  have hl : lv_has ls 2 [(0, .ref dk), (1, .int x)] := hl
  generalize hH : s.heap = H at h ⊢
  rcases sp_t4 x with rfl | rfl | rfl | rfl | hx
  · have hl : lv_has ls 2 [(0, .ref dk), (1, .int 0)] := hl
    refine lv_iload_n C.1 C.2.1 d_D_count_0 rfl (lv_at hl 1 rfl) ?_
    refine lv_tableIn C.1 C.2.1 d_D_count_1 (off := 31) (tgt := 32) (by decide) (by decide) (by decide) (by decide) ?_
    refine lv_aload_n C.1 C.2.1 d_D_count_32 rfl (lv_at hl 0 rfl) ?_
    refine sd_get C h 0 0 (v := .ref (qa 0)) (ci := 2) (Cn := "StockDesk") (T := T_D) (N := 3) rfl rfl (by decide) in_D tb_138 rfl d_D_count_33 ?_
    have h := sd_world h (ws' := sd_d1 dk qa qh qs ++ sd_A k3 qa (nI o.1) o.2.1 o.2.2.1 o.2.2.2.1 o.2.2.2.2 ++ sd_H k3 qh (sS_u o)) rfl
    have h := sd_world h (ws' := (sd_d1 dk qa qh qs) ++ (sd_A k3 qa (nI o.1) o.2.1 o.2.2.1 o.2.2.2.1 o.2.2.2.2) ++ (sd_H k3 qh (sS_u o))) (by simp only [sd_D2, sd_D3, sd_D4, List.append_assoc, List.nil_append, List.append_nil])
    refine sd_calli h (va_runV (As := []) (rest := []) C (k_A_size l D k3 H.size qa (nI o.1) o.2.1 o.2.2.1 o.2.2.2.1 o.2.2.2.2 ) (sd_cwV 0 C.2.2.2.2 tb_161 tb_162 tb_163 tb_22 tb_164 rfl rfl (by decide +kernel) ⟨Nat.le_of_ble_eq_true rfl, Nat.le_of_ble_eq_true rfl⟩) (sd_preV h (q0 := 1) (T := T_A) (N := 5) rfl rfl) rfl rfl hl.1 rfl (lv_room (Nat.le_of_ble_eq_true rfl)) d_D_count_36 ⟨Nat.le_of_ble_eq_true rfl, Nat.le_of_ble_eq_true rfl⟩) (fun r w1 H locs hq h => ?_)
    obtain ⟨rfl, rfl⟩ := hq
    have h := sd_world h (ws' := sd_d1 dk qa qh qs ++ sd_A k3 qa (nI o.1) o.2.1 o.2.2.1 o.2.2.2.1 o.2.2.2.2 ++ sd_H k3 qh (sS_u o)) (by simp only [sd_D2, sd_D3, sd_D4, List.append_assoc, List.nil_append, List.append_nil])
    have h := sd_world h (ws' := sd_d1 dk qa qh qs ++ sd_dA k3 qa o ++ sd_H k3 qh (sS_u o)) rfl
    exact sd_iret (v := nI o.1) C hr hlk h ⟨(if_pos rfl).symm, rfl⟩ d_D_count_39
  · have hl : lv_has ls 2 [(0, .ref dk), (1, .int 1)] := hl
    refine lv_iload_n C.1 C.2.1 d_D_count_0 rfl (lv_at hl 1 rfl) ?_
    refine lv_tableIn C.1 C.2.1 d_D_count_1 (off := 39) (tgt := 40) (by decide) (by decide) (by decide) (by decide) ?_
    refine lv_aload_n C.1 C.2.1 d_D_count_40 rfl (lv_at hl 0 rfl) ?_
    refine sd_get C h 0 1 (v := .ref (qh 0)) (ci := 2) (Cn := "StockDesk") (T := T_D) (N := 3) rfl rfl (by decide) in_D tb_139 rfl d_D_count_41 ?_
    have h := sd_world h (ws' := (sd_d1 dk qa qh qs ++ sd_dA k3 qa o) ++ (sd_H k3 qh (sS_u o)) ++ ([])) (by simp only [sd_D2, sd_D3, sd_D4, List.append_assoc, List.nil_append, List.append_nil])
    refine sd_calli h (va_runV (As := []) (rest := []) C (k_H_thereOfAll l D k3 H.size qh (sS_u o) (sp_mn o) (sp_mn_ok ho)) (sd_cwV 0 C.2.2.2.2 tb_165 tb_166 tb_167 tb_23 tb_168 rfl rfl (by decide +kernel) ⟨Nat.le_of_ble_eq_true rfl, Nat.le_of_ble_eq_true rfl⟩) (sd_preV h (q0 := 6) (T := T_H) (N := 16) rfl rfl) rfl rfl hl.1 rfl (lv_room (Nat.le_of_ble_eq_true rfl)) d_D_count_44 ⟨Nat.le_of_ble_eq_true rfl, Nat.le_of_ble_eq_true rfl⟩) (fun r w1 H locs hq h => ?_)
    obtain ⟨rfl, rfl⟩ := hq
    have h := sd_world h (ws' := sd_d1 dk qa qh qs ++ sd_dA k3 qa o ++ sd_H k3 qh (sS_u o)) (by simp only [sd_D2, sd_D3, sd_D4, List.append_assoc, List.nil_append, List.append_nil])
    exact sd_iret (v := nI (hd_all (hf_th (sS_u o)) (sp_mn o) 5)) C hr hlk h ⟨((if_neg (by decide)).trans (if_pos rfl)).symm, rfl⟩ d_D_count_47
  · have hl : lv_has ls 2 [(0, .ref dk), (1, .int 2)] := hl
    refine lv_iload_n C.1 C.2.1 d_D_count_0 rfl (lv_at hl 1 rfl) ?_
    refine lv_tableIn C.1 C.2.1 d_D_count_1 (off := 47) (tgt := 48) (by decide) (by decide) (by decide) (by decide) ?_
    refine lv_aload_n C.1 C.2.1 d_D_count_48 rfl (lv_at hl 0 rfl) ?_
    refine sd_get C h 0 1 (v := .ref (qh 0)) (ci := 2) (Cn := "StockDesk") (T := T_D) (N := 3) rfl rfl (by decide) in_D tb_139 rfl d_D_count_49 ?_
    refine sd_getN C h 6 13 (v := .int (hf_co (sS_u o))) (ci := 1) (Cn := "StockDesk$House") (T := T_H) (N := 16) rfl rfl (by decide) in_H (va_Nw.use (w := Cond.fieldLinkNest "StockDesk" 129 "StockDesk$House" "collected" "I" "StockDesk") rfl (hz.2.2.2.1 _ (by decide +kernel))) rfl d_D_count_52 ?_
    exact sd_iret (v := hf_co (sS_u o)) C hr hlk h ⟨((if_neg (by decide)).trans ((if_neg (by decide)).trans (if_pos rfl))).symm, rfl⟩ d_D_count_55
  · have hl : lv_has ls 2 [(0, .ref dk), (1, .int 3)] := hl
    refine lv_iload_n C.1 C.2.1 d_D_count_0 rfl (lv_at hl 1 rfl) ?_
    refine lv_tableIn C.1 C.2.1 d_D_count_1 (off := 55) (tgt := 56) (by decide) (by decide) (by decide) (by decide) ?_
    refine lv_aload_n C.1 C.2.1 d_D_count_56 rfl (lv_at hl 0 rfl) ?_
    refine sd_get C h 0 1 (v := .ref (qh 0)) (ci := 2) (Cn := "StockDesk") (T := T_D) (N := 3) rfl rfl (by decide) in_D tb_139 rfl d_D_count_57 ?_
    refine sd_getN C h 6 12 (v := .int (hf_an (sS_u o))) (ci := 1) (Cn := "StockDesk$House") (T := T_H) (N := 16) rfl rfl (by decide) in_H (va_Nw.use (w := Cond.fieldLinkNest "StockDesk" 132 "StockDesk$House" "answered" "I" "StockDesk") rfl (hz.2.2.2.1 _ (by decide +kernel))) rfl d_D_count_60 ?_
    exact sd_iret (v := hf_an (sS_u o)) C hr hlk h ⟨((if_neg (by decide)).trans ((if_neg (by decide)).trans ((if_neg (by decide)).trans (if_pos rfl)))).symm, rfl⟩ d_D_count_63
  · have hl : lv_has ls 2 [(0, .ref dk), (1, .int x)] := hl
    refine lv_iload_n C.1 C.2.1 d_D_count_0 rfl (lv_at hl 1 rfl) ?_
    refine lv_tableOut C.1 C.2.1 d_D_count_1 (tgt := 64) hx (by decide) ?_
    refine lv_iconst (v := -1) C.1 C.2.1 d_D_count_64 (by decide) ?_
    exact sd_iret (v := (-1)) C hr hlk h ⟨((if_neg (sp_n4 hx).1).trans ((if_neg (sp_n4 hx).2.1).trans ((if_neg (sp_n4 hx).2.2.1).trans (if_neg (sp_n4 hx).2.2.2)))).symm, rfl⟩ d_D_count_65

set_option maxHeartbeats 4000000 in
set_option maxRecDepth 100000 in
theorem k_D_init (l : Launch) (D : va_G) (k3 : ClassId × ClassId × ClassId) (sz : Nat) (dk : Nat) : Met l y_D_init (sd_ws y_D_init c_D_init 1 none) ({ frames := 3, cells := 23, slots := 527, locals := 61 }) (sd_Px D (sd_t3 k3) [.ref dk] sz ([(dk, .inr (2, [.null, .null, .null]))])) (sd_Qv D (sd_t3 k3) (va_A ([(dk, .inr (2, [.null, .null, .null]))]) sz) (fun w => ∃ qa qh qs : Nat → Nat, w = sd_D4 k3 dk qa qh qs sS_0 sd_h0)) 23 527 (va_A ([(dk, .inr (2, [.null, .null, .null]))]) sz) := by
  refine sd_mett (cc := c_D_init) (maxL := 1) (ret := none) (by decide) (Nat.le_of_ble_eq_true rfl) (fun p e s m below meth c C hr hlk hnm hz h ls hl => ?_)
  generalize va_A ([(dk, .inr (2, [.null, .null, .null]))]) sz = A at h hz ⊢
  have hl : lv_has ls 1 [(0, .ref dk)] := hl
  generalize hH : s.heap = H at h ⊢
  refine lv_aload_n C.1 C.2.1 d_D_init_0 rfl (lv_at hl 0 rfl) ?_
  refine W.objInit C.1 C.2.1 C.2.2.2.1 (C.2.2.2.2 _ (List.mem_cons_of_mem _ tb_37)) (C.2.2.2.2 _ (List.mem_cons_of_mem _ tb_38)) (C.2.2.2.2 _ (List.mem_cons_of_mem _ tb_39)) rfl (by rw [C.2.2.1]; exact hl.1) rfl d_D_init_1 (Nat.le_of_ble_eq_true rfl) (Nat.le_of_ble_eq_true rfl) ?_
  refine W.eq (g2 := F0 m 4 ls []) rfl ?_
  refine lv_aload_n C.1 C.2.1 d_D_init_4 rfl (lv_at hl 0 rfl) ?_
  refine sd_new (fs := [.null, .null, .null, .null, .int 0]) C h (ci := 0) (Cn := "StockDesk$ActRow") (T := T_A) (N := 5) (ty0 := ty_A) rfl in_A tyok_A tb_40 tb_41 tb_22 (fun j hj => by rcases (show j = 0 ∨ j = 1 ∨ j = 2 ∨ j = 3 ∨ j = 4 by omega) with rfl | rfl | rfl | rfl | rfl <;> rfl) (Nat.le_of_ble_eq_true rfl) (Nat.le_of_ble_eq_true rfl) d_D_init_5 (fun q5 H h => ?_)
  refine W.widen (k := 1) (n := 5) (by decide) (by decide) ?_
  refine lv_dup C.1 C.2.1 d_D_init_8 rfl ?_
  have h := sd_world h (ws' := ([(dk, .inr (2, [.null, .null, .null]))]) ++ ([(q5, .inr (0, [.null, .null, .null, .null, .int 0]))]) ++ ([])) (by simp only [sd_D2, sd_D3, sd_D4, List.append_assoc, List.nil_append, List.append_nil])
  refine sd_callv h (va_runIN (As := []) (rest := [.ref q5, .ref dk]) C (k_A_init l D k3 H.size q5 ) (sd_cwIN 0 C.2.2.2.2 (hz.2.2.2.1 (Cond.methodLinkNest "StockDesk" 9 ⟨"StockDesk$ActRow", "<init>", "()V"⟩ "StockDesk") (by decide +kernel)) tb_43 tb_22 tb_44 rfl rfl rfl (by decide +kernel) ⟨Nat.le_of_ble_eq_true rfl, Nat.le_of_ble_eq_true rfl⟩) (sd_preS h) rfl rfl hl.1 rfl (lv_room (Nat.le_of_ble_eq_true rfl)) d_D_init_9 ⟨Nat.le_of_ble_eq_true rfl, Nat.le_of_ble_eq_true rfl⟩) (fun w1 H locs hq h => ?_)
  refine W.widen (k := 5) (n := 245) (by decide) (by decide) ?_
  obtain ⟨qa, rfl, rfl⟩ := hq
  have h := sd_world h (ws' := [(dk, .inr (2, [.null, .null, .null]))] ++ sd_A k3 qa 0 (fun _ => 0) (fun _ => 0) (fun _ => 0) (fun _ => 0)) (by simp only [sd_D2, sd_D3, sd_D4, List.append_assoc, List.nil_append, List.append_nil])
  refine sd_putF C h hnm 0 0 (v := .ref (qa 0)) (ci := 2) (Cn := "StockDesk") (T := T_D) (N := 3) (ty0 := ty_D) (ws' := [(dk, .inr (2, [.ref (qa 0), .null, .null]))] ++ sd_A k3 qa 0 (fun _ => 0) (fun _ => 0) (fun _ => 0) (fun _ => 0)) rfl rfl (by decide) in_D tyok_D nm_D tb_138 rfl rfl rfl rfl rfl (Nat.le_of_ble_eq_true rfl) rfl d_D_init_12 (fun H locs h => ?_)
  refine lv_aload_n C.1 C.2.1 d_D_init_15 rfl (lv_at hl 0 rfl) ?_
  refine sd_new (fs := [.null, .null, .null, .null, .null, .null, .null, .null, .int 0, .int 0, .int 0, .int 0, .int 0, .int 0, .int 0, .int 0]) C h (ci := 1) (Cn := "StockDesk$House") (T := T_H) (N := 16) (ty0 := ty_H) rfl in_H tyok_H tb_63 tb_64 tb_23 (fun j hj => by rcases (show j = 0 ∨ j = 1 ∨ j = 2 ∨ j = 3 ∨ j = 4 ∨ j = 5 ∨ j = 6 ∨ j = 7 ∨ j = 8 ∨ j = 9 ∨ j = 10 ∨ j = 11 ∨ j = 12 ∨ j = 13 ∨ j = 14 ∨ j = 15 by omega) with rfl | rfl | rfl | rfl | rfl | rfl | rfl | rfl | rfl | rfl | rfl | rfl | rfl | rfl | rfl | rfl <;> rfl) (Nat.le_of_ble_eq_true rfl) (Nat.le_of_ble_eq_true rfl) d_D_init_16 (fun q16 H h => ?_)
  refine W.widen (k := 6) (n := 261) (by decide) (by decide) ?_
  refine lv_dup C.1 C.2.1 d_D_init_19 rfl ?_
  have h := sd_world h (ws' := ([(dk, .inr (2, [.ref (qa 0), .null, .null]))] ++ sd_A k3 qa 0 (fun _ => 0) (fun _ => 0) (fun _ => 0) (fun _ => 0)) ++ ([(q16, .inr (1, [.null, .null, .null, .null, .null, .null, .null, .null, .int 0, .int 0, .int 0, .int 0, .int 0, .int 0, .int 0, .int 0]))]) ++ ([])) (by simp only [sd_D2, sd_D3, sd_D4, List.append_assoc, List.nil_append, List.append_nil])
  refine sd_callv h (va_runI (As := []) (rest := [.ref q16, .ref dk]) C (k_H_init l D k3 H.size q16 ) (sd_cwI 0 C.2.2.2.2 tb_65 tb_66 tb_23 tb_67 rfl rfl rfl (by decide +kernel) ⟨Nat.le_of_ble_eq_true rfl, Nat.le_of_ble_eq_true rfl⟩) (sd_preS h) rfl rfl hl.1 rfl (lv_room (Nat.le_of_ble_eq_true rfl)) d_D_init_20 ⟨Nat.le_of_ble_eq_true rfl, Nat.le_of_ble_eq_true rfl⟩) (fun w1 H locs hq h => ?_)
  refine W.widen (k := 14) (n := 386) (by decide) (by decide) ?_
  obtain ⟨qh, rfl, rfl⟩ := hq
  have h := sd_world h (ws' := [(dk, .inr (2, [.ref (qa 0), .null, .null]))] ++ sd_A k3 qa 0 (fun _ => 0) (fun _ => 0) (fun _ => 0) (fun _ => 0) ++ sd_H k3 qh sd_h0) (by simp only [sd_D2, sd_D3, sd_D4, List.append_assoc, List.nil_append, List.append_nil])
  refine sd_putF C h hnm 0 1 (v := .ref (qh 0)) (ci := 2) (Cn := "StockDesk") (T := T_D) (N := 3) (ty0 := ty_D) (ws' := [(dk, .inr (2, [.ref (qa 0), .ref (qh 0), .null]))] ++ sd_A k3 qa 0 (fun _ => 0) (fun _ => 0) (fun _ => 0) (fun _ => 0) ++ sd_H k3 qh sd_h0) rfl rfl (by decide) in_D tyok_D nm_D tb_139 rfl rfl rfl rfl rfl (Nat.le_of_ble_eq_true rfl) rfl d_D_init_23 (fun H locs h => ?_)
  refine lv_aload_n C.1 C.2.1 d_D_init_26 rfl (lv_at hl 0 rfl) ?_
  refine sd_new (fs := [.null, .null, .null, .null, .null, .null, .null, .null, .int 0, .int 0, .int 0, .int 0, .int 0, .int 0, .int 0, .int 0]) C h (ci := 1) (Cn := "StockDesk$House") (T := T_H) (N := 16) (ty0 := ty_H) rfl in_H tyok_H tb_63 tb_64 tb_23 (fun j hj => by rcases (show j = 0 ∨ j = 1 ∨ j = 2 ∨ j = 3 ∨ j = 4 ∨ j = 5 ∨ j = 6 ∨ j = 7 ∨ j = 8 ∨ j = 9 ∨ j = 10 ∨ j = 11 ∨ j = 12 ∨ j = 13 ∨ j = 14 ∨ j = 15 by omega) with rfl | rfl | rfl | rfl | rfl | rfl | rfl | rfl | rfl | rfl | rfl | rfl | rfl | rfl | rfl | rfl <;> rfl) (Nat.le_of_ble_eq_true rfl) (Nat.le_of_ble_eq_true rfl) d_D_init_27 (fun q27 H h => ?_)
  refine W.widen (k := 15) (n := 402) (by decide) (by decide) ?_
  refine lv_dup C.1 C.2.1 d_D_init_30 rfl ?_
  have h := sd_world h (ws' := ([(dk, .inr (2, [.ref (qa 0), .ref (qh 0), .null]))] ++ sd_A k3 qa 0 (fun _ => 0) (fun _ => 0) (fun _ => 0) (fun _ => 0) ++ sd_H k3 qh sd_h0) ++ ([(q27, .inr (1, [.null, .null, .null, .null, .null, .null, .null, .null, .int 0, .int 0, .int 0, .int 0, .int 0, .int 0, .int 0, .int 0]))]) ++ ([])) (by simp only [sd_D2, sd_D3, sd_D4, List.append_assoc, List.nil_append, List.append_nil])
  refine sd_callv h (va_runI (As := []) (rest := [.ref q27, .ref dk]) C (k_H_init l D k3 H.size q27 ) (sd_cwI 0 C.2.2.2.2 tb_65 tb_66 tb_23 tb_67 rfl rfl rfl (by decide +kernel) ⟨Nat.le_of_ble_eq_true rfl, Nat.le_of_ble_eq_true rfl⟩) (sd_preS h) rfl rfl hl.1 rfl (lv_room (Nat.le_of_ble_eq_true rfl)) d_D_init_31 ⟨Nat.le_of_ble_eq_true rfl, Nat.le_of_ble_eq_true rfl⟩) (fun w1 H locs hq h => ?_)
  refine W.widen (k := 23) (n := 527) (by decide) (by decide) ?_
  obtain ⟨qs, rfl, rfl⟩ := hq
  have h := sd_world h (ws' := [(dk, .inr (2, [.ref (qa 0), .ref (qh 0), .null]))] ++ sd_A k3 qa 0 (fun _ => 0) (fun _ => 0) (fun _ => 0) (fun _ => 0) ++ sd_H k3 qh sd_h0 ++ sd_H k3 qs sd_h0) (by simp only [sd_D2, sd_D3, sd_D4, List.append_assoc, List.nil_append, List.append_nil])
  refine sd_putF C h hnm 0 2 (v := .ref (qs 0)) (ci := 2) (Cn := "StockDesk") (T := T_D) (N := 3) (ty0 := ty_D) (ws' := [(dk, .inr (2, [.ref (qa 0), .ref (qh 0), .ref (qs 0)]))] ++ sd_A k3 qa 0 (fun _ => 0) (fun _ => 0) (fun _ => 0) (fun _ => 0) ++ sd_H k3 qh sd_h0 ++ sd_H k3 qs sd_h0) rfl rfl (by decide) in_D tyok_D nm_D tb_140 rfl rfl rfl rfl rfl (Nat.le_of_ble_eq_true rfl) rfl d_D_init_34 (fun H locs h => ?_)
  exact sd_vret C hr hlk h ⟨qa, qh, qs, rfl⟩ d_D_init_37
