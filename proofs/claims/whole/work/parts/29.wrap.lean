/-! what each call may throw; a row that holds goes on holding -/
theorem E_make (o : sd_S) (x : Int32) : (sp_make o x).1 = "" ∨ (sp_make o x).1 = xIA ∨ (sp_make o x).1 = xUO := by
  unfold sp_make
  repeat' split
  all_goals simp [sp_no, sp_act]
theorem E_drop (o : sd_S) (x : Int32) (y : Int32) : (sp_drop o x y).1 = "" ∨ (sp_drop o x y).1 = xNS ∨ (sp_drop o x y).1 = xIA ∨ (sp_drop o x y).1 = xUO := by
  unfold sp_drop
  repeat' split
  all_goals simp [sp_no, sp_act]
theorem E_serves (o : sd_S) (x : Int32) (y : Int32) : (sp_serves o x y).1 = "" ∨ (sp_serves o x y).1 = xIA ∨ (sp_serves o x y).1 = xUO := by
  unfold sp_serves
  repeat' split
  all_goals simp [sp_no, sp_act]
theorem E_answers (o : sd_S) (x : Int32) (y : Int32) (z : Int32) : (sp_answers o x y z).1 = "" ∨ (sp_answers o x y z).1 = xIA ∨ (sp_answers o x y z).1 = xUO := by
  unfold sp_answers
  repeat' split
  all_goals simp [sp_no, sp_act]
theorem E_fails (o : sd_S) (x : Int32) (y : Int32) : (sp_fails o x y).1 = "" ∨ (sp_fails o x y).1 = xIA ∨ (sp_fails o x y).1 = xUO := by
  unfold sp_fails
  repeat' split
  all_goals simp [sp_no, sp_act]
theorem E_call (o : sd_S) (x : Int32) (y : Int32) (z : Int32) : (sp_call o x y z).1 = "" ∨ (sp_call o x y z).1 = xIA ∨ (sp_call o x y z).1 = xNS ∨ (sp_call o x y z).1 = xUO ∨ (sp_call o x y z).1 = xIS := by
  unfold sp_call
  repeat' split
  all_goals simp [sp_no, sp_act]
theorem E_again (o : sd_S) (x : Int32) (y : Int32) (z : Int32) : (sp_again o x y z).1 = "" ∨ (sp_again o x y z).1 = xIA ∨ (sp_again o x y z).1 = xNS ∨ (sp_again o x y z).1 = xIS := by
  unfold sp_again
  repeat' split
  all_goals simp [sp_no, sp_act]
theorem E_collect (o : sd_S) (x : Int32) : (sp_collect o x).1 = "" ∨ (sp_collect o x).1 = xIA ∨ (sp_collect o x).1 = xUO := by
  unfold sp_collect
  repeat' split
  all_goals simp [sp_no, sp_act]
theorem E_back (o : sd_S)  : (sp_back o).1 = "" ∨ (sp_back o).1 = xIS := by
  unfold sp_back
  repeat' split
  all_goals simp [sp_no, sp_act]
theorem E_told (o : sd_S) (x : Int32) : (sp_told o x).1 = "" ∨ (sp_told o x).1 = xIA := by
  unfold sp_told
  repeat' split
  all_goals simp [sp_no, sp_act]
theorem E_worth (o : sd_S) (x : Int32) : (sp_worth o x).1 = "" ∨ (sp_worth o x).1 = xIA := by
  unfold sp_worth
  repeat' split
  all_goals simp [sp_no, sp_act]
theorem E_uses (o : sd_S) (x : Int32) (y : Int32) : (sp_uses o x y).1 = "" ∨ (sp_uses o x y).1 = xNS ∨ (sp_uses o x y).1 = xIA := by
  unfold sp_uses
  repeat' split
  all_goals simp [sp_no, sp_act]
theorem E_numbers (o : sd_S) (x : Int32) (y : Int32) : (sp_numbers o x y).1 = "" ∨ (sp_numbers o x y).1 = xIA := by
  unfold sp_numbers
  repeat' split
  all_goals simp [sp_no, sp_act]
theorem ok_make {o : sd_S} (x : Int32) (ho : sS_ok o) : sS_ok (sp_make o x).2.2 := by
  unfold sp_make
  by_cases h1 : sp_bad x 5
  · rw [if_pos h1]; exact ho
  rw [if_neg h1]
  by_cases h2 : ¬ hf_md (sS_u o) x.toNatClampNeg < 9
  · rw [if_pos h2]; exact ho
  rw [if_neg h2]
  by_cases h3 : sp_full o
  · rw [if_pos h3]; exact ho
  rw [if_neg h3]
  obtain ⟨k, hk, rfl⟩ := sp_in 5 rfl (by decide) h1
  obtain ⟨n, hn9, hm⟩ := (sS_inv ho).1 k hk
  have h2 := Classical.not_not.mp h2
  rw [nI_clamp (show k < 2 ^ 31 by omega), hm] at h2
  exact sS_ok_put ho (Classical.not_not.mp h3) (Or.inl ⟨rfl, k, n, hk, (nI_ltI (a := n) (b := 9) (by omega) (by decide)).mp h2, rfl, hm⟩)
theorem ok_drop {o : sd_S} (x y : Int32) (ho : sS_ok o) : sS_ok (sp_drop o x y).2.2 := by
  unfold sp_drop
  by_cases h1 : sp_bad x 5
  · rw [if_pos h1]; exact ho
  rw [if_neg h1]
  by_cases h2 : ¬ hd_has (sS_u o) x.toNatClampNeg y
  · rw [if_pos h2]; exact ho
  rw [if_neg h2]
  by_cases h3 : sp_full o
  · rw [if_pos h3]; exact ho
  rw [if_neg h3]
  obtain ⟨k, hk, rfl⟩ := sp_in 5 rfl (by decide) h1
  obtain ⟨j, hj1, hj9, rfl⟩ := sp_hasj (Classical.not_not.mp h2)
  exact sS_ok_put ho (Classical.not_not.mp h3) (Or.inr (Or.inl ⟨rfl, k, j, hk, hj1, hj9, rfl, rfl⟩))
theorem ok_serves {o : sd_S} (x y : Int32) (ho : sS_ok o) : sS_ok (sp_serves o x y).2.2 := by
  unfold sp_serves
  by_cases h1 : sp_bad x 6
  · rw [if_pos h1]; exact ho
  rw [if_neg h1]
  by_cases h2 : sp_bad y 5
  · rw [if_pos h2]; exact ho
  rw [if_neg h2]
  by_cases h3 : sp_full o
  · rw [if_pos h3]; exact ho
  rw [if_neg h3]
  obtain ⟨pt, hp, rfl⟩ := sp_in 6 rfl (by decide) h1
  obtain ⟨k, hk, rfl⟩ := sp_in 5 rfl (by decide) h2
  exact sS_ok_put ho (Classical.not_not.mp h3) (Or.inr (Or.inr (Or.inl ⟨rfl, pt, k, hp, hk, rfl, rfl⟩)))
theorem ok_answers {o : sd_S} (x y z : Int32) (ho : sS_ok o) : sS_ok (sp_answers o x y z).2.2 := by
  unfold sp_answers
  by_cases h1 : sp_bad x 6
  · rw [if_pos h1]; exact ho
  rw [if_neg h1]
  by_cases h2 : sp_amt y
  · rw [if_pos h2]; exact ho
  rw [if_neg h2]
  by_cases h4 : sp_amt z
  · rw [if_pos h4]; exact ho
  rw [if_neg h4]
  by_cases h3 : sp_full o
  · rw [if_pos h3]; exact ho
  rw [if_neg h3]
  obtain ⟨pt, hp, rfl⟩ := sp_in 6 rfl (by decide) h1
  exact sS_ok_put ho (Classical.not_not.mp h3) (Or.inr (Or.inr (Or.inr (Or.inl ⟨rfl, pt, hp, rfl⟩))))
theorem ok_fails {o : sd_S} (x y : Int32) (ho : sS_ok o) : sS_ok (sp_fails o x y).2.2 := by
  unfold sp_fails
  by_cases h1 : sp_bad x 6
  · rw [if_pos h1]; exact ho
  rw [if_neg h1]
  by_cases h2 : sp_bad y 4
  · rw [if_pos h2]; exact ho
  rw [if_neg h2]
  by_cases h3 : sp_full o
  · rw [if_pos h3]; exact ho
  rw [if_neg h3]
  obtain ⟨pt, hp, rfl⟩ := sp_in 6 rfl (by decide) h1
  exact sS_ok_put ho (Classical.not_not.mp h3) (Or.inr (Or.inr (Or.inr (Or.inr (Or.inl ⟨rfl, pt, hp, rfl, fun z => h2 (Or.inl z)⟩)))))
theorem ok_call {o : sd_S} (x y z : Int32) (ho : sS_ok o) : sS_ok (sp_call o x y z).2.2 := by
  unfold sp_call
  by_cases h1 : sp_bad x 6
  · rw [if_pos h1]; exact ho
  rw [if_neg h1]
  by_cases h2 : sp_amt z
  · rw [if_pos h2]; exact ho
  rw [if_neg h2]
  by_cases h4 : ¬ hd_has (sS_u o) (hf_pk (sS_u o) x.toNatClampNeg).toNatClampNeg y
  · rw [if_pos h4]; exact ho
  rw [if_neg h4]
  by_cases h3 : sp_full o
  · rw [if_pos h3]; exact ho
  rw [if_neg h3]
  obtain ⟨pt, hp, rfl⟩ := sp_in 6 rfl (by decide) h1
  obtain ⟨k, hk, hkp⟩ := (sS_inv ho).2.1 pt hp
  have h4 := Classical.not_not.mp h4
  rw [nI_clamp (show pt < 2 ^ 31 by omega), hkp, nI_clamp (show k < 2 ^ 31 by omega)] at h4
  obtain ⟨j, hj1, hj9, rfl⟩ := sp_hasj h4
  have hth := h4.2.2
  rw [nI_clamp (show j < 2 ^ 31 by omega)] at hth
  have hput : sS_ok (sS_put o 5 (nI pt) (nI j) z) := sS_ok_put ho (Classical.not_not.mp h3) (Or.inr (Or.inr (Or.inr (Or.inr (Or.inr (Or.inl ⟨rfl, pt, k, j, hp, hk, hj1, hj9, rfl, rfl, hkp, hth⟩))))))
  split
  · exact hput
  · exact hput
theorem ok_again {o : sd_S} (x y z : Int32) (ho : sS_ok o) : sS_ok (sp_again o x y z).2.2 := by
  unfold sp_again
  repeat' split
  all_goals exact ho
theorem ok_collect {o : sd_S} (x : Int32) (ho : sS_ok o) : sS_ok (sp_collect o x).2.2 := by
  unfold sp_collect
  by_cases h1 : sp_bad x 256
  · rw [if_pos h1]; exact ho
  rw [if_neg h1]
  by_cases h3 : sp_full o
  · rw [if_pos h3]; exact ho
  rw [if_neg h3]
  exact sS_ok_put ho (Classical.not_not.mp h3) (Or.inr (Or.inr (Or.inr (Or.inr (Or.inr (Or.inr rfl))))))
theorem ok_back {o : sd_S} (ho : sS_ok o) : sS_ok (sp_back o).2.2 := by
  unfold sp_back
  split
  · exact ho
  · exact sS_ok_pop ho
theorem ok_told {o : sd_S} (x : Int32) (ho : sS_ok o) : sS_ok (sp_told o x).2.2 := by
  unfold sp_told
  repeat' split
  all_goals exact ho
theorem ok_worth {o : sd_S} (x : Int32) (ho : sS_ok o) : sS_ok (sp_worth o x).2.2 := by
  unfold sp_worth
  repeat' split
  all_goals exact ho
theorem ok_uses {o : sd_S} (x y : Int32) (ho : sS_ok o) : sS_ok (sp_uses o x y).2.2 := by
  unfold sp_uses
  repeat' split
  all_goals exact ho
theorem ok_numbers {o : sd_S} (x y : Int32) (ho : sS_ok o) : sS_ok (sp_numbers o x y).2.2 := by
  unfold sp_numbers
  repeat' split
  all_goals exact ho

set_option maxHeartbeats 4000000 in
set_option maxRecDepth 100000 in
theorem k_L_make (l : Launch) (hst : l.stackTraces = false) (D : va_G) (k3 : ClassId × ClassId × ClassId) (sz : Nat) (dk : Nat) (qa : Nat → Nat) (qh : Nat → Nat) (qs : Nat → Nat) (o : sd_S) (v : sd_HS) (ox : Nat) (fo : Nat → Int64) (x : Int32) (ho : sS_ok o) : Met l y_L_make (Cond.codeWith y_L_make c_L_make 4 (some FieldType.int) [(0, 9, 12, 13), (0, 9, 15, 15)] :: sd_all) ({ frames := 9, cells := 1, slots := 6, locals := 144 }) (sd_Px D (sd_t3 k3) [.ref dk, .int x, .ref ox] sz (sd_d1 dk qa qh qs ++ sd_dA k3 qa o ++ sd_H k3 qh (sS_u o) ++ sd_H k3 qs v ++ [(ox, .inl (k3.2.2, 1, .inr (.inl fo)))])) (sd_Qi D (sd_t3 k3) (va_A (sd_d1 dk qa qh qs ++ sd_dA k3 qa o ++ sd_H k3 qh (sS_u o) ++ sd_H k3 qs v ++ [(ox, .inl (k3.2.2, 1, .inr (.inl fo)))]) sz) (fun r w => r = sp_cd [xIA, xUO] (sp_make o x).1 ∧ ∃ (v9 : sd_HS) (fo9 : Nat → Int64), w = sd_D4 k3 dk qa qh qs (sp_make o x).2.2 v9 ++ [(ox, .inl (k3.2.2, 1, .inr (.inl fo9)))] ∧ ((sp_make o x).1 = "" → fo9 0 = (sp_make o x).2.1.toInt32.toInt64))) 1 6 (va_A (sd_d1 dk qa qh qs ++ sd_dA k3 qa o ++ sd_H k3 qh (sS_u o) ++ sd_H k3 qs v ++ [(ox, .inl (k3.2.2, 1, .inr (.inl fo)))]) sz) := by
  refine sd_metw (cc := c_L_make) (maxL := 4) (ret := some .int) (by decide) (Nat.le_of_ble_eq_true rfl) (fun p e s m below meth c C hr hlk htb hz h ls hl => ?_)
  generalize va_A (sd_d1 dk qa qh qs ++ sd_dA k3 qa o ++ sd_H k3 qh (sS_u o) ++ sd_H k3 qs v ++ [(ox, .inl (k3.2.2, 1, .inr (.inl fo)))]) sz = A at h hz ⊢
  have hl : lv_has ls 4 [(0, .ref dk), (1, .int x), (2, .ref ox)] := hl
  generalize hH : s.heap = H at h ⊢
  refine lv_aload_n C.1 C.2.1 d_L_make_0 rfl (lv_at hl 2 rfl) ?_
  refine lv_iconst (v := 0) C.1 C.2.1 d_L_make_1 (by decide) ?_
  refine lv_aload_n C.1 C.2.1 d_L_make_2 rfl (lv_at hl 0 rfl) ?_
  refine lv_iload_n C.1 C.2.1 d_L_make_3 rfl (lv_at hl 1 rfl) ?_
  have h := sd_world h (ws' := ([]) ++ (sd_d1 dk qa qh qs ++ sd_dA k3 qa o ++ sd_H k3 qh (sS_u o)) ++ (sd_H k3 qs v ++ [(ox, .inl (k3.2.2, 1, .inr (.inl fo)))])) (by simp only [sd_D2, sd_D3, sd_D4, List.append_assoc, List.nil_append, List.append_nil])
  refine sd_xcalli h (vx_runV (As := [.int x]) (rest := [.int 0, .ref ox]) C (k_D_make l hst D k3 H.size dk qa qh qs o x ho) (sd_cwV 1 C.2.2.2.2 tb_181 tb_182 tb_183 tb_21 tb_184 rfl rfl (by decide +kernel) ⟨Nat.le_of_ble_eq_true rfl, Nat.le_of_ble_eq_true rfl⟩) (sd_preVx h hz (q0 := 0) (T := T_D) (N := 3) rfl rfl) rfl rfl hl.1 rfl (lv_room (Nat.le_of_ble_eq_true rfl)) d_L_make_4 ⟨Nat.le_of_ble_eq_true rfl, Nat.le_of_ble_eq_true rfl⟩) (fun E ce q9 w1 H locs hq h hce hcv hcl => ?_) (fun r w1 H locs hq h => ?_)
  · obtain ⟨hE, hne, rfl⟩ := hq
    have h := sd_world h (ws' := sd_d1 dk qa qh qs ++ sd_dA k3 qa ((sp_make o x).2.2) ++ sd_H k3 qh (sS_u (sp_make o x).2.2) ++ sd_H k3 qs v ++ [(ox, .inl (k3.2.2, 1, .inr (.inl fo)))]) (by simp only [sd_D2, sd_D3, sd_D4, List.append_assoc, List.nil_append, List.append_nil])
    rcases E_make o x with e | e | e
    · exact absurd (hE.symm.trans e) hne
    · have e : E = xIA := hE.symm.trans e
      subst e
      refine vx_catch (own := "StockDeskLaw") (name := xIA) (E := xIA) C.2.2.2.1 [] (⟨0, 9, 12, 13⟩ : ExceptionTableEntry) [(⟨0, 9, 15, 15⟩ : ExceptionTableEntry)] (htb.trans rfl) (fun _ z => absurd z List.not_mem_nil) (by decide) (by decide) (C.2.2.2.2 _ (List.mem_cons_of_mem _ tb_179)) (va_Nw.use (w := Cond.castable xIA xIA) rfl (hz.2.2.2.1 _ (by decide +kernel))) hce hcv hcl ?_
      refine W.widen (k := 1) (n := 6) (by decide) (by decide) ?_
      refine lv_astore_n (lv' := [(3, .ref q9), (0, .ref dk), (1, .int x), (2, .ref ox)]) C.1 C.2.1 d_L_make_12 rfl hl (by decide) rfl (fun ls hl => ?_)
      refine lv_iconst (v := 1) C.1 C.2.1 d_L_make_13 (by decide) ?_
      exact sd_iret (v := 1) C hr hlk h ⟨(show (1 : Int32) = sp_cd [xIA, xUO] xIA by decide +kernel).trans (congrArg (sp_cd [xIA, xUO]) hE.symm), v, fo, rfl, fun z => absurd (hE.symm.trans z) (by decide)⟩ d_L_make_14
    · have e : E = xUO := hE.symm.trans e
      subst e
      refine vx_catch (own := "StockDeskLaw") (name := xUO) (E := xUO) C.2.2.2.1 [(⟨0, 9, 12, 13⟩ : ExceptionTableEntry)] (⟨0, 9, 15, 15⟩ : ExceptionTableEntry) [] (htb.trans rfl) (List.forall_mem_cons.mpr ⟨Or.inr ⟨by decide, xIA, (C.2.2.2.2 _ (List.mem_cons_of_mem _ tb_179)), hz.2.2.2.2 (xUO, xIA) (by decide +kernel)⟩, (fun _ z => absurd z List.not_mem_nil)⟩) (by decide) (by decide) (C.2.2.2.2 _ (List.mem_cons_of_mem _ tb_180)) (va_Nw.use (w := Cond.castable xUO xUO) rfl (hz.2.2.2.1 _ (by decide +kernel))) hce hcv hcl ?_
      refine W.widen (k := 1) (n := 6) (by decide) (by decide) ?_
      refine lv_astore_n (lv' := [(3, .ref q9), (0, .ref dk), (1, .int x), (2, .ref ox)]) C.1 C.2.1 d_L_make_15 rfl hl (by decide) rfl (fun ls hl => ?_)
      refine lv_iconst (v := 2) C.1 C.2.1 d_L_make_16 (by decide) ?_
      exact sd_iret (v := 2) C hr hlk h ⟨(show (2 : Int32) = sp_cd [xIA, xUO] xUO by decide +kernel).trans (congrArg (sp_cd [xIA, xUO]) hE.symm), v, fo, rfl, fun z => absurd (hE.symm.trans z) (by decide)⟩ d_L_make_17
  refine W.widen (k := 1) (n := 6) (by decide) (by decide) ?_
  obtain ⟨hS, rfl, rfl⟩ := hq
  have h := sd_world h (ws' := sd_d1 dk qa qh qs ++ sd_dA k3 qa ((sp_make o x).2.2) ++ sd_H k3 qh (sS_u (sp_make o x).2.2) ++ sd_H k3 qs v ++ [(ox, .inl (k3.2.2, 1, .inr (.inl fo)))]) (by simp only [sd_D2, sd_D3, sd_D4, List.append_assoc, List.nil_append, List.append_nil])
  refine lv_i2l (v := ((sp_make o x).2.1.toInt32).toInt64) C.1 C.2.1 d_L_make_7 rfl ?_
  refine sd_last C h 24 2 (i := 0) (ws' := sd_d1 dk qa qh qs ++ sd_dA k3 qa ((sp_make o x).2.2) ++ sd_H k3 qh (sS_u (sp_make o x).2.2) ++ sd_H k3 qs v ++ [(ox, .inl (k3.2.2, 1, .inr (.inl (vp_updL fo 0 (((sp_make o x).2.1.toInt32).toInt64)))))]) rfl rfl (by decide) (by decide) rfl d_L_make_8 (fun H locs h => ?_)
  refine lv_goto (tgt := 18) C.1 C.2.1 d_L_make_9 (by decide) ?_
  refine lv_iconst (v := 0) C.1 C.2.1 d_L_make_18 (by decide) ?_
  exact sd_iret (v := 0) C hr hlk h ⟨(show (0 : Int32) = sp_cd [xIA, xUO] "" by decide +kernel).trans (congrArg (sp_cd [xIA, xUO]) hS.symm), v, (vp_updL fo 0 (((sp_make o x).2.1.toInt32).toInt64)), rfl, fun _ => rfl⟩ d_L_make_19

set_option maxHeartbeats 4000000 in
set_option maxRecDepth 100000 in
theorem k_L_drop (l : Launch) (hst : l.stackTraces = false) (D : va_G) (k3 : ClassId × ClassId × ClassId) (sz : Nat) (dk : Nat) (qa : Nat → Nat) (qh : Nat → Nat) (qs : Nat → Nat) (o : sd_S) (v : sd_HS) (ox : Nat) (fo : Nat → Int64) (x : Int32) (y : Int32) (ho : sS_ok o) : Met l y_L_drop (Cond.codeWith y_L_drop c_L_drop 5 (some FieldType.int) [(0, 10, 13, 21), (0, 10, 17, 13), (0, 10, 21, 15)] :: sd_all) ({ frames := 9, cells := 1, slots := 6, locals := 145 }) (sd_Px D (sd_t3 k3) [.ref dk, .int x, .int y, .ref ox] sz (sd_d1 dk qa qh qs ++ sd_dA k3 qa o ++ sd_H k3 qh (sS_u o) ++ sd_H k3 qs v ++ [(ox, .inl (k3.2.2, 1, .inr (.inl fo)))])) (sd_Qi D (sd_t3 k3) (va_A (sd_d1 dk qa qh qs ++ sd_dA k3 qa o ++ sd_H k3 qh (sS_u o) ++ sd_H k3 qs v ++ [(ox, .inl (k3.2.2, 1, .inr (.inl fo)))]) sz) (fun r w => r = sp_cd [xNS, xIA, xUO] (sp_drop o x y).1 ∧ ∃ (v9 : sd_HS) (fo9 : Nat → Int64), w = sd_D4 k3 dk qa qh qs (sp_drop o x y).2.2 v9 ++ [(ox, .inl (k3.2.2, 1, .inr (.inl fo9)))] ∧ ((sp_drop o x y).1 = "" → fo9 0 = (sp_drop o x y).2.1.toInt32.toInt64))) 1 6 (va_A (sd_d1 dk qa qh qs ++ sd_dA k3 qa o ++ sd_H k3 qh (sS_u o) ++ sd_H k3 qs v ++ [(ox, .inl (k3.2.2, 1, .inr (.inl fo)))]) sz) := by
  refine sd_metw (cc := c_L_drop) (maxL := 5) (ret := some .int) (by decide) (Nat.le_of_ble_eq_true rfl) (fun p e s m below meth c C hr hlk htb hz h ls hl => ?_)
  generalize va_A (sd_d1 dk qa qh qs ++ sd_dA k3 qa o ++ sd_H k3 qh (sS_u o) ++ sd_H k3 qs v ++ [(ox, .inl (k3.2.2, 1, .inr (.inl fo)))]) sz = A at h hz ⊢
  have hl : lv_has ls 5 [(0, .ref dk), (1, .int x), (2, .int y), (3, .ref ox)] := hl
  generalize hH : s.heap = H at h ⊢
  refine lv_aload_n C.1 C.2.1 d_L_drop_0 rfl (lv_at hl 3 rfl) ?_
  refine lv_iconst (v := 0) C.1 C.2.1 d_L_drop_1 (by decide) ?_
  refine lv_aload_n C.1 C.2.1 d_L_drop_2 rfl (lv_at hl 0 rfl) ?_
  refine lv_iload_n C.1 C.2.1 d_L_drop_3 rfl (lv_at hl 1 rfl) ?_
  refine lv_iload_n C.1 C.2.1 d_L_drop_4 rfl (lv_at hl 2 rfl) ?_
  have h := sd_world h (ws' := ([]) ++ (sd_d1 dk qa qh qs ++ sd_dA k3 qa o ++ sd_H k3 qh (sS_u o)) ++ (sd_H k3 qs v ++ [(ox, .inl (k3.2.2, 1, .inr (.inl fo)))])) (by simp only [sd_D2, sd_D3, sd_D4, List.append_assoc, List.nil_append, List.append_nil])
  refine sd_xcalli h (vx_runV (As := [.int x, .int y]) (rest := [.int 0, .ref ox]) C (k_D_drop l hst D k3 H.size dk qa qh qs o x y ho) (sd_cwV 2 C.2.2.2.2 tb_342 tb_343 tb_344 tb_21 tb_345 rfl rfl (by decide +kernel) ⟨Nat.le_of_ble_eq_true rfl, Nat.le_of_ble_eq_true rfl⟩) (sd_preVx h hz (q0 := 0) (T := T_D) (N := 3) rfl rfl) rfl rfl hl.1 rfl (lv_room (Nat.le_of_ble_eq_true rfl)) d_L_drop_5 ⟨Nat.le_of_ble_eq_true rfl, Nat.le_of_ble_eq_true rfl⟩) (fun E ce q9 w1 H locs hq h hce hcv hcl => ?_) (fun r w1 H locs hq h => ?_)
  · obtain ⟨hE, hne, rfl⟩ := hq
    have h := sd_world h (ws' := sd_d1 dk qa qh qs ++ sd_dA k3 qa ((sp_drop o x y).2.2) ++ sd_H k3 qh (sS_u (sp_drop o x y).2.2) ++ sd_H k3 qs v ++ [(ox, .inl (k3.2.2, 1, .inr (.inl fo)))]) (by simp only [sd_D2, sd_D3, sd_D4, List.append_assoc, List.nil_append, List.append_nil])
    rcases E_drop o x y with e | e | e | e
    · exact absurd (hE.symm.trans e) hne
    · have e : E = xNS := hE.symm.trans e
      subst e
      refine vx_catch (own := "StockDeskLaw") (name := xNS) (E := xNS) C.2.2.2.1 [] (⟨0, 10, 13, 21⟩ : ExceptionTableEntry) [(⟨0, 10, 17, 13⟩ : ExceptionTableEntry), (⟨0, 10, 21, 15⟩ : ExceptionTableEntry)] (htb.trans rfl) (fun _ z => absurd z List.not_mem_nil) (by decide) (by decide) (C.2.2.2.2 _ (List.mem_cons_of_mem _ tb_341)) (va_Nw.use (w := Cond.castable xNS xNS) rfl (hz.2.2.2.1 _ (by decide +kernel))) hce hcv hcl ?_
      refine W.widen (k := 1) (n := 6) (by decide) (by decide) ?_
      refine lv_astore (lv' := [(4, .ref q9), (0, .ref dk), (1, .int x), (2, .int y), (3, .ref ox)]) C.1 C.2.1 d_L_drop_13 hl (by decide) rfl (fun ls hl => ?_)
      refine lv_iconst (v := 1) C.1 C.2.1 d_L_drop_15 (by decide) ?_
      exact sd_iret (v := 1) C hr hlk h ⟨(show (1 : Int32) = sp_cd [xNS, xIA, xUO] xNS by decide +kernel).trans (congrArg (sp_cd [xNS, xIA, xUO]) hE.symm), v, fo, rfl, fun z => absurd (hE.symm.trans z) (by decide)⟩ d_L_drop_16
    · have e : E = xIA := hE.symm.trans e
      subst e
      refine vx_catch (own := "StockDeskLaw") (name := xIA) (E := xIA) C.2.2.2.1 [(⟨0, 10, 13, 21⟩ : ExceptionTableEntry)] (⟨0, 10, 17, 13⟩ : ExceptionTableEntry) [(⟨0, 10, 21, 15⟩ : ExceptionTableEntry)] (htb.trans rfl) (List.forall_mem_cons.mpr ⟨Or.inr ⟨by decide, xNS, (C.2.2.2.2 _ (List.mem_cons_of_mem _ tb_341)), hz.2.2.2.2 (xIA, xNS) (by decide +kernel)⟩, (fun _ z => absurd z List.not_mem_nil)⟩) (by decide) (by decide) (C.2.2.2.2 _ (List.mem_cons_of_mem _ tb_179)) (va_Nw.use (w := Cond.castable xIA xIA) rfl (hz.2.2.2.1 _ (by decide +kernel))) hce hcv hcl ?_
      refine W.widen (k := 1) (n := 6) (by decide) (by decide) ?_
      refine lv_astore (lv' := [(4, .ref q9), (0, .ref dk), (1, .int x), (2, .int y), (3, .ref ox)]) C.1 C.2.1 d_L_drop_17 hl (by decide) rfl (fun ls hl => ?_)
      refine lv_iconst (v := 2) C.1 C.2.1 d_L_drop_19 (by decide) ?_
      exact sd_iret (v := 2) C hr hlk h ⟨(show (2 : Int32) = sp_cd [xNS, xIA, xUO] xIA by decide +kernel).trans (congrArg (sp_cd [xNS, xIA, xUO]) hE.symm), v, fo, rfl, fun z => absurd (hE.symm.trans z) (by decide)⟩ d_L_drop_20
    · have e : E = xUO := hE.symm.trans e
      subst e
      refine vx_catch (own := "StockDeskLaw") (name := xUO) (E := xUO) C.2.2.2.1 [(⟨0, 10, 13, 21⟩ : ExceptionTableEntry), (⟨0, 10, 17, 13⟩ : ExceptionTableEntry)] (⟨0, 10, 21, 15⟩ : ExceptionTableEntry) [] (htb.trans rfl) (List.forall_mem_cons.mpr ⟨Or.inr ⟨by decide, xNS, (C.2.2.2.2 _ (List.mem_cons_of_mem _ tb_341)), hz.2.2.2.2 (xUO, xNS) (by decide +kernel)⟩, (List.forall_mem_cons.mpr ⟨Or.inr ⟨by decide, xIA, (C.2.2.2.2 _ (List.mem_cons_of_mem _ tb_179)), hz.2.2.2.2 (xUO, xIA) (by decide +kernel)⟩, (fun _ z => absurd z List.not_mem_nil)⟩)⟩) (by decide) (by decide) (C.2.2.2.2 _ (List.mem_cons_of_mem _ tb_180)) (va_Nw.use (w := Cond.castable xUO xUO) rfl (hz.2.2.2.1 _ (by decide +kernel))) hce hcv hcl ?_
      refine W.widen (k := 1) (n := 6) (by decide) (by decide) ?_
      refine lv_astore (lv' := [(4, .ref q9), (0, .ref dk), (1, .int x), (2, .int y), (3, .ref ox)]) C.1 C.2.1 d_L_drop_21 hl (by decide) rfl (fun ls hl => ?_)
      refine lv_iconst (v := 3) C.1 C.2.1 d_L_drop_23 (by decide) ?_
      exact sd_iret (v := 3) C hr hlk h ⟨(show (3 : Int32) = sp_cd [xNS, xIA, xUO] xUO by decide +kernel).trans (congrArg (sp_cd [xNS, xIA, xUO]) hE.symm), v, fo, rfl, fun z => absurd (hE.symm.trans z) (by decide)⟩ d_L_drop_24
  refine W.widen (k := 1) (n := 6) (by decide) (by decide) ?_
  obtain ⟨hS, rfl, rfl⟩ := hq
  have h := sd_world h (ws' := sd_d1 dk qa qh qs ++ sd_dA k3 qa ((sp_drop o x y).2.2) ++ sd_H k3 qh (sS_u (sp_drop o x y).2.2) ++ sd_H k3 qs v ++ [(ox, .inl (k3.2.2, 1, .inr (.inl fo)))]) (by simp only [sd_D2, sd_D3, sd_D4, List.append_assoc, List.nil_append, List.append_nil])
  refine lv_i2l (v := ((sp_drop o x y).2.1.toInt32).toInt64) C.1 C.2.1 d_L_drop_8 rfl ?_
  refine sd_last C h 24 2 (i := 0) (ws' := sd_d1 dk qa qh qs ++ sd_dA k3 qa ((sp_drop o x y).2.2) ++ sd_H k3 qh (sS_u (sp_drop o x y).2.2) ++ sd_H k3 qs v ++ [(ox, .inl (k3.2.2, 1, .inr (.inl (vp_updL fo 0 (((sp_drop o x y).2.1.toInt32).toInt64)))))]) rfl rfl (by decide) (by decide) rfl d_L_drop_9 (fun H locs h => ?_)
  refine lv_goto (tgt := 25) C.1 C.2.1 d_L_drop_10 (by decide) ?_
  refine lv_iconst (v := 0) C.1 C.2.1 d_L_drop_25 (by decide) ?_
  exact sd_iret (v := 0) C hr hlk h ⟨(show (0 : Int32) = sp_cd [xNS, xIA, xUO] "" by decide +kernel).trans (congrArg (sp_cd [xNS, xIA, xUO]) hS.symm), v, (vp_updL fo 0 (((sp_drop o x y).2.1.toInt32).toInt64)), rfl, fun _ => rfl⟩ d_L_drop_26

set_option maxHeartbeats 4000000 in
set_option maxRecDepth 100000 in
theorem k_L_serves (l : Launch) (hst : l.stackTraces = false) (D : va_G) (k3 : ClassId × ClassId × ClassId) (sz : Nat) (dk : Nat) (qa : Nat → Nat) (qh : Nat → Nat) (qs : Nat → Nat) (o : sd_S) (v : sd_HS) (x : Int32) (y : Int32) (ho : sS_ok o) : Met l y_L_serves (Cond.codeWith y_L_serves c_L_serves 4 (some FieldType.int) [(0, 6, 9, 13), (0, 6, 12, 15)] :: sd_all) ({ frames := 9, cells := 1, slots := 6, locals := 145 }) (sd_Px D (sd_t3 k3) [.ref dk, .int x, .int y] sz (sd_d1 dk qa qh qs ++ sd_dA k3 qa o ++ sd_H k3 qh (sS_u o) ++ sd_H k3 qs v)) (sd_Qi D (sd_t3 k3) (va_A (sd_d1 dk qa qh qs ++ sd_dA k3 qa o ++ sd_H k3 qh (sS_u o) ++ sd_H k3 qs v) sz) (fun r w => r = sp_cd [xIA, xUO] (sp_serves o x y).1 ∧ ∃ (v9 : sd_HS), w = sd_D4 k3 dk qa qh qs (sp_serves o x y).2.2 v9)) 1 6 (va_A (sd_d1 dk qa qh qs ++ sd_dA k3 qa o ++ sd_H k3 qh (sS_u o) ++ sd_H k3 qs v) sz) := by
  refine sd_metw (cc := c_L_serves) (maxL := 4) (ret := some .int) (by decide) (Nat.le_of_ble_eq_true rfl) (fun p e s m below meth c C hr hlk htb hz h ls hl => ?_)
  generalize va_A (sd_d1 dk qa qh qs ++ sd_dA k3 qa o ++ sd_H k3 qh (sS_u o) ++ sd_H k3 qs v) sz = A at h hz ⊢
  have hl : lv_has ls 4 [(0, .ref dk), (1, .int x), (2, .int y)] := hl
  generalize hH : s.heap = H at h ⊢
  refine lv_aload_n C.1 C.2.1 d_L_serves_0 rfl (lv_at hl 0 rfl) ?_
  refine lv_iload_n C.1 C.2.1 d_L_serves_1 rfl (lv_at hl 1 rfl) ?_
  refine lv_iload_n C.1 C.2.1 d_L_serves_2 rfl (lv_at hl 2 rfl) ?_
  have h := sd_world h (ws' := ([]) ++ (sd_d1 dk qa qh qs ++ sd_dA k3 qa o ++ sd_H k3 qh (sS_u o)) ++ (sd_H k3 qs v)) (by simp only [sd_D2, sd_D3, sd_D4, List.append_assoc, List.nil_append, List.append_nil])
  refine sd_xcallv h (vx_runV (As := [.int x, .int y]) (rest := []) C (k_D_serves l hst D k3 H.size dk qa qh qs o x y ho) (sd_cwV 2 C.2.2.2.2 tb_372 tb_373 tb_374 tb_21 tb_375 rfl rfl (by decide +kernel) ⟨Nat.le_of_ble_eq_true rfl, Nat.le_of_ble_eq_true rfl⟩) (sd_preVx h hz (q0 := 0) (T := T_D) (N := 3) rfl rfl) rfl rfl hl.1 rfl (lv_room (Nat.le_of_ble_eq_true rfl)) d_L_serves_3 ⟨Nat.le_of_ble_eq_true rfl, Nat.le_of_ble_eq_true rfl⟩) (fun E ce q9 w1 H locs hq h hce hcv hcl => ?_) (fun w1 H locs hq h => ?_)
  · obtain ⟨hE, hne, rfl⟩ := hq
    have h := sd_world h (ws' := sd_d1 dk qa qh qs ++ sd_dA k3 qa ((sp_serves o x y).2.2) ++ sd_H k3 qh (sS_u (sp_serves o x y).2.2) ++ sd_H k3 qs v) (by simp only [sd_D2, sd_D3, sd_D4, List.append_assoc, List.nil_append, List.append_nil])
    rcases E_serves o x y with e | e | e
    · exact absurd (hE.symm.trans e) hne
    · have e : E = xIA := hE.symm.trans e
      subst e
      refine vx_catch (own := "StockDeskLaw") (name := xIA) (E := xIA) C.2.2.2.1 [] (⟨0, 6, 9, 13⟩ : ExceptionTableEntry) [(⟨0, 6, 12, 15⟩ : ExceptionTableEntry)] (htb.trans rfl) (fun _ z => absurd z List.not_mem_nil) (by decide) (by decide) (C.2.2.2.2 _ (List.mem_cons_of_mem _ tb_179)) (va_Nw.use (w := Cond.castable xIA xIA) rfl (hz.2.2.2.1 _ (by decide +kernel))) hce hcv hcl ?_
      refine W.widen (k := 1) (n := 6) (by decide) (by decide) ?_
      refine lv_astore_n (lv' := [(3, .ref q9), (0, .ref dk), (1, .int x), (2, .int y)]) C.1 C.2.1 d_L_serves_9 rfl hl (by decide) rfl (fun ls hl => ?_)
      refine lv_iconst (v := 1) C.1 C.2.1 d_L_serves_10 (by decide) ?_
      exact sd_iret (v := 1) C hr hlk h ⟨(show (1 : Int32) = sp_cd [xIA, xUO] xIA by decide +kernel).trans (congrArg (sp_cd [xIA, xUO]) hE.symm), v, rfl⟩ d_L_serves_11
    · have e : E = xUO := hE.symm.trans e
      subst e
      refine vx_catch (own := "StockDeskLaw") (name := xUO) (E := xUO) C.2.2.2.1 [(⟨0, 6, 9, 13⟩ : ExceptionTableEntry)] (⟨0, 6, 12, 15⟩ : ExceptionTableEntry) [] (htb.trans rfl) (List.forall_mem_cons.mpr ⟨Or.inr ⟨by decide, xIA, (C.2.2.2.2 _ (List.mem_cons_of_mem _ tb_179)), hz.2.2.2.2 (xUO, xIA) (by decide +kernel)⟩, (fun _ z => absurd z List.not_mem_nil)⟩) (by decide) (by decide) (C.2.2.2.2 _ (List.mem_cons_of_mem _ tb_180)) (va_Nw.use (w := Cond.castable xUO xUO) rfl (hz.2.2.2.1 _ (by decide +kernel))) hce hcv hcl ?_
      refine W.widen (k := 1) (n := 6) (by decide) (by decide) ?_
      refine lv_astore_n (lv' := [(3, .ref q9), (0, .ref dk), (1, .int x), (2, .int y)]) C.1 C.2.1 d_L_serves_12 rfl hl (by decide) rfl (fun ls hl => ?_)
      refine lv_iconst (v := 2) C.1 C.2.1 d_L_serves_13 (by decide) ?_
      exact sd_iret (v := 2) C hr hlk h ⟨(show (2 : Int32) = sp_cd [xIA, xUO] xUO by decide +kernel).trans (congrArg (sp_cd [xIA, xUO]) hE.symm), v, rfl⟩ d_L_serves_14
  refine W.widen (k := 1) (n := 6) (by decide) (by decide) ?_
  obtain ⟨hS, rfl⟩ := hq
  have h := sd_world h (ws' := sd_d1 dk qa qh qs ++ sd_dA k3 qa ((sp_serves o x y).2.2) ++ sd_H k3 qh (sS_u (sp_serves o x y).2.2) ++ sd_H k3 qs v) (by simp only [sd_D2, sd_D3, sd_D4, List.append_assoc, List.nil_append, List.append_nil])
  refine lv_goto (tgt := 15) C.1 C.2.1 d_L_serves_6 (by decide) ?_
  refine lv_iconst (v := 0) C.1 C.2.1 d_L_serves_15 (by decide) ?_
  exact sd_iret (v := 0) C hr hlk h ⟨(show (0 : Int32) = sp_cd [xIA, xUO] "" by decide +kernel).trans (congrArg (sp_cd [xIA, xUO]) hS.symm), v, rfl⟩ d_L_serves_16

set_option maxHeartbeats 4000000 in
set_option maxRecDepth 100000 in
theorem k_L_answers (l : Launch) (hst : l.stackTraces = false) (D : va_G) (k3 : ClassId × ClassId × ClassId) (sz : Nat) (dk : Nat) (qa : Nat → Nat) (qh : Nat → Nat) (qs : Nat → Nat) (o : sd_S) (v : sd_HS) (x : Int32) (y : Int32) (z : Int32) (ho : sS_ok o) : Met l y_L_answers (Cond.codeWith y_L_answers c_L_answers 5 (some FieldType.int) [(0, 7, 10, 13), (0, 7, 14, 15)] :: sd_all) ({ frames := 9, cells := 1, slots := 6, locals := 146 }) (sd_Px D (sd_t3 k3) [.ref dk, .int x, .int y, .int z] sz (sd_d1 dk qa qh qs ++ sd_dA k3 qa o ++ sd_H k3 qh (sS_u o) ++ sd_H k3 qs v)) (sd_Qi D (sd_t3 k3) (va_A (sd_d1 dk qa qh qs ++ sd_dA k3 qa o ++ sd_H k3 qh (sS_u o) ++ sd_H k3 qs v) sz) (fun r w => r = sp_cd [xIA, xUO] (sp_answers o x y z).1 ∧ ∃ (v9 : sd_HS), w = sd_D4 k3 dk qa qh qs (sp_answers o x y z).2.2 v9)) 1 6 (va_A (sd_d1 dk qa qh qs ++ sd_dA k3 qa o ++ sd_H k3 qh (sS_u o) ++ sd_H k3 qs v) sz) := by
  refine sd_metw (cc := c_L_answers) (maxL := 5) (ret := some .int) (by decide) (Nat.le_of_ble_eq_true rfl) (fun p e s m below meth c C hr hlk htb hz h ls hl => ?_)
  generalize va_A (sd_d1 dk qa qh qs ++ sd_dA k3 qa o ++ sd_H k3 qh (sS_u o) ++ sd_H k3 qs v) sz = A at h hz ⊢
  have hl : lv_has ls 5 [(0, .ref dk), (1, .int x), (2, .int y), (3, .int z)] := hl
  generalize hH : s.heap = H at h ⊢
  refine lv_aload_n C.1 C.2.1 d_L_answers_0 rfl (lv_at hl 0 rfl) ?_
  refine lv_iload_n C.1 C.2.1 d_L_answers_1 rfl (lv_at hl 1 rfl) ?_
  refine lv_iload_n C.1 C.2.1 d_L_answers_2 rfl (lv_at hl 2 rfl) ?_
  refine lv_iload_n C.1 C.2.1 d_L_answers_3 rfl (lv_at hl 3 rfl) ?_
  have h := sd_world h (ws' := ([]) ++ (sd_d1 dk qa qh qs ++ sd_dA k3 qa o ++ sd_H k3 qh (sS_u o)) ++ (sd_H k3 qs v)) (by simp only [sd_D2, sd_D3, sd_D4, List.append_assoc, List.nil_append, List.append_nil])
  refine sd_xcallv h (vx_runV (As := [.int x, .int y, .int z]) (rest := []) C (k_D_answers l hst D k3 H.size dk qa qh qs o x y z ho) (sd_cwV 3 C.2.2.2.2 tb_382 tb_383 tb_384 tb_21 tb_385 rfl rfl (by decide +kernel) ⟨Nat.le_of_ble_eq_true rfl, Nat.le_of_ble_eq_true rfl⟩) (sd_preVx h hz (q0 := 0) (T := T_D) (N := 3) rfl rfl) rfl rfl hl.1 rfl (lv_room (Nat.le_of_ble_eq_true rfl)) d_L_answers_4 ⟨Nat.le_of_ble_eq_true rfl, Nat.le_of_ble_eq_true rfl⟩) (fun E ce q9 w1 H locs hq h hce hcv hcl => ?_) (fun w1 H locs hq h => ?_)
  · obtain ⟨hE, hne, rfl⟩ := hq
    have h := sd_world h (ws' := sd_d1 dk qa qh qs ++ sd_dA k3 qa ((sp_answers o x y z).2.2) ++ sd_H k3 qh (sS_u (sp_answers o x y z).2.2) ++ sd_H k3 qs v) (by simp only [sd_D2, sd_D3, sd_D4, List.append_assoc, List.nil_append, List.append_nil])
    rcases E_answers o x y z with e | e | e
    · exact absurd (hE.symm.trans e) hne
    · have e : E = xIA := hE.symm.trans e
      subst e
      refine vx_catch (own := "StockDeskLaw") (name := xIA) (E := xIA) C.2.2.2.1 [] (⟨0, 7, 10, 13⟩ : ExceptionTableEntry) [(⟨0, 7, 14, 15⟩ : ExceptionTableEntry)] (htb.trans rfl) (fun _ z => absurd z List.not_mem_nil) (by decide) (by decide) (C.2.2.2.2 _ (List.mem_cons_of_mem _ tb_179)) (va_Nw.use (w := Cond.castable xIA xIA) rfl (hz.2.2.2.1 _ (by decide +kernel))) hce hcv hcl ?_
      refine W.widen (k := 1) (n := 6) (by decide) (by decide) ?_
      refine lv_astore (lv' := [(4, .ref q9), (0, .ref dk), (1, .int x), (2, .int y), (3, .int z)]) C.1 C.2.1 d_L_answers_10 hl (by decide) rfl (fun ls hl => ?_)
      refine lv_iconst (v := 1) C.1 C.2.1 d_L_answers_12 (by decide) ?_
      exact sd_iret (v := 1) C hr hlk h ⟨(show (1 : Int32) = sp_cd [xIA, xUO] xIA by decide +kernel).trans (congrArg (sp_cd [xIA, xUO]) hE.symm), v, rfl⟩ d_L_answers_13
    · have e : E = xUO := hE.symm.trans e
      subst e
      refine vx_catch (own := "StockDeskLaw") (name := xUO) (E := xUO) C.2.2.2.1 [(⟨0, 7, 10, 13⟩ : ExceptionTableEntry)] (⟨0, 7, 14, 15⟩ : ExceptionTableEntry) [] (htb.trans rfl) (List.forall_mem_cons.mpr ⟨Or.inr ⟨by decide, xIA, (C.2.2.2.2 _ (List.mem_cons_of_mem _ tb_179)), hz.2.2.2.2 (xUO, xIA) (by decide +kernel)⟩, (fun _ z => absurd z List.not_mem_nil)⟩) (by decide) (by decide) (C.2.2.2.2 _ (List.mem_cons_of_mem _ tb_180)) (va_Nw.use (w := Cond.castable xUO xUO) rfl (hz.2.2.2.1 _ (by decide +kernel))) hce hcv hcl ?_
      refine W.widen (k := 1) (n := 6) (by decide) (by decide) ?_
      refine lv_astore (lv' := [(4, .ref q9), (0, .ref dk), (1, .int x), (2, .int y), (3, .int z)]) C.1 C.2.1 d_L_answers_14 hl (by decide) rfl (fun ls hl => ?_)
      refine lv_iconst (v := 2) C.1 C.2.1 d_L_answers_16 (by decide) ?_
      exact sd_iret (v := 2) C hr hlk h ⟨(show (2 : Int32) = sp_cd [xIA, xUO] xUO by decide +kernel).trans (congrArg (sp_cd [xIA, xUO]) hE.symm), v, rfl⟩ d_L_answers_17
  refine W.widen (k := 1) (n := 6) (by decide) (by decide) ?_
  obtain ⟨hS, rfl⟩ := hq
  have h := sd_world h (ws' := sd_d1 dk qa qh qs ++ sd_dA k3 qa ((sp_answers o x y z).2.2) ++ sd_H k3 qh (sS_u (sp_answers o x y z).2.2) ++ sd_H k3 qs v) (by simp only [sd_D2, sd_D3, sd_D4, List.append_assoc, List.nil_append, List.append_nil])
  refine lv_goto (tgt := 18) C.1 C.2.1 d_L_answers_7 (by decide) ?_
  refine lv_iconst (v := 0) C.1 C.2.1 d_L_answers_18 (by decide) ?_
  exact sd_iret (v := 0) C hr hlk h ⟨(show (0 : Int32) = sp_cd [xIA, xUO] "" by decide +kernel).trans (congrArg (sp_cd [xIA, xUO]) hS.symm), v, rfl⟩ d_L_answers_19

set_option maxHeartbeats 4000000 in
set_option maxRecDepth 100000 in
theorem k_L_fails (l : Launch) (hst : l.stackTraces = false) (D : va_G) (k3 : ClassId × ClassId × ClassId) (sz : Nat) (dk : Nat) (qa : Nat → Nat) (qh : Nat → Nat) (qs : Nat → Nat) (o : sd_S) (v : sd_HS) (ox : Nat) (fo : Nat → Int64) (x : Int32) (y : Int32) (ho : sS_ok o) : Met l y_L_fails (Cond.codeWith y_L_fails c_L_fails 5 (some FieldType.int) [(0, 10, 13, 13), (0, 10, 17, 15)] :: sd_all) ({ frames := 9, cells := 1, slots := 6, locals := 145 }) (sd_Px D (sd_t3 k3) [.ref dk, .int x, .int y, .ref ox] sz (sd_d1 dk qa qh qs ++ sd_dA k3 qa o ++ sd_H k3 qh (sS_u o) ++ sd_H k3 qs v ++ [(ox, .inl (k3.2.2, 1, .inr (.inl fo)))])) (sd_Qi D (sd_t3 k3) (va_A (sd_d1 dk qa qh qs ++ sd_dA k3 qa o ++ sd_H k3 qh (sS_u o) ++ sd_H k3 qs v ++ [(ox, .inl (k3.2.2, 1, .inr (.inl fo)))]) sz) (fun r w => r = sp_cd [xIA, xUO] (sp_fails o x y).1 ∧ ∃ (v9 : sd_HS) (fo9 : Nat → Int64), w = sd_D4 k3 dk qa qh qs (sp_fails o x y).2.2 v9 ++ [(ox, .inl (k3.2.2, 1, .inr (.inl fo9)))] ∧ ((sp_fails o x y).1 = "" → fo9 0 = (sp_fails o x y).2.1.toInt32.toInt64))) 1 6 (va_A (sd_d1 dk qa qh qs ++ sd_dA k3 qa o ++ sd_H k3 qh (sS_u o) ++ sd_H k3 qs v ++ [(ox, .inl (k3.2.2, 1, .inr (.inl fo)))]) sz) := by
  refine sd_metw (cc := c_L_fails) (maxL := 5) (ret := some .int) (by decide) (Nat.le_of_ble_eq_true rfl) (fun p e s m below meth c C hr hlk htb hz h ls hl => ?_)
  generalize va_A (sd_d1 dk qa qh qs ++ sd_dA k3 qa o ++ sd_H k3 qh (sS_u o) ++ sd_H k3 qs v ++ [(ox, .inl (k3.2.2, 1, .inr (.inl fo)))]) sz = A at h hz ⊢
  have hl : lv_has ls 5 [(0, .ref dk), (1, .int x), (2, .int y), (3, .ref ox)] := hl
  generalize hH : s.heap = H at h ⊢
  refine lv_aload_n C.1 C.2.1 d_L_fails_0 rfl (lv_at hl 3 rfl) ?_
  refine lv_iconst (v := 0) C.1 C.2.1 d_L_fails_1 (by decide) ?_
  refine lv_aload_n C.1 C.2.1 d_L_fails_2 rfl (lv_at hl 0 rfl) ?_
  refine lv_iload_n C.1 C.2.1 d_L_fails_3 rfl (lv_at hl 1 rfl) ?_
  refine lv_iload_n C.1 C.2.1 d_L_fails_4 rfl (lv_at hl 2 rfl) ?_
  have h := sd_world h (ws' := ([]) ++ (sd_d1 dk qa qh qs ++ sd_dA k3 qa o ++ sd_H k3 qh (sS_u o)) ++ (sd_H k3 qs v ++ [(ox, .inl (k3.2.2, 1, .inr (.inl fo)))])) (by simp only [sd_D2, sd_D3, sd_D4, List.append_assoc, List.nil_append, List.append_nil])
  refine sd_xcalli h (vx_runV (As := [.int x, .int y]) (rest := [.int 0, .ref ox]) C (k_D_fails l hst D k3 H.size dk qa qh qs o x y ho) (sd_cwV 2 C.2.2.2.2 tb_395 tb_396 tb_397 tb_21 tb_398 rfl rfl (by decide +kernel) ⟨Nat.le_of_ble_eq_true rfl, Nat.le_of_ble_eq_true rfl⟩) (sd_preVx h hz (q0 := 0) (T := T_D) (N := 3) rfl rfl) rfl rfl hl.1 rfl (lv_room (Nat.le_of_ble_eq_true rfl)) d_L_fails_5 ⟨Nat.le_of_ble_eq_true rfl, Nat.le_of_ble_eq_true rfl⟩) (fun E ce q9 w1 H locs hq h hce hcv hcl => ?_) (fun r w1 H locs hq h => ?_)
  · obtain ⟨hE, hne, rfl⟩ := hq
    have h := sd_world h (ws' := sd_d1 dk qa qh qs ++ sd_dA k3 qa ((sp_fails o x y).2.2) ++ sd_H k3 qh (sS_u (sp_fails o x y).2.2) ++ sd_H k3 qs v ++ [(ox, .inl (k3.2.2, 1, .inr (.inl fo)))]) (by simp only [sd_D2, sd_D3, sd_D4, List.append_assoc, List.nil_append, List.append_nil])
    rcases E_fails o x y with e | e | e
    · exact absurd (hE.symm.trans e) hne
    · have e : E = xIA := hE.symm.trans e
      subst e
      refine vx_catch (own := "StockDeskLaw") (name := xIA) (E := xIA) C.2.2.2.1 [] (⟨0, 10, 13, 13⟩ : ExceptionTableEntry) [(⟨0, 10, 17, 15⟩ : ExceptionTableEntry)] (htb.trans rfl) (fun _ z => absurd z List.not_mem_nil) (by decide) (by decide) (C.2.2.2.2 _ (List.mem_cons_of_mem _ tb_179)) (va_Nw.use (w := Cond.castable xIA xIA) rfl (hz.2.2.2.1 _ (by decide +kernel))) hce hcv hcl ?_
      refine W.widen (k := 1) (n := 6) (by decide) (by decide) ?_
      refine lv_astore (lv' := [(4, .ref q9), (0, .ref dk), (1, .int x), (2, .int y), (3, .ref ox)]) C.1 C.2.1 d_L_fails_13 hl (by decide) rfl (fun ls hl => ?_)
      refine lv_iconst (v := 1) C.1 C.2.1 d_L_fails_15 (by decide) ?_
      exact sd_iret (v := 1) C hr hlk h ⟨(show (1 : Int32) = sp_cd [xIA, xUO] xIA by decide +kernel).trans (congrArg (sp_cd [xIA, xUO]) hE.symm), v, fo, rfl, fun z => absurd (hE.symm.trans z) (by decide)⟩ d_L_fails_16
    · have e : E = xUO := hE.symm.trans e
      subst e
      refine vx_catch (own := "StockDeskLaw") (name := xUO) (E := xUO) C.2.2.2.1 [(⟨0, 10, 13, 13⟩ : ExceptionTableEntry)] (⟨0, 10, 17, 15⟩ : ExceptionTableEntry) [] (htb.trans rfl) (List.forall_mem_cons.mpr ⟨Or.inr ⟨by decide, xIA, (C.2.2.2.2 _ (List.mem_cons_of_mem _ tb_179)), hz.2.2.2.2 (xUO, xIA) (by decide +kernel)⟩, (fun _ z => absurd z List.not_mem_nil)⟩) (by decide) (by decide) (C.2.2.2.2 _ (List.mem_cons_of_mem _ tb_180)) (va_Nw.use (w := Cond.castable xUO xUO) rfl (hz.2.2.2.1 _ (by decide +kernel))) hce hcv hcl ?_
      refine W.widen (k := 1) (n := 6) (by decide) (by decide) ?_
      refine lv_astore (lv' := [(4, .ref q9), (0, .ref dk), (1, .int x), (2, .int y), (3, .ref ox)]) C.1 C.2.1 d_L_fails_17 hl (by decide) rfl (fun ls hl => ?_)
      refine lv_iconst (v := 2) C.1 C.2.1 d_L_fails_19 (by decide) ?_
      exact sd_iret (v := 2) C hr hlk h ⟨(show (2 : Int32) = sp_cd [xIA, xUO] xUO by decide +kernel).trans (congrArg (sp_cd [xIA, xUO]) hE.symm), v, fo, rfl, fun z => absurd (hE.symm.trans z) (by decide)⟩ d_L_fails_20
  refine W.widen (k := 1) (n := 6) (by decide) (by decide) ?_
  obtain ⟨hS, rfl, rfl⟩ := hq
  have h := sd_world h (ws' := sd_d1 dk qa qh qs ++ sd_dA k3 qa ((sp_fails o x y).2.2) ++ sd_H k3 qh (sS_u (sp_fails o x y).2.2) ++ sd_H k3 qs v ++ [(ox, .inl (k3.2.2, 1, .inr (.inl fo)))]) (by simp only [sd_D2, sd_D3, sd_D4, List.append_assoc, List.nil_append, List.append_nil])
  refine lv_i2l (v := ((sp_fails o x y).2.1.toInt32).toInt64) C.1 C.2.1 d_L_fails_8 rfl ?_
  refine sd_last C h 24 2 (i := 0) (ws' := sd_d1 dk qa qh qs ++ sd_dA k3 qa ((sp_fails o x y).2.2) ++ sd_H k3 qh (sS_u (sp_fails o x y).2.2) ++ sd_H k3 qs v ++ [(ox, .inl (k3.2.2, 1, .inr (.inl (vp_updL fo 0 (((sp_fails o x y).2.1.toInt32).toInt64)))))]) rfl rfl (by decide) (by decide) rfl d_L_fails_9 (fun H locs h => ?_)
  refine lv_goto (tgt := 21) C.1 C.2.1 d_L_fails_10 (by decide) ?_
  refine lv_iconst (v := 0) C.1 C.2.1 d_L_fails_21 (by decide) ?_
  exact sd_iret (v := 0) C hr hlk h ⟨(show (0 : Int32) = sp_cd [xIA, xUO] "" by decide +kernel).trans (congrArg (sp_cd [xIA, xUO]) hS.symm), v, (vp_updL fo 0 (((sp_fails o x y).2.1.toInt32).toInt64)), rfl, fun _ => rfl⟩ d_L_fails_22

set_option maxHeartbeats 4000000 in
set_option maxRecDepth 100000 in
theorem k_L_call (l : Launch) (hst : l.stackTraces = false) (D : va_G) (k3 : ClassId × ClassId × ClassId) (sz : Nat) (dk : Nat) (qa : Nat → Nat) (qh : Nat → Nat) (qs : Nat → Nat) (o : sd_S) (v : sd_HS) (ox : Nat) (fo : Nat → Int64) (x : Int32) (y : Int32) (z : Int32) (ho : sS_ok o) : Met l y_L_call (Cond.codeWith y_L_call c_L_call 6 (some FieldType.int) [(0, 11, 14, 13), (0, 11, 18, 21), (0, 11, 22, 15), (0, 11, 26, 38)] :: sd_all) ({ frames := 9, cells := 1, slots := 6, locals := 149 }) (sd_Px D (sd_t3 k3) [.ref dk, .int x, .int y, .int z, .ref ox] sz (sd_d1 dk qa qh qs ++ sd_dA k3 qa o ++ sd_H k3 qh (sS_u o) ++ sd_H k3 qs v ++ [(ox, .inl (k3.2.2, 1, .inr (.inl fo)))])) (sd_Qi D (sd_t3 k3) (va_A (sd_d1 dk qa qh qs ++ sd_dA k3 qa o ++ sd_H k3 qh (sS_u o) ++ sd_H k3 qs v ++ [(ox, .inl (k3.2.2, 1, .inr (.inl fo)))]) sz) (fun r w => r = sp_cd [xIA, xNS, xUO, xIS] (sp_call o x y z).1 ∧ ∃ (v9 : sd_HS) (fo9 : Nat → Int64), w = sd_D4 k3 dk qa qh qs (sp_call o x y z).2.2 v9 ++ [(ox, .inl (k3.2.2, 1, .inr (.inl fo9)))] ∧ ((sp_call o x y z).1 = "" → fo9 0 = (sp_call o x y z).2.1))) 1 6 (va_A (sd_d1 dk qa qh qs ++ sd_dA k3 qa o ++ sd_H k3 qh (sS_u o) ++ sd_H k3 qs v ++ [(ox, .inl (k3.2.2, 1, .inr (.inl fo)))]) sz) := by
  refine sd_metw (cc := c_L_call) (maxL := 6) (ret := some .int) (by decide) (Nat.le_of_ble_eq_true rfl) (fun p e s m below meth c C hr hlk htb hz h ls hl => ?_)
  generalize va_A (sd_d1 dk qa qh qs ++ sd_dA k3 qa o ++ sd_H k3 qh (sS_u o) ++ sd_H k3 qs v ++ [(ox, .inl (k3.2.2, 1, .inr (.inl fo)))]) sz = A at h hz ⊢
  have hl : lv_has ls 6 [(0, .ref dk), (1, .int x), (2, .int y), (3, .int z), (4, .ref ox)] := hl
  generalize hH : s.heap = H at h ⊢
  refine lv_aload C.1 C.2.1 d_L_call_0 (lv_at hl 4 rfl) ?_
  refine lv_iconst (v := 0) C.1 C.2.1 d_L_call_2 (by decide) ?_
  refine lv_aload_n C.1 C.2.1 d_L_call_3 rfl (lv_at hl 0 rfl) ?_
  refine lv_iload_n C.1 C.2.1 d_L_call_4 rfl (lv_at hl 1 rfl) ?_
  refine lv_iload_n C.1 C.2.1 d_L_call_5 rfl (lv_at hl 2 rfl) ?_
  refine lv_iload_n C.1 C.2.1 d_L_call_6 rfl (lv_at hl 3 rfl) ?_
  have h := sd_world h (ws' := ([]) ++ (sd_d1 dk qa qh qs ++ sd_dA k3 qa o ++ sd_H k3 qh (sS_u o)) ++ (sd_H k3 qs v ++ [(ox, .inl (k3.2.2, 1, .inr (.inl fo)))])) (by simp only [sd_D2, sd_D3, sd_D4, List.append_assoc, List.nil_append, List.append_nil])
  refine sd_xcalll h (vx_runV (As := [.int x, .int y, .int z]) (rest := [.int 0, .ref ox]) C (k_D_call l hst D k3 H.size dk qa qh qs o x y z ho) (sd_cwV 3 C.2.2.2.2 tb_403 tb_404 tb_405 tb_21 tb_406 rfl rfl (by decide +kernel) ⟨Nat.le_of_ble_eq_true rfl, Nat.le_of_ble_eq_true rfl⟩) (sd_preVx h hz (q0 := 0) (T := T_D) (N := 3) rfl rfl) rfl rfl hl.1 rfl (lv_room (Nat.le_of_ble_eq_true rfl)) d_L_call_7 ⟨Nat.le_of_ble_eq_true rfl, Nat.le_of_ble_eq_true rfl⟩) (fun E ce q9 w1 H locs hq h hce hcv hcl => ?_) (fun r w1 H locs hq h => ?_)
  · obtain ⟨hE, hne, rfl⟩ := hq
    have h := sd_world h (ws' := sd_d1 dk qa qh qs ++ sd_dA k3 qa ((sp_call o x y z).2.2) ++ sd_H k3 qh (sS_u (sp_call o x y z).2.2) ++ sd_H k3 qs v ++ [(ox, .inl (k3.2.2, 1, .inr (.inl fo)))]) (by simp only [sd_D2, sd_D3, sd_D4, List.append_assoc, List.nil_append, List.append_nil])
    rcases E_call o x y z with e | e | e | e | e
    · exact absurd (hE.symm.trans e) hne
    · have e : E = xIA := hE.symm.trans e
      subst e
      refine vx_catch (own := "StockDeskLaw") (name := xIA) (E := xIA) C.2.2.2.1 [] (⟨0, 11, 14, 13⟩ : ExceptionTableEntry) [(⟨0, 11, 18, 21⟩ : ExceptionTableEntry), (⟨0, 11, 22, 15⟩ : ExceptionTableEntry), (⟨0, 11, 26, 38⟩ : ExceptionTableEntry)] (htb.trans rfl) (fun _ z => absurd z List.not_mem_nil) (by decide) (by decide) (C.2.2.2.2 _ (List.mem_cons_of_mem _ tb_179)) (va_Nw.use (w := Cond.castable xIA xIA) rfl (hz.2.2.2.1 _ (by decide +kernel))) hce hcv hcl ?_
      refine W.widen (k := 1) (n := 6) (by decide) (by decide) ?_
      refine lv_astore (lv' := [(5, .ref q9), (0, .ref dk), (1, .int x), (2, .int y), (3, .int z), (4, .ref ox)]) C.1 C.2.1 d_L_call_14 hl (by decide) rfl (fun ls hl => ?_)
      refine lv_iconst (v := 1) C.1 C.2.1 d_L_call_16 (by decide) ?_
      exact sd_iret (v := 1) C hr hlk h ⟨(show (1 : Int32) = sp_cd [xIA, xNS, xUO, xIS] xIA by decide +kernel).trans (congrArg (sp_cd [xIA, xNS, xUO, xIS]) hE.symm), v, fo, rfl, fun z => absurd (hE.symm.trans z) (by decide)⟩ d_L_call_17
    · have e : E = xNS := hE.symm.trans e
      subst e
      refine vx_catch (own := "StockDeskLaw") (name := xNS) (E := xNS) C.2.2.2.1 [(⟨0, 11, 14, 13⟩ : ExceptionTableEntry)] (⟨0, 11, 18, 21⟩ : ExceptionTableEntry) [(⟨0, 11, 22, 15⟩ : ExceptionTableEntry), (⟨0, 11, 26, 38⟩ : ExceptionTableEntry)] (htb.trans rfl) (List.forall_mem_cons.mpr ⟨Or.inr ⟨by decide, xIA, (C.2.2.2.2 _ (List.mem_cons_of_mem _ tb_179)), hz.2.2.2.2 (xNS, xIA) (by decide +kernel)⟩, (fun _ z => absurd z List.not_mem_nil)⟩) (by decide) (by decide) (C.2.2.2.2 _ (List.mem_cons_of_mem _ tb_341)) (va_Nw.use (w := Cond.castable xNS xNS) rfl (hz.2.2.2.1 _ (by decide +kernel))) hce hcv hcl ?_
      refine W.widen (k := 1) (n := 6) (by decide) (by decide) ?_
      refine lv_astore (lv' := [(5, .ref q9), (0, .ref dk), (1, .int x), (2, .int y), (3, .int z), (4, .ref ox)]) C.1 C.2.1 d_L_call_18 hl (by decide) rfl (fun ls hl => ?_)
      refine lv_iconst (v := 2) C.1 C.2.1 d_L_call_20 (by decide) ?_
      exact sd_iret (v := 2) C hr hlk h ⟨(show (2 : Int32) = sp_cd [xIA, xNS, xUO, xIS] xNS by decide +kernel).trans (congrArg (sp_cd [xIA, xNS, xUO, xIS]) hE.symm), v, fo, rfl, fun z => absurd (hE.symm.trans z) (by decide)⟩ d_L_call_21
    · have e : E = xUO := hE.symm.trans e
      subst e
      refine vx_catch (own := "StockDeskLaw") (name := xUO) (E := xUO) C.2.2.2.1 [(⟨0, 11, 14, 13⟩ : ExceptionTableEntry), (⟨0, 11, 18, 21⟩ : ExceptionTableEntry)] (⟨0, 11, 22, 15⟩ : ExceptionTableEntry) [(⟨0, 11, 26, 38⟩ : ExceptionTableEntry)] (htb.trans rfl) (List.forall_mem_cons.mpr ⟨Or.inr ⟨by decide, xIA, (C.2.2.2.2 _ (List.mem_cons_of_mem _ tb_179)), hz.2.2.2.2 (xUO, xIA) (by decide +kernel)⟩, (List.forall_mem_cons.mpr ⟨Or.inr ⟨by decide, xNS, (C.2.2.2.2 _ (List.mem_cons_of_mem _ tb_341)), hz.2.2.2.2 (xUO, xNS) (by decide +kernel)⟩, (fun _ z => absurd z List.not_mem_nil)⟩)⟩) (by decide) (by decide) (C.2.2.2.2 _ (List.mem_cons_of_mem _ tb_180)) (va_Nw.use (w := Cond.castable xUO xUO) rfl (hz.2.2.2.1 _ (by decide +kernel))) hce hcv hcl ?_
      refine W.widen (k := 1) (n := 6) (by decide) (by decide) ?_
      refine lv_astore (lv' := [(5, .ref q9), (0, .ref dk), (1, .int x), (2, .int y), (3, .int z), (4, .ref ox)]) C.1 C.2.1 d_L_call_22 hl (by decide) rfl (fun ls hl => ?_)
      refine lv_iconst (v := 3) C.1 C.2.1 d_L_call_24 (by decide) ?_
      exact sd_iret (v := 3) C hr hlk h ⟨(show (3 : Int32) = sp_cd [xIA, xNS, xUO, xIS] xUO by decide +kernel).trans (congrArg (sp_cd [xIA, xNS, xUO, xIS]) hE.symm), v, fo, rfl, fun z => absurd (hE.symm.trans z) (by decide)⟩ d_L_call_25
    · have e : E = xIS := hE.symm.trans e
      subst e
      refine vx_catch (own := "StockDeskLaw") (name := xIS) (E := xIS) C.2.2.2.1 [(⟨0, 11, 14, 13⟩ : ExceptionTableEntry), (⟨0, 11, 18, 21⟩ : ExceptionTableEntry), (⟨0, 11, 22, 15⟩ : ExceptionTableEntry)] (⟨0, 11, 26, 38⟩ : ExceptionTableEntry) [] (htb.trans rfl) (List.forall_mem_cons.mpr ⟨Or.inr ⟨by decide, xIA, (C.2.2.2.2 _ (List.mem_cons_of_mem _ tb_179)), hz.2.2.2.2 (xIS, xIA) (by decide +kernel)⟩, (List.forall_mem_cons.mpr ⟨Or.inr ⟨by decide, xNS, (C.2.2.2.2 _ (List.mem_cons_of_mem _ tb_341)), hz.2.2.2.2 (xIS, xNS) (by decide +kernel)⟩, (List.forall_mem_cons.mpr ⟨Or.inr ⟨by decide, xUO, (C.2.2.2.2 _ (List.mem_cons_of_mem _ tb_180)), hz.2.2.2.2 (xIS, xUO) (by decide +kernel)⟩, (fun _ z => absurd z List.not_mem_nil)⟩)⟩)⟩) (by decide) (by decide) (C.2.2.2.2 _ (List.mem_cons_of_mem _ tb_402)) (va_Nw.use (w := Cond.castable xIS xIS) rfl (hz.2.2.2.1 _ (by decide +kernel))) hce hcv hcl ?_
      refine W.widen (k := 1) (n := 6) (by decide) (by decide) ?_
      refine lv_astore (lv' := [(5, .ref q9), (0, .ref dk), (1, .int x), (2, .int y), (3, .int z), (4, .ref ox)]) C.1 C.2.1 d_L_call_26 hl (by decide) rfl (fun ls hl => ?_)
      refine lv_iconst (v := 4) C.1 C.2.1 d_L_call_28 (by decide) ?_
      exact sd_iret (v := 4) C hr hlk h ⟨(show (4 : Int32) = sp_cd [xIA, xNS, xUO, xIS] xIS by decide +kernel).trans (congrArg (sp_cd [xIA, xNS, xUO, xIS]) hE.symm), v, fo, rfl, fun z => absurd (hE.symm.trans z) (by decide)⟩ d_L_call_29
  refine W.widen (k := 1) (n := 6) (by decide) (by decide) ?_
  obtain ⟨hS, rfl, rfl⟩ := hq
  have h := sd_world h (ws' := sd_d1 dk qa qh qs ++ sd_dA k3 qa ((sp_call o x y z).2.2) ++ sd_H k3 qh (sS_u (sp_call o x y z).2.2) ++ sd_H k3 qs v ++ [(ox, .inl (k3.2.2, 1, .inr (.inl fo)))]) (by simp only [sd_D2, sd_D3, sd_D4, List.append_assoc, List.nil_append, List.append_nil])
  refine sd_last C h 24 2 (i := 0) (ws' := sd_d1 dk qa qh qs ++ sd_dA k3 qa ((sp_call o x y z).2.2) ++ sd_H k3 qh (sS_u (sp_call o x y z).2.2) ++ sd_H k3 qs v ++ [(ox, .inl (k3.2.2, 1, .inr (.inl (vp_updL fo 0 ((sp_call o x y z).2.1)))))]) rfl rfl (by decide) (by decide) rfl d_L_call_10 (fun H locs h => ?_)
  refine lv_goto (tgt := 30) C.1 C.2.1 d_L_call_11 (by decide) ?_
  refine lv_iconst (v := 0) C.1 C.2.1 d_L_call_30 (by decide) ?_
  exact sd_iret (v := 0) C hr hlk h ⟨(show (0 : Int32) = sp_cd [xIA, xNS, xUO, xIS] "" by decide +kernel).trans (congrArg (sp_cd [xIA, xNS, xUO, xIS]) hS.symm), v, (vp_updL fo 0 ((sp_call o x y z).2.1)), rfl, fun _ => rfl⟩ d_L_call_31

set_option maxHeartbeats 4000000 in
set_option maxRecDepth 100000 in
theorem k_L_again (l : Launch) (hst : l.stackTraces = false) (D : va_G) (k3 : ClassId × ClassId × ClassId) (sz : Nat) (dk : Nat) (qa : Nat → Nat) (qh : Nat → Nat) (qs : Nat → Nat) (o : sd_S) (v : sd_HS) (ox : Nat) (fo : Nat → Int64) (x : Int32) (y : Int32) (z : Int32) (ho : sS_ok o) : Met l y_L_again (Cond.codeWith y_L_again c_L_again 6 (some FieldType.int) [(0, 11, 14, 13), (0, 11, 18, 21), (0, 11, 22, 38)] :: sd_all) ({ frames := 9, cells := 1, slots := 6, locals := 146 }) (sd_Px D (sd_t3 k3) [.ref dk, .int x, .int y, .int z, .ref ox] sz (sd_d1 dk qa qh qs ++ sd_dA k3 qa o ++ sd_H k3 qh (sS_u o) ++ sd_H k3 qs v ++ [(ox, .inl (k3.2.2, 1, .inr (.inl fo)))])) (sd_Qi D (sd_t3 k3) (va_A (sd_d1 dk qa qh qs ++ sd_dA k3 qa o ++ sd_H k3 qh (sS_u o) ++ sd_H k3 qs v ++ [(ox, .inl (k3.2.2, 1, .inr (.inl fo)))]) sz) (fun r w => r = sp_cd [xIA, xNS, xIS] (sp_again o x y z).1 ∧ ∃ (v9 : sd_HS) (fo9 : Nat → Int64), w = sd_D4 k3 dk qa qh qs (sp_again o x y z).2.2 v9 ++ [(ox, .inl (k3.2.2, 1, .inr (.inl fo9)))] ∧ ((sp_again o x y z).1 = "" → fo9 0 = (sp_again o x y z).2.1))) 1 6 (va_A (sd_d1 dk qa qh qs ++ sd_dA k3 qa o ++ sd_H k3 qh (sS_u o) ++ sd_H k3 qs v ++ [(ox, .inl (k3.2.2, 1, .inr (.inl fo)))]) sz) := by
  refine sd_metw (cc := c_L_again) (maxL := 6) (ret := some .int) (by decide) (Nat.le_of_ble_eq_true rfl) (fun p e s m below meth c C hr hlk htb hz h ls hl => ?_)
  generalize va_A (sd_d1 dk qa qh qs ++ sd_dA k3 qa o ++ sd_H k3 qh (sS_u o) ++ sd_H k3 qs v ++ [(ox, .inl (k3.2.2, 1, .inr (.inl fo)))]) sz = A at h hz ⊢
  have hl : lv_has ls 6 [(0, .ref dk), (1, .int x), (2, .int y), (3, .int z), (4, .ref ox)] := hl
  generalize hH : s.heap = H at h ⊢
  refine lv_aload C.1 C.2.1 d_L_again_0 (lv_at hl 4 rfl) ?_
  refine lv_iconst (v := 0) C.1 C.2.1 d_L_again_2 (by decide) ?_
  refine lv_aload_n C.1 C.2.1 d_L_again_3 rfl (lv_at hl 0 rfl) ?_
  refine lv_iload_n C.1 C.2.1 d_L_again_4 rfl (lv_at hl 1 rfl) ?_
  refine lv_iload_n C.1 C.2.1 d_L_again_5 rfl (lv_at hl 2 rfl) ?_
  refine lv_iload_n C.1 C.2.1 d_L_again_6 rfl (lv_at hl 3 rfl) ?_
  have h := sd_world h (ws' := ([]) ++ (sd_d1 dk qa qh qs ++ sd_dA k3 qa o ++ sd_H k3 qh (sS_u o) ++ sd_H k3 qs v) ++ ([(ox, .inl (k3.2.2, 1, .inr (.inl fo)))])) (by simp only [sd_D2, sd_D3, sd_D4, List.append_assoc, List.nil_append, List.append_nil])
  refine sd_xcalll h (vx_runV (As := [.int x, .int y, .int z]) (rest := [.int 0, .ref ox]) C (k_D_again l hst D k3 H.size dk qa qh qs o v x y z ho) (sd_cwV 3 C.2.2.2.2 tb_431 tb_432 tb_433 tb_21 tb_434 rfl rfl (by decide +kernel) ⟨Nat.le_of_ble_eq_true rfl, Nat.le_of_ble_eq_true rfl⟩) (sd_preVx h hz (q0 := 0) (T := T_D) (N := 3) rfl rfl) rfl rfl hl.1 rfl (lv_room (Nat.le_of_ble_eq_true rfl)) d_L_again_7 ⟨Nat.le_of_ble_eq_true rfl, Nat.le_of_ble_eq_true rfl⟩) (fun E ce q9 w1 H locs hq h hce hcv hcl => ?_) (fun r w1 H locs hq h => ?_)
  · obtain ⟨hE, hne, v9, rfl⟩ := hq
    have h := sd_world h (ws' := sd_d1 dk qa qh qs ++ sd_dA k3 qa ((sp_again o x y z).2.2) ++ sd_H k3 qh (sS_u (sp_again o x y z).2.2) ++ sd_H k3 qs v9 ++ [(ox, .inl (k3.2.2, 1, .inr (.inl fo)))]) (by simp only [sd_D2, sd_D3, sd_D4, List.append_assoc, List.nil_append, List.append_nil])
    rcases E_again o x y z with e | e | e | e
    · exact absurd (hE.symm.trans e) hne
    · have e : E = xIA := hE.symm.trans e
      subst e
      refine vx_catch (own := "StockDeskLaw") (name := xIA) (E := xIA) C.2.2.2.1 [] (⟨0, 11, 14, 13⟩ : ExceptionTableEntry) [(⟨0, 11, 18, 21⟩ : ExceptionTableEntry), (⟨0, 11, 22, 38⟩ : ExceptionTableEntry)] (htb.trans rfl) (fun _ z => absurd z List.not_mem_nil) (by decide) (by decide) (C.2.2.2.2 _ (List.mem_cons_of_mem _ tb_179)) (va_Nw.use (w := Cond.castable xIA xIA) rfl (hz.2.2.2.1 _ (by decide +kernel))) hce hcv hcl ?_
      refine W.widen (k := 1) (n := 6) (by decide) (by decide) ?_
      refine lv_astore (lv' := [(5, .ref q9), (0, .ref dk), (1, .int x), (2, .int y), (3, .int z), (4, .ref ox)]) C.1 C.2.1 d_L_again_14 hl (by decide) rfl (fun ls hl => ?_)
      refine lv_iconst (v := 1) C.1 C.2.1 d_L_again_16 (by decide) ?_
      exact sd_iret (v := 1) C hr hlk h ⟨(show (1 : Int32) = sp_cd [xIA, xNS, xIS] xIA by decide +kernel).trans (congrArg (sp_cd [xIA, xNS, xIS]) hE.symm), v9, fo, rfl, fun z => absurd (hE.symm.trans z) (by decide)⟩ d_L_again_17
    · have e : E = xNS := hE.symm.trans e
      subst e
      refine vx_catch (own := "StockDeskLaw") (name := xNS) (E := xNS) C.2.2.2.1 [(⟨0, 11, 14, 13⟩ : ExceptionTableEntry)] (⟨0, 11, 18, 21⟩ : ExceptionTableEntry) [(⟨0, 11, 22, 38⟩ : ExceptionTableEntry)] (htb.trans rfl) (List.forall_mem_cons.mpr ⟨Or.inr ⟨by decide, xIA, (C.2.2.2.2 _ (List.mem_cons_of_mem _ tb_179)), hz.2.2.2.2 (xNS, xIA) (by decide +kernel)⟩, (fun _ z => absurd z List.not_mem_nil)⟩) (by decide) (by decide) (C.2.2.2.2 _ (List.mem_cons_of_mem _ tb_341)) (va_Nw.use (w := Cond.castable xNS xNS) rfl (hz.2.2.2.1 _ (by decide +kernel))) hce hcv hcl ?_
      refine W.widen (k := 1) (n := 6) (by decide) (by decide) ?_
      refine lv_astore (lv' := [(5, .ref q9), (0, .ref dk), (1, .int x), (2, .int y), (3, .int z), (4, .ref ox)]) C.1 C.2.1 d_L_again_18 hl (by decide) rfl (fun ls hl => ?_)
      refine lv_iconst (v := 2) C.1 C.2.1 d_L_again_20 (by decide) ?_
      exact sd_iret (v := 2) C hr hlk h ⟨(show (2 : Int32) = sp_cd [xIA, xNS, xIS] xNS by decide +kernel).trans (congrArg (sp_cd [xIA, xNS, xIS]) hE.symm), v9, fo, rfl, fun z => absurd (hE.symm.trans z) (by decide)⟩ d_L_again_21
    · have e : E = xIS := hE.symm.trans e
      subst e
      refine vx_catch (own := "StockDeskLaw") (name := xIS) (E := xIS) C.2.2.2.1 [(⟨0, 11, 14, 13⟩ : ExceptionTableEntry), (⟨0, 11, 18, 21⟩ : ExceptionTableEntry)] (⟨0, 11, 22, 38⟩ : ExceptionTableEntry) [] (htb.trans rfl) (List.forall_mem_cons.mpr ⟨Or.inr ⟨by decide, xIA, (C.2.2.2.2 _ (List.mem_cons_of_mem _ tb_179)), hz.2.2.2.2 (xIS, xIA) (by decide +kernel)⟩, (List.forall_mem_cons.mpr ⟨Or.inr ⟨by decide, xNS, (C.2.2.2.2 _ (List.mem_cons_of_mem _ tb_341)), hz.2.2.2.2 (xIS, xNS) (by decide +kernel)⟩, (fun _ z => absurd z List.not_mem_nil)⟩)⟩) (by decide) (by decide) (C.2.2.2.2 _ (List.mem_cons_of_mem _ tb_402)) (va_Nw.use (w := Cond.castable xIS xIS) rfl (hz.2.2.2.1 _ (by decide +kernel))) hce hcv hcl ?_
      refine W.widen (k := 1) (n := 6) (by decide) (by decide) ?_
      refine lv_astore (lv' := [(5, .ref q9), (0, .ref dk), (1, .int x), (2, .int y), (3, .int z), (4, .ref ox)]) C.1 C.2.1 d_L_again_22 hl (by decide) rfl (fun ls hl => ?_)
      refine lv_iconst (v := 3) C.1 C.2.1 d_L_again_24 (by decide) ?_
      exact sd_iret (v := 3) C hr hlk h ⟨(show (3 : Int32) = sp_cd [xIA, xNS, xIS] xIS by decide +kernel).trans (congrArg (sp_cd [xIA, xNS, xIS]) hE.symm), v9, fo, rfl, fun z => absurd (hE.symm.trans z) (by decide)⟩ d_L_again_25
  refine W.widen (k := 1) (n := 6) (by decide) (by decide) ?_
  obtain ⟨hS, rfl, v9, rfl⟩ := hq
  have h := sd_world h (ws' := sd_d1 dk qa qh qs ++ sd_dA k3 qa ((sp_again o x y z).2.2) ++ sd_H k3 qh (sS_u (sp_again o x y z).2.2) ++ sd_H k3 qs v9 ++ [(ox, .inl (k3.2.2, 1, .inr (.inl fo)))]) (by simp only [sd_D2, sd_D3, sd_D4, List.append_assoc, List.nil_append, List.append_nil])
  refine sd_last C h 24 2 (i := 0) (ws' := sd_d1 dk qa qh qs ++ sd_dA k3 qa ((sp_again o x y z).2.2) ++ sd_H k3 qh (sS_u (sp_again o x y z).2.2) ++ sd_H k3 qs v9 ++ [(ox, .inl (k3.2.2, 1, .inr (.inl (vp_updL fo 0 ((sp_again o x y z).2.1)))))]) rfl rfl (by decide) (by decide) rfl d_L_again_10 (fun H locs h => ?_)
  refine lv_goto (tgt := 26) C.1 C.2.1 d_L_again_11 (by decide) ?_
  refine lv_iconst (v := 0) C.1 C.2.1 d_L_again_26 (by decide) ?_
  exact sd_iret (v := 0) C hr hlk h ⟨(show (0 : Int32) = sp_cd [xIA, xNS, xIS] "" by decide +kernel).trans (congrArg (sp_cd [xIA, xNS, xIS]) hS.symm), v9, (vp_updL fo 0 ((sp_again o x y z).2.1)), rfl, fun _ => rfl⟩ d_L_again_27

set_option maxHeartbeats 4000000 in
set_option maxRecDepth 100000 in
theorem k_L_collect (l : Launch) (hst : l.stackTraces = false) (D : va_G) (k3 : ClassId × ClassId × ClassId) (sz : Nat) (dk : Nat) (qa : Nat → Nat) (qh : Nat → Nat) (qs : Nat → Nat) (o : sd_S) (v : sd_HS) (ox : Nat) (fo : Nat → Int64) (x : Int32) (ho : sS_ok o) : Met l y_L_collect (Cond.codeWith y_L_collect c_L_collect 4 (some FieldType.int) [(0, 9, 12, 13), (0, 9, 15, 15)] :: sd_all) ({ frames := 8, cells := 1, slots := 6, locals := 124 }) (sd_Px D (sd_t3 k3) [.ref dk, .int x, .ref ox] sz (sd_d1 dk qa qh qs ++ sd_dA k3 qa o ++ sd_H k3 qh (sS_u o) ++ sd_H k3 qs v ++ [(ox, .inl (k3.2.2, 1, .inr (.inl fo)))])) (sd_Qi D (sd_t3 k3) (va_A (sd_d1 dk qa qh qs ++ sd_dA k3 qa o ++ sd_H k3 qh (sS_u o) ++ sd_H k3 qs v ++ [(ox, .inl (k3.2.2, 1, .inr (.inl fo)))]) sz) (fun r w => r = sp_cd [xIA, xUO] (sp_collect o x).1 ∧ ∃ (v9 : sd_HS) (fo9 : Nat → Int64), w = sd_D4 k3 dk qa qh qs (sp_collect o x).2.2 v9 ++ [(ox, .inl (k3.2.2, 1, .inr (.inl fo9)))] ∧ ((sp_collect o x).1 = "" → fo9 0 = (sp_collect o x).2.1.toInt32.toInt64))) 1 6 (va_A (sd_d1 dk qa qh qs ++ sd_dA k3 qa o ++ sd_H k3 qh (sS_u o) ++ sd_H k3 qs v ++ [(ox, .inl (k3.2.2, 1, .inr (.inl fo)))]) sz) := by
  refine sd_metw (cc := c_L_collect) (maxL := 4) (ret := some .int) (by decide) (Nat.le_of_ble_eq_true rfl) (fun p e s m below meth c C hr hlk htb hz h ls hl => ?_)
  generalize va_A (sd_d1 dk qa qh qs ++ sd_dA k3 qa o ++ sd_H k3 qh (sS_u o) ++ sd_H k3 qs v ++ [(ox, .inl (k3.2.2, 1, .inr (.inl fo)))]) sz = A at h hz ⊢
  have hl : lv_has ls 4 [(0, .ref dk), (1, .int x), (2, .ref ox)] := hl
  generalize hH : s.heap = H at h ⊢
  refine lv_aload_n C.1 C.2.1 d_L_collect_0 rfl (lv_at hl 2 rfl) ?_
  refine lv_iconst (v := 0) C.1 C.2.1 d_L_collect_1 (by decide) ?_
  refine lv_aload_n C.1 C.2.1 d_L_collect_2 rfl (lv_at hl 0 rfl) ?_
  refine lv_iload_n C.1 C.2.1 d_L_collect_3 rfl (lv_at hl 1 rfl) ?_
  have h := sd_world h (ws' := ([]) ++ (sd_d1 dk qa qh qs ++ sd_dA k3 qa o ++ sd_H k3 qh (sS_u o)) ++ (sd_H k3 qs v ++ [(ox, .inl (k3.2.2, 1, .inr (.inl fo)))])) (by simp only [sd_D2, sd_D3, sd_D4, List.append_assoc, List.nil_append, List.append_nil])
  refine sd_xcalli h (vx_runV (As := [.int x]) (rest := [.int 0, .ref ox]) C (k_D_collect l hst D k3 H.size dk qa qh qs o x ho) (sd_cwV 1 C.2.2.2.2 tb_446 tb_447 tb_448 tb_21 tb_449 rfl rfl (by decide +kernel) ⟨Nat.le_of_ble_eq_true rfl, Nat.le_of_ble_eq_true rfl⟩) (sd_preVx h hz (q0 := 0) (T := T_D) (N := 3) rfl rfl) rfl rfl hl.1 rfl (lv_room (Nat.le_of_ble_eq_true rfl)) d_L_collect_4 ⟨Nat.le_of_ble_eq_true rfl, Nat.le_of_ble_eq_true rfl⟩) (fun E ce q9 w1 H locs hq h hce hcv hcl => ?_) (fun r w1 H locs hq h => ?_)
  · obtain ⟨hE, hne, rfl⟩ := hq
    have h := sd_world h (ws' := sd_d1 dk qa qh qs ++ sd_dA k3 qa ((sp_collect o x).2.2) ++ sd_H k3 qh (sS_u (sp_collect o x).2.2) ++ sd_H k3 qs v ++ [(ox, .inl (k3.2.2, 1, .inr (.inl fo)))]) (by simp only [sd_D2, sd_D3, sd_D4, List.append_assoc, List.nil_append, List.append_nil])
    rcases E_collect o x with e | e | e
    · exact absurd (hE.symm.trans e) hne
    · have e : E = xIA := hE.symm.trans e
      subst e
      refine vx_catch (own := "StockDeskLaw") (name := xIA) (E := xIA) C.2.2.2.1 [] (⟨0, 9, 12, 13⟩ : ExceptionTableEntry) [(⟨0, 9, 15, 15⟩ : ExceptionTableEntry)] (htb.trans rfl) (fun _ z => absurd z List.not_mem_nil) (by decide) (by decide) (C.2.2.2.2 _ (List.mem_cons_of_mem _ tb_179)) (va_Nw.use (w := Cond.castable xIA xIA) rfl (hz.2.2.2.1 _ (by decide +kernel))) hce hcv hcl ?_
      refine W.widen (k := 1) (n := 6) (by decide) (by decide) ?_
      refine lv_astore_n (lv' := [(3, .ref q9), (0, .ref dk), (1, .int x), (2, .ref ox)]) C.1 C.2.1 d_L_collect_12 rfl hl (by decide) rfl (fun ls hl => ?_)
      refine lv_iconst (v := 1) C.1 C.2.1 d_L_collect_13 (by decide) ?_
      exact sd_iret (v := 1) C hr hlk h ⟨(show (1 : Int32) = sp_cd [xIA, xUO] xIA by decide +kernel).trans (congrArg (sp_cd [xIA, xUO]) hE.symm), v, fo, rfl, fun z => absurd (hE.symm.trans z) (by decide)⟩ d_L_collect_14
    · have e : E = xUO := hE.symm.trans e
      subst e
      refine vx_catch (own := "StockDeskLaw") (name := xUO) (E := xUO) C.2.2.2.1 [(⟨0, 9, 12, 13⟩ : ExceptionTableEntry)] (⟨0, 9, 15, 15⟩ : ExceptionTableEntry) [] (htb.trans rfl) (List.forall_mem_cons.mpr ⟨Or.inr ⟨by decide, xIA, (C.2.2.2.2 _ (List.mem_cons_of_mem _ tb_179)), hz.2.2.2.2 (xUO, xIA) (by decide +kernel)⟩, (fun _ z => absurd z List.not_mem_nil)⟩) (by decide) (by decide) (C.2.2.2.2 _ (List.mem_cons_of_mem _ tb_180)) (va_Nw.use (w := Cond.castable xUO xUO) rfl (hz.2.2.2.1 _ (by decide +kernel))) hce hcv hcl ?_
      refine W.widen (k := 1) (n := 6) (by decide) (by decide) ?_
      refine lv_astore_n (lv' := [(3, .ref q9), (0, .ref dk), (1, .int x), (2, .ref ox)]) C.1 C.2.1 d_L_collect_15 rfl hl (by decide) rfl (fun ls hl => ?_)
      refine lv_iconst (v := 2) C.1 C.2.1 d_L_collect_16 (by decide) ?_
      exact sd_iret (v := 2) C hr hlk h ⟨(show (2 : Int32) = sp_cd [xIA, xUO] xUO by decide +kernel).trans (congrArg (sp_cd [xIA, xUO]) hE.symm), v, fo, rfl, fun z => absurd (hE.symm.trans z) (by decide)⟩ d_L_collect_17
  refine W.widen (k := 1) (n := 6) (by decide) (by decide) ?_
  obtain ⟨hS, rfl, rfl⟩ := hq
  have h := sd_world h (ws' := sd_d1 dk qa qh qs ++ sd_dA k3 qa ((sp_collect o x).2.2) ++ sd_H k3 qh (sS_u (sp_collect o x).2.2) ++ sd_H k3 qs v ++ [(ox, .inl (k3.2.2, 1, .inr (.inl fo)))]) (by simp only [sd_D2, sd_D3, sd_D4, List.append_assoc, List.nil_append, List.append_nil])
  refine lv_i2l (v := ((sp_collect o x).2.1.toInt32).toInt64) C.1 C.2.1 d_L_collect_7 rfl ?_
  refine sd_last C h 24 2 (i := 0) (ws' := sd_d1 dk qa qh qs ++ sd_dA k3 qa ((sp_collect o x).2.2) ++ sd_H k3 qh (sS_u (sp_collect o x).2.2) ++ sd_H k3 qs v ++ [(ox, .inl (k3.2.2, 1, .inr (.inl (vp_updL fo 0 (((sp_collect o x).2.1.toInt32).toInt64)))))]) rfl rfl (by decide) (by decide) rfl d_L_collect_8 (fun H locs h => ?_)
  refine lv_goto (tgt := 18) C.1 C.2.1 d_L_collect_9 (by decide) ?_
  refine lv_iconst (v := 0) C.1 C.2.1 d_L_collect_18 (by decide) ?_
  exact sd_iret (v := 0) C hr hlk h ⟨(show (0 : Int32) = sp_cd [xIA, xUO] "" by decide +kernel).trans (congrArg (sp_cd [xIA, xUO]) hS.symm), v, (vp_updL fo 0 (((sp_collect o x).2.1.toInt32).toInt64)), rfl, fun _ => rfl⟩ d_L_collect_19

set_option maxHeartbeats 4000000 in
set_option maxRecDepth 100000 in
theorem k_L_back (l : Launch) (hst : l.stackTraces = false) (D : va_G) (k3 : ClassId × ClassId × ClassId) (sz : Nat) (dk : Nat) (qa : Nat → Nat) (qh : Nat → Nat) (qs : Nat → Nat) (o : sd_S) (v : sd_HS) (ox : Nat) (fo : Nat → Int64) (ho : sS_ok o) : Met l y_L_back (Cond.codeWith y_L_back c_L_back 3 (some FieldType.int) [(0, 8, 11, 38)] :: sd_all) ({ frames := 7, cells := 1, slots := 6, locals := 114 }) (sd_Px D (sd_t3 k3) [.ref dk, .ref ox] sz (sd_d1 dk qa qh qs ++ sd_dA k3 qa o ++ sd_H k3 qh (sS_u o) ++ sd_H k3 qs v ++ [(ox, .inl (k3.2.2, 1, .inr (.inl fo)))])) (sd_Qi D (sd_t3 k3) (va_A (sd_d1 dk qa qh qs ++ sd_dA k3 qa o ++ sd_H k3 qh (sS_u o) ++ sd_H k3 qs v ++ [(ox, .inl (k3.2.2, 1, .inr (.inl fo)))]) sz) (fun r w => r = sp_cd [xIS] (sp_back o).1 ∧ ∃ (v9 : sd_HS) (fo9 : Nat → Int64), w = sd_D4 k3 dk qa qh qs (sp_back o).2.2 v9 ++ [(ox, .inl (k3.2.2, 1, .inr (.inl fo9)))] ∧ ((sp_back o).1 = "" → fo9 0 = (sp_back o).2.1.toInt32.toInt64))) 1 6 (va_A (sd_d1 dk qa qh qs ++ sd_dA k3 qa o ++ sd_H k3 qh (sS_u o) ++ sd_H k3 qs v ++ [(ox, .inl (k3.2.2, 1, .inr (.inl fo)))]) sz) := by
  refine sd_metw (cc := c_L_back) (maxL := 3) (ret := some .int) (by decide) (Nat.le_of_ble_eq_true rfl) (fun p e s m below meth c C hr hlk htb hz h ls hl => ?_)
  generalize va_A (sd_d1 dk qa qh qs ++ sd_dA k3 qa o ++ sd_H k3 qh (sS_u o) ++ sd_H k3 qs v ++ [(ox, .inl (k3.2.2, 1, .inr (.inl fo)))]) sz = A at h hz ⊢
  have hl : lv_has ls 3 [(0, .ref dk), (1, .ref ox)] := hl
  generalize hH : s.heap = H at h ⊢
  refine lv_aload_n C.1 C.2.1 d_L_back_0 rfl (lv_at hl 1 rfl) ?_
  refine lv_iconst (v := 0) C.1 C.2.1 d_L_back_1 (by decide) ?_
  refine lv_aload_n C.1 C.2.1 d_L_back_2 rfl (lv_at hl 0 rfl) ?_
  have h := sd_world h (ws' := ([]) ++ (sd_d1 dk qa qh qs ++ sd_dA k3 qa o ++ sd_H k3 qh (sS_u o)) ++ (sd_H k3 qs v ++ [(ox, .inl (k3.2.2, 1, .inr (.inl fo)))])) (by simp only [sd_D2, sd_D3, sd_D4, List.append_assoc, List.nil_append, List.append_nil])
  refine sd_xcalli h (vx_runV (As := []) (rest := [.int 0, .ref ox]) C (k_D_back l hst D k3 H.size dk qa qh qs o ho) (sd_cwV 0 C.2.2.2.2 tb_453 tb_454 tb_455 tb_21 tb_456 rfl rfl (by decide +kernel) ⟨Nat.le_of_ble_eq_true rfl, Nat.le_of_ble_eq_true rfl⟩) (sd_preVx h hz (q0 := 0) (T := T_D) (N := 3) rfl rfl) rfl rfl hl.1 rfl (lv_room (Nat.le_of_ble_eq_true rfl)) d_L_back_3 ⟨Nat.le_of_ble_eq_true rfl, Nat.le_of_ble_eq_true rfl⟩) (fun E ce q9 w1 H locs hq h hce hcv hcl => ?_) (fun r w1 H locs hq h => ?_)
  · obtain ⟨hE, hne, rfl⟩ := hq
    have h := sd_world h (ws' := sd_d1 dk qa qh qs ++ sd_dA k3 qa ((sp_back o).2.2) ++ sd_H k3 qh (sS_u (sp_back o).2.2) ++ sd_H k3 qs v ++ [(ox, .inl (k3.2.2, 1, .inr (.inl fo)))]) (by simp only [sd_D2, sd_D3, sd_D4, List.append_assoc, List.nil_append, List.append_nil])
    rcases E_back o with e | e
    · exact absurd (hE.symm.trans e) hne
    · have e : E = xIS := hE.symm.trans e
      subst e
      refine vx_catch (own := "StockDeskLaw") (name := xIS) (E := xIS) C.2.2.2.1 [] (⟨0, 8, 11, 38⟩ : ExceptionTableEntry) [] (htb.trans rfl) (fun _ z => absurd z List.not_mem_nil) (by decide) (by decide) (C.2.2.2.2 _ (List.mem_cons_of_mem _ tb_402)) (va_Nw.use (w := Cond.castable xIS xIS) rfl (hz.2.2.2.1 _ (by decide +kernel))) hce hcv hcl ?_
      refine W.widen (k := 1) (n := 6) (by decide) (by decide) ?_
      refine lv_astore_n (lv' := [(2, .ref q9), (0, .ref dk), (1, .ref ox)]) C.1 C.2.1 d_L_back_11 rfl hl (by decide) rfl (fun ls hl => ?_)
      refine lv_iconst (v := 1) C.1 C.2.1 d_L_back_12 (by decide) ?_
      exact sd_iret (v := 1) C hr hlk h ⟨(show (1 : Int32) = sp_cd [xIS] xIS by decide +kernel).trans (congrArg (sp_cd [xIS]) hE.symm), v, fo, rfl, fun z => absurd (hE.symm.trans z) (by decide)⟩ d_L_back_13
  refine W.widen (k := 1) (n := 6) (by decide) (by decide) ?_
  obtain ⟨hS, rfl, rfl⟩ := hq
  have h := sd_world h (ws' := sd_d1 dk qa qh qs ++ sd_dA k3 qa ((sp_back o).2.2) ++ sd_H k3 qh (sS_u (sp_back o).2.2) ++ sd_H k3 qs v ++ [(ox, .inl (k3.2.2, 1, .inr (.inl fo)))]) (by simp only [sd_D2, sd_D3, sd_D4, List.append_assoc, List.nil_append, List.append_nil])
  refine lv_i2l (v := ((sp_back o).2.1.toInt32).toInt64) C.1 C.2.1 d_L_back_6 rfl ?_
  refine sd_last C h 24 2 (i := 0) (ws' := sd_d1 dk qa qh qs ++ sd_dA k3 qa ((sp_back o).2.2) ++ sd_H k3 qh (sS_u (sp_back o).2.2) ++ sd_H k3 qs v ++ [(ox, .inl (k3.2.2, 1, .inr (.inl (vp_updL fo 0 (((sp_back o).2.1.toInt32).toInt64)))))]) rfl rfl (by decide) (by decide) rfl d_L_back_7 (fun H locs h => ?_)
  refine lv_goto (tgt := 14) C.1 C.2.1 d_L_back_8 (by decide) ?_
  refine lv_iconst (v := 0) C.1 C.2.1 d_L_back_14 (by decide) ?_
  exact sd_iret (v := 0) C hr hlk h ⟨(show (0 : Int32) = sp_cd [xIS] "" by decide +kernel).trans (congrArg (sp_cd [xIS]) hS.symm), v, (vp_updL fo 0 (((sp_back o).2.1.toInt32).toInt64)), rfl, fun _ => rfl⟩ d_L_back_15

set_option maxHeartbeats 4000000 in
set_option maxRecDepth 100000 in
theorem k_L_told (l : Launch) (hst : l.stackTraces = false) (D : va_G) (k3 : ClassId × ClassId × ClassId) (sz : Nat) (dk : Nat) (qa : Nat → Nat) (qh : Nat → Nat) (qs : Nat → Nat) (o : sd_S) (v : sd_HS) (ox : Nat) (fo : Nat → Int64) (x : Int32) (ho : sS_ok o) : Met l y_L_told (Cond.codeWith y_L_told c_L_told 4 (some FieldType.int) [(0, 9, 12, 13)] :: sd_all) ({ frames := 7, cells := 1, slots := 6, locals := 103 }) (sd_Px D (sd_t3 k3) [.ref dk, .int x, .ref ox] sz (sd_d1 dk qa qh qs ++ sd_dA k3 qa o ++ sd_H k3 qh (sS_u o) ++ sd_H k3 qs v ++ [(ox, .inl (k3.2.2, 1, .inr (.inl fo)))])) (sd_Qi D (sd_t3 k3) (va_A (sd_d1 dk qa qh qs ++ sd_dA k3 qa o ++ sd_H k3 qh (sS_u o) ++ sd_H k3 qs v ++ [(ox, .inl (k3.2.2, 1, .inr (.inl fo)))]) sz) (fun r w => r = sp_cd [xIA] (sp_told o x).1 ∧ ∃ (v9 : sd_HS) (fo9 : Nat → Int64), w = sd_D4 k3 dk qa qh qs (sp_told o x).2.2 v9 ++ [(ox, .inl (k3.2.2, 1, .inr (.inl fo9)))] ∧ ((sp_told o x).1 = "" → fo9 0 = (sp_told o x).2.1.toInt32.toInt64))) 1 6 (va_A (sd_d1 dk qa qh qs ++ sd_dA k3 qa o ++ sd_H k3 qh (sS_u o) ++ sd_H k3 qs v ++ [(ox, .inl (k3.2.2, 1, .inr (.inl fo)))]) sz) := by
  refine sd_metw (cc := c_L_told) (maxL := 4) (ret := some .int) (by decide) (Nat.le_of_ble_eq_true rfl) (fun p e s m below meth c C hr hlk htb hz h ls hl => ?_)
  generalize va_A (sd_d1 dk qa qh qs ++ sd_dA k3 qa o ++ sd_H k3 qh (sS_u o) ++ sd_H k3 qs v ++ [(ox, .inl (k3.2.2, 1, .inr (.inl fo)))]) sz = A at h hz ⊢
  have hl : lv_has ls 4 [(0, .ref dk), (1, .int x), (2, .ref ox)] := hl
  generalize hH : s.heap = H at h ⊢
  refine lv_aload_n C.1 C.2.1 d_L_told_0 rfl (lv_at hl 2 rfl) ?_
  refine lv_iconst (v := 0) C.1 C.2.1 d_L_told_1 (by decide) ?_
  refine lv_aload_n C.1 C.2.1 d_L_told_2 rfl (lv_at hl 0 rfl) ?_
  refine lv_iload_n C.1 C.2.1 d_L_told_3 rfl (lv_at hl 1 rfl) ?_
  have h := sd_world h (ws' := ([]) ++ (sd_d1 dk qa qh qs ++ sd_dA k3 qa o ++ sd_H k3 qh (sS_u o)) ++ (sd_H k3 qs v ++ [(ox, .inl (k3.2.2, 1, .inr (.inl fo)))])) (by simp only [sd_D2, sd_D3, sd_D4, List.append_assoc, List.nil_append, List.append_nil])
  refine sd_xcalli h (vx_runV (As := [.int x]) (rest := [.int 0, .ref ox]) C (k_D_told l hst D k3 H.size dk qa qh qs o x ho) (sd_cwV 1 C.2.2.2.2 tb_465 tb_466 tb_467 tb_21 tb_468 rfl rfl (by decide +kernel) ⟨Nat.le_of_ble_eq_true rfl, Nat.le_of_ble_eq_true rfl⟩) (sd_preVx h hz (q0 := 0) (T := T_D) (N := 3) rfl rfl) rfl rfl hl.1 rfl (lv_room (Nat.le_of_ble_eq_true rfl)) d_L_told_4 ⟨Nat.le_of_ble_eq_true rfl, Nat.le_of_ble_eq_true rfl⟩) (fun E ce q9 w1 H locs hq h hce hcv hcl => ?_) (fun r w1 H locs hq h => ?_)
  · obtain ⟨hE, hne, rfl⟩ := hq
    have h := sd_world h (ws' := sd_d1 dk qa qh qs ++ sd_dA k3 qa ((sp_told o x).2.2) ++ sd_H k3 qh (sS_u (sp_told o x).2.2) ++ sd_H k3 qs v ++ [(ox, .inl (k3.2.2, 1, .inr (.inl fo)))]) (by simp only [sd_D2, sd_D3, sd_D4, List.append_assoc, List.nil_append, List.append_nil])
    rcases E_told o x with e | e
    · exact absurd (hE.symm.trans e) hne
    · have e : E = xIA := hE.symm.trans e
      subst e
      refine vx_catch (own := "StockDeskLaw") (name := xIA) (E := xIA) C.2.2.2.1 [] (⟨0, 9, 12, 13⟩ : ExceptionTableEntry) [] (htb.trans rfl) (fun _ z => absurd z List.not_mem_nil) (by decide) (by decide) (C.2.2.2.2 _ (List.mem_cons_of_mem _ tb_179)) (va_Nw.use (w := Cond.castable xIA xIA) rfl (hz.2.2.2.1 _ (by decide +kernel))) hce hcv hcl ?_
      refine W.widen (k := 1) (n := 6) (by decide) (by decide) ?_
      refine lv_astore_n (lv' := [(3, .ref q9), (0, .ref dk), (1, .int x), (2, .ref ox)]) C.1 C.2.1 d_L_told_12 rfl hl (by decide) rfl (fun ls hl => ?_)
      refine lv_iconst (v := 1) C.1 C.2.1 d_L_told_13 (by decide) ?_
      exact sd_iret (v := 1) C hr hlk h ⟨(show (1 : Int32) = sp_cd [xIA] xIA by decide +kernel).trans (congrArg (sp_cd [xIA]) hE.symm), v, fo, rfl, fun z => absurd (hE.symm.trans z) (by decide)⟩ d_L_told_14
  refine W.widen (k := 1) (n := 6) (by decide) (by decide) ?_
  obtain ⟨hS, rfl, rfl⟩ := hq
  have h := sd_world h (ws' := sd_d1 dk qa qh qs ++ sd_dA k3 qa ((sp_told o x).2.2) ++ sd_H k3 qh (sS_u (sp_told o x).2.2) ++ sd_H k3 qs v ++ [(ox, .inl (k3.2.2, 1, .inr (.inl fo)))]) (by simp only [sd_D2, sd_D3, sd_D4, List.append_assoc, List.nil_append, List.append_nil])
  refine lv_i2l (v := ((sp_told o x).2.1.toInt32).toInt64) C.1 C.2.1 d_L_told_7 rfl ?_
  refine sd_last C h 24 2 (i := 0) (ws' := sd_d1 dk qa qh qs ++ sd_dA k3 qa ((sp_told o x).2.2) ++ sd_H k3 qh (sS_u (sp_told o x).2.2) ++ sd_H k3 qs v ++ [(ox, .inl (k3.2.2, 1, .inr (.inl (vp_updL fo 0 (((sp_told o x).2.1.toInt32).toInt64)))))]) rfl rfl (by decide) (by decide) rfl d_L_told_8 (fun H locs h => ?_)
  refine lv_goto (tgt := 15) C.1 C.2.1 d_L_told_9 (by decide) ?_
  refine lv_iconst (v := 0) C.1 C.2.1 d_L_told_15 (by decide) ?_
  exact sd_iret (v := 0) C hr hlk h ⟨(show (0 : Int32) = sp_cd [xIA] "" by decide +kernel).trans (congrArg (sp_cd [xIA]) hS.symm), v, (vp_updL fo 0 (((sp_told o x).2.1.toInt32).toInt64)), rfl, fun _ => rfl⟩ d_L_told_16

set_option maxHeartbeats 4000000 in
set_option maxRecDepth 100000 in
theorem k_L_worth (l : Launch) (hst : l.stackTraces = false) (D : va_G) (k3 : ClassId × ClassId × ClassId) (sz : Nat) (dk : Nat) (qa : Nat → Nat) (qh : Nat → Nat) (qs : Nat → Nat) (o : sd_S) (v : sd_HS) (ox : Nat) (fo : Nat → Int64) (x : Int32) (ho : sS_ok o) : Met l y_L_worth (Cond.codeWith y_L_worth c_L_worth 4 (some FieldType.int) [(0, 8, 11, 13)] :: sd_all) ({ frames := 9, cells := 1, slots := 6, locals := 144 }) (sd_Px D (sd_t3 k3) [.ref dk, .int x, .ref ox] sz (sd_d1 dk qa qh qs ++ sd_dA k3 qa o ++ sd_H k3 qh (sS_u o) ++ sd_H k3 qs v ++ [(ox, .inl (k3.2.2, 1, .inr (.inl fo)))])) (sd_Qi D (sd_t3 k3) (va_A (sd_d1 dk qa qh qs ++ sd_dA k3 qa o ++ sd_H k3 qh (sS_u o) ++ sd_H k3 qs v ++ [(ox, .inl (k3.2.2, 1, .inr (.inl fo)))]) sz) (fun r w => r = sp_cd [xIA] (sp_worth o x).1 ∧ ∃ (v9 : sd_HS) (fo9 : Nat → Int64), w = sd_D4 k3 dk qa qh qs (sp_worth o x).2.2 v9 ++ [(ox, .inl (k3.2.2, 1, .inr (.inl fo9)))] ∧ ((sp_worth o x).1 = "" → fo9 0 = (sp_worth o x).2.1))) 1 6 (va_A (sd_d1 dk qa qh qs ++ sd_dA k3 qa o ++ sd_H k3 qh (sS_u o) ++ sd_H k3 qs v ++ [(ox, .inl (k3.2.2, 1, .inr (.inl fo)))]) sz) := by
  refine sd_metw (cc := c_L_worth) (maxL := 4) (ret := some .int) (by decide) (Nat.le_of_ble_eq_true rfl) (fun p e s m below meth c C hr hlk htb hz h ls hl => ?_)
  generalize va_A (sd_d1 dk qa qh qs ++ sd_dA k3 qa o ++ sd_H k3 qh (sS_u o) ++ sd_H k3 qs v ++ [(ox, .inl (k3.2.2, 1, .inr (.inl fo)))]) sz = A at h hz ⊢
  have hl : lv_has ls 4 [(0, .ref dk), (1, .int x), (2, .ref ox)] := hl
  generalize hH : s.heap = H at h ⊢
  refine lv_aload_n C.1 C.2.1 d_L_worth_0 rfl (lv_at hl 2 rfl) ?_
  refine lv_iconst (v := 0) C.1 C.2.1 d_L_worth_1 (by decide) ?_
  refine lv_aload_n C.1 C.2.1 d_L_worth_2 rfl (lv_at hl 0 rfl) ?_
  refine lv_iload_n C.1 C.2.1 d_L_worth_3 rfl (lv_at hl 1 rfl) ?_
  have h := sd_world h (ws' := ([]) ++ (sd_d1 dk qa qh qs ++ sd_dA k3 qa o ++ sd_H k3 qh (sS_u o)) ++ (sd_H k3 qs v ++ [(ox, .inl (k3.2.2, 1, .inr (.inl fo)))])) (by simp only [sd_D2, sd_D3, sd_D4, List.append_assoc, List.nil_append, List.append_nil])
  refine sd_xcalll h (vx_runV (As := [.int x]) (rest := [.int 0, .ref ox]) C (k_D_worth l hst D k3 H.size dk qa qh qs o x ho) (sd_cwV 1 C.2.2.2.2 tb_473 tb_474 tb_475 tb_21 tb_476 rfl rfl (by decide +kernel) ⟨Nat.le_of_ble_eq_true rfl, Nat.le_of_ble_eq_true rfl⟩) (sd_preVx h hz (q0 := 0) (T := T_D) (N := 3) rfl rfl) rfl rfl hl.1 rfl (lv_room (Nat.le_of_ble_eq_true rfl)) d_L_worth_4 ⟨Nat.le_of_ble_eq_true rfl, Nat.le_of_ble_eq_true rfl⟩) (fun E ce q9 w1 H locs hq h hce hcv hcl => ?_) (fun r w1 H locs hq h => ?_)
  · obtain ⟨hE, hne, rfl⟩ := hq
    have h := sd_world h (ws' := sd_d1 dk qa qh qs ++ sd_dA k3 qa ((sp_worth o x).2.2) ++ sd_H k3 qh (sS_u (sp_worth o x).2.2) ++ sd_H k3 qs v ++ [(ox, .inl (k3.2.2, 1, .inr (.inl fo)))]) (by simp only [sd_D2, sd_D3, sd_D4, List.append_assoc, List.nil_append, List.append_nil])
    rcases E_worth o x with e | e
    · exact absurd (hE.symm.trans e) hne
    · have e : E = xIA := hE.symm.trans e
      subst e
      refine vx_catch (own := "StockDeskLaw") (name := xIA) (E := xIA) C.2.2.2.1 [] (⟨0, 8, 11, 13⟩ : ExceptionTableEntry) [] (htb.trans rfl) (fun _ z => absurd z List.not_mem_nil) (by decide) (by decide) (C.2.2.2.2 _ (List.mem_cons_of_mem _ tb_179)) (va_Nw.use (w := Cond.castable xIA xIA) rfl (hz.2.2.2.1 _ (by decide +kernel))) hce hcv hcl ?_
      refine W.widen (k := 1) (n := 6) (by decide) (by decide) ?_
      refine lv_astore_n (lv' := [(3, .ref q9), (0, .ref dk), (1, .int x), (2, .ref ox)]) C.1 C.2.1 d_L_worth_11 rfl hl (by decide) rfl (fun ls hl => ?_)
      refine lv_iconst (v := 1) C.1 C.2.1 d_L_worth_12 (by decide) ?_
      exact sd_iret (v := 1) C hr hlk h ⟨(show (1 : Int32) = sp_cd [xIA] xIA by decide +kernel).trans (congrArg (sp_cd [xIA]) hE.symm), v, fo, rfl, fun z => absurd (hE.symm.trans z) (by decide)⟩ d_L_worth_13
  refine W.widen (k := 1) (n := 6) (by decide) (by decide) ?_
  obtain ⟨hS, rfl, rfl⟩ := hq
  have h := sd_world h (ws' := sd_d1 dk qa qh qs ++ sd_dA k3 qa ((sp_worth o x).2.2) ++ sd_H k3 qh (sS_u (sp_worth o x).2.2) ++ sd_H k3 qs v ++ [(ox, .inl (k3.2.2, 1, .inr (.inl fo)))]) (by simp only [sd_D2, sd_D3, sd_D4, List.append_assoc, List.nil_append, List.append_nil])
  refine sd_last C h 24 2 (i := 0) (ws' := sd_d1 dk qa qh qs ++ sd_dA k3 qa ((sp_worth o x).2.2) ++ sd_H k3 qh (sS_u (sp_worth o x).2.2) ++ sd_H k3 qs v ++ [(ox, .inl (k3.2.2, 1, .inr (.inl (vp_updL fo 0 ((sp_worth o x).2.1)))))]) rfl rfl (by decide) (by decide) rfl d_L_worth_7 (fun H locs h => ?_)
  refine lv_goto (tgt := 14) C.1 C.2.1 d_L_worth_8 (by decide) ?_
  refine lv_iconst (v := 0) C.1 C.2.1 d_L_worth_14 (by decide) ?_
  exact sd_iret (v := 0) C hr hlk h ⟨(show (0 : Int32) = sp_cd [xIA] "" by decide +kernel).trans (congrArg (sp_cd [xIA]) hS.symm), v, (vp_updL fo 0 ((sp_worth o x).2.1)), rfl, fun _ => rfl⟩ d_L_worth_15

set_option maxHeartbeats 4000000 in
set_option maxRecDepth 100000 in
theorem k_L_uses (l : Launch) (hst : l.stackTraces = false) (D : va_G) (k3 : ClassId × ClassId × ClassId) (sz : Nat) (dk : Nat) (qa : Nat → Nat) (qh : Nat → Nat) (qs : Nat → Nat) (o : sd_S) (v : sd_HS) (ox : Nat) (fo : Nat → Int64) (x : Int32) (y : Int32) (ho : sS_ok o) : Met l y_L_uses (Cond.codeWith y_L_uses c_L_uses 5 (some FieldType.int) [(0, 10, 13, 21), (0, 10, 17, 13)] :: sd_all) ({ frames := 9, cells := 1, slots := 6, locals := 145 }) (sd_Px D (sd_t3 k3) [.ref dk, .int x, .int y, .ref ox] sz (sd_d1 dk qa qh qs ++ sd_dA k3 qa o ++ sd_H k3 qh (sS_u o) ++ sd_H k3 qs v ++ [(ox, .inl (k3.2.2, 1, .inr (.inl fo)))])) (sd_Qi D (sd_t3 k3) (va_A (sd_d1 dk qa qh qs ++ sd_dA k3 qa o ++ sd_H k3 qh (sS_u o) ++ sd_H k3 qs v ++ [(ox, .inl (k3.2.2, 1, .inr (.inl fo)))]) sz) (fun r w => r = sp_cd [xNS, xIA] (sp_uses o x y).1 ∧ ∃ (v9 : sd_HS) (fo9 : Nat → Int64), w = sd_D4 k3 dk qa qh qs (sp_uses o x y).2.2 v9 ++ [(ox, .inl (k3.2.2, 1, .inr (.inl fo9)))] ∧ ((sp_uses o x y).1 = "" → fo9 0 = (sp_uses o x y).2.1.toInt32.toInt64))) 1 6 (va_A (sd_d1 dk qa qh qs ++ sd_dA k3 qa o ++ sd_H k3 qh (sS_u o) ++ sd_H k3 qs v ++ [(ox, .inl (k3.2.2, 1, .inr (.inl fo)))]) sz) := by
  refine sd_metw (cc := c_L_uses) (maxL := 5) (ret := some .int) (by decide) (Nat.le_of_ble_eq_true rfl) (fun p e s m below meth c C hr hlk htb hz h ls hl => ?_)
  generalize va_A (sd_d1 dk qa qh qs ++ sd_dA k3 qa o ++ sd_H k3 qh (sS_u o) ++ sd_H k3 qs v ++ [(ox, .inl (k3.2.2, 1, .inr (.inl fo)))]) sz = A at h hz ⊢
  have hl : lv_has ls 5 [(0, .ref dk), (1, .int x), (2, .int y), (3, .ref ox)] := hl
  generalize hH : s.heap = H at h ⊢
  refine lv_aload_n C.1 C.2.1 d_L_uses_0 rfl (lv_at hl 3 rfl) ?_
  refine lv_iconst (v := 0) C.1 C.2.1 d_L_uses_1 (by decide) ?_
  refine lv_aload_n C.1 C.2.1 d_L_uses_2 rfl (lv_at hl 0 rfl) ?_
  refine lv_iload_n C.1 C.2.1 d_L_uses_3 rfl (lv_at hl 1 rfl) ?_
  refine lv_iload_n C.1 C.2.1 d_L_uses_4 rfl (lv_at hl 2 rfl) ?_
  have h := sd_world h (ws' := ([]) ++ (sd_d1 dk qa qh qs ++ sd_dA k3 qa o ++ sd_H k3 qh (sS_u o)) ++ (sd_H k3 qs v ++ [(ox, .inl (k3.2.2, 1, .inr (.inl fo)))])) (by simp only [sd_D2, sd_D3, sd_D4, List.append_assoc, List.nil_append, List.append_nil])
  refine sd_xcalli h (vx_runV (As := [.int x, .int y]) (rest := [.int 0, .ref ox]) C (k_D_uses l hst D k3 H.size dk qa qh qs o x y ho) (sd_cwV 2 C.2.2.2.2 tb_484 tb_485 tb_486 tb_21 tb_487 rfl rfl (by decide +kernel) ⟨Nat.le_of_ble_eq_true rfl, Nat.le_of_ble_eq_true rfl⟩) (sd_preVx h hz (q0 := 0) (T := T_D) (N := 3) rfl rfl) rfl rfl hl.1 rfl (lv_room (Nat.le_of_ble_eq_true rfl)) d_L_uses_5 ⟨Nat.le_of_ble_eq_true rfl, Nat.le_of_ble_eq_true rfl⟩) (fun E ce q9 w1 H locs hq h hce hcv hcl => ?_) (fun r w1 H locs hq h => ?_)
  · obtain ⟨hE, hne, rfl⟩ := hq
    have h := sd_world h (ws' := sd_d1 dk qa qh qs ++ sd_dA k3 qa ((sp_uses o x y).2.2) ++ sd_H k3 qh (sS_u (sp_uses o x y).2.2) ++ sd_H k3 qs v ++ [(ox, .inl (k3.2.2, 1, .inr (.inl fo)))]) (by simp only [sd_D2, sd_D3, sd_D4, List.append_assoc, List.nil_append, List.append_nil])
    rcases E_uses o x y with e | e | e
    · exact absurd (hE.symm.trans e) hne
    · have e : E = xNS := hE.symm.trans e
      subst e
      refine vx_catch (own := "StockDeskLaw") (name := xNS) (E := xNS) C.2.2.2.1 [] (⟨0, 10, 13, 21⟩ : ExceptionTableEntry) [(⟨0, 10, 17, 13⟩ : ExceptionTableEntry)] (htb.trans rfl) (fun _ z => absurd z List.not_mem_nil) (by decide) (by decide) (C.2.2.2.2 _ (List.mem_cons_of_mem _ tb_341)) (va_Nw.use (w := Cond.castable xNS xNS) rfl (hz.2.2.2.1 _ (by decide +kernel))) hce hcv hcl ?_
      refine W.widen (k := 1) (n := 6) (by decide) (by decide) ?_
      refine lv_astore (lv' := [(4, .ref q9), (0, .ref dk), (1, .int x), (2, .int y), (3, .ref ox)]) C.1 C.2.1 d_L_uses_13 hl (by decide) rfl (fun ls hl => ?_)
      refine lv_iconst (v := 1) C.1 C.2.1 d_L_uses_15 (by decide) ?_
      exact sd_iret (v := 1) C hr hlk h ⟨(show (1 : Int32) = sp_cd [xNS, xIA] xNS by decide +kernel).trans (congrArg (sp_cd [xNS, xIA]) hE.symm), v, fo, rfl, fun z => absurd (hE.symm.trans z) (by decide)⟩ d_L_uses_16
    · have e : E = xIA := hE.symm.trans e
      subst e
      refine vx_catch (own := "StockDeskLaw") (name := xIA) (E := xIA) C.2.2.2.1 [(⟨0, 10, 13, 21⟩ : ExceptionTableEntry)] (⟨0, 10, 17, 13⟩ : ExceptionTableEntry) [] (htb.trans rfl) (List.forall_mem_cons.mpr ⟨Or.inr ⟨by decide, xNS, (C.2.2.2.2 _ (List.mem_cons_of_mem _ tb_341)), hz.2.2.2.2 (xIA, xNS) (by decide +kernel)⟩, (fun _ z => absurd z List.not_mem_nil)⟩) (by decide) (by decide) (C.2.2.2.2 _ (List.mem_cons_of_mem _ tb_179)) (va_Nw.use (w := Cond.castable xIA xIA) rfl (hz.2.2.2.1 _ (by decide +kernel))) hce hcv hcl ?_
      refine W.widen (k := 1) (n := 6) (by decide) (by decide) ?_
      refine lv_astore (lv' := [(4, .ref q9), (0, .ref dk), (1, .int x), (2, .int y), (3, .ref ox)]) C.1 C.2.1 d_L_uses_17 hl (by decide) rfl (fun ls hl => ?_)
      refine lv_iconst (v := 2) C.1 C.2.1 d_L_uses_19 (by decide) ?_
      exact sd_iret (v := 2) C hr hlk h ⟨(show (2 : Int32) = sp_cd [xNS, xIA] xIA by decide +kernel).trans (congrArg (sp_cd [xNS, xIA]) hE.symm), v, fo, rfl, fun z => absurd (hE.symm.trans z) (by decide)⟩ d_L_uses_20
  refine W.widen (k := 1) (n := 6) (by decide) (by decide) ?_
  obtain ⟨hS, rfl, rfl⟩ := hq
  have h := sd_world h (ws' := sd_d1 dk qa qh qs ++ sd_dA k3 qa ((sp_uses o x y).2.2) ++ sd_H k3 qh (sS_u (sp_uses o x y).2.2) ++ sd_H k3 qs v ++ [(ox, .inl (k3.2.2, 1, .inr (.inl fo)))]) (by simp only [sd_D2, sd_D3, sd_D4, List.append_assoc, List.nil_append, List.append_nil])
  refine lv_i2l (v := ((sp_uses o x y).2.1.toInt32).toInt64) C.1 C.2.1 d_L_uses_8 rfl ?_
  refine sd_last C h 24 2 (i := 0) (ws' := sd_d1 dk qa qh qs ++ sd_dA k3 qa ((sp_uses o x y).2.2) ++ sd_H k3 qh (sS_u (sp_uses o x y).2.2) ++ sd_H k3 qs v ++ [(ox, .inl (k3.2.2, 1, .inr (.inl (vp_updL fo 0 (((sp_uses o x y).2.1.toInt32).toInt64)))))]) rfl rfl (by decide) (by decide) rfl d_L_uses_9 (fun H locs h => ?_)
  refine lv_goto (tgt := 21) C.1 C.2.1 d_L_uses_10 (by decide) ?_
  refine lv_iconst (v := 0) C.1 C.2.1 d_L_uses_21 (by decide) ?_
  exact sd_iret (v := 0) C hr hlk h ⟨(show (0 : Int32) = sp_cd [xNS, xIA] "" by decide +kernel).trans (congrArg (sp_cd [xNS, xIA]) hS.symm), v, (vp_updL fo 0 (((sp_uses o x y).2.1.toInt32).toInt64)), rfl, fun _ => rfl⟩ d_L_uses_22

set_option maxHeartbeats 4000000 in
set_option maxRecDepth 100000 in
theorem k_L_numbers (l : Launch) (hst : l.stackTraces = false) (D : va_G) (k3 : ClassId × ClassId × ClassId) (sz : Nat) (dk : Nat) (qa : Nat → Nat) (qh : Nat → Nat) (qs : Nat → Nat) (o : sd_S) (v : sd_HS) (ox : Nat) (fo : Nat → Int64) (x : Int32) (y : Int32) (ho : sS_ok o) : Met l y_L_numbers (Cond.codeWith y_L_numbers c_L_numbers 5 (some FieldType.int) [(0, 10, 13, 13)] :: sd_all) ({ frames := 9, cells := 1, slots := 6, locals := 145 }) (sd_Px D (sd_t3 k3) [.ref dk, .int x, .int y, .ref ox] sz (sd_d1 dk qa qh qs ++ sd_dA k3 qa o ++ sd_H k3 qh (sS_u o) ++ sd_H k3 qs v ++ [(ox, .inl (k3.2.2, 1, .inr (.inl fo)))])) (sd_Qi D (sd_t3 k3) (va_A (sd_d1 dk qa qh qs ++ sd_dA k3 qa o ++ sd_H k3 qh (sS_u o) ++ sd_H k3 qs v ++ [(ox, .inl (k3.2.2, 1, .inr (.inl fo)))]) sz) (fun r w => r = sp_cd [xIA] (sp_numbers o x y).1 ∧ ∃ (v9 : sd_HS) (fo9 : Nat → Int64), w = sd_D4 k3 dk qa qh qs (sp_numbers o x y).2.2 v9 ++ [(ox, .inl (k3.2.2, 1, .inr (.inl fo9)))] ∧ ((sp_numbers o x y).1 = "" → fo9 0 = (sp_numbers o x y).2.1.toInt32.toInt64))) 1 6 (va_A (sd_d1 dk qa qh qs ++ sd_dA k3 qa o ++ sd_H k3 qh (sS_u o) ++ sd_H k3 qs v ++ [(ox, .inl (k3.2.2, 1, .inr (.inl fo)))]) sz) := by
  refine sd_metw (cc := c_L_numbers) (maxL := 5) (ret := some .int) (by decide) (Nat.le_of_ble_eq_true rfl) (fun p e s m below meth c C hr hlk htb hz h ls hl => ?_)
  generalize va_A (sd_d1 dk qa qh qs ++ sd_dA k3 qa o ++ sd_H k3 qh (sS_u o) ++ sd_H k3 qs v ++ [(ox, .inl (k3.2.2, 1, .inr (.inl fo)))]) sz = A at h hz ⊢
  have hl : lv_has ls 5 [(0, .ref dk), (1, .int x), (2, .int y), (3, .ref ox)] := hl
  generalize hH : s.heap = H at h ⊢
  refine lv_aload_n C.1 C.2.1 d_L_numbers_0 rfl (lv_at hl 3 rfl) ?_
  refine lv_iconst (v := 0) C.1 C.2.1 d_L_numbers_1 (by decide) ?_
  refine lv_aload_n C.1 C.2.1 d_L_numbers_2 rfl (lv_at hl 0 rfl) ?_
  refine lv_iload_n C.1 C.2.1 d_L_numbers_3 rfl (lv_at hl 1 rfl) ?_
  refine lv_iload_n C.1 C.2.1 d_L_numbers_4 rfl (lv_at hl 2 rfl) ?_
  have h := sd_world h (ws' := ([]) ++ (sd_d1 dk qa qh qs ++ sd_dA k3 qa o ++ sd_H k3 qh (sS_u o)) ++ (sd_H k3 qs v ++ [(ox, .inl (k3.2.2, 1, .inr (.inl fo)))])) (by simp only [sd_D2, sd_D3, sd_D4, List.append_assoc, List.nil_append, List.append_nil])
  refine sd_xcalli h (vx_runV (As := [.int x, .int y]) (rest := [.int 0, .ref ox]) C (k_D_numbers l hst D k3 H.size dk qa qh qs o x y ho) (sd_cwV 2 C.2.2.2.2 tb_495 tb_496 tb_497 tb_21 tb_498 rfl rfl (by decide +kernel) ⟨Nat.le_of_ble_eq_true rfl, Nat.le_of_ble_eq_true rfl⟩) (sd_preVx h hz (q0 := 0) (T := T_D) (N := 3) rfl rfl) rfl rfl hl.1 rfl (lv_room (Nat.le_of_ble_eq_true rfl)) d_L_numbers_5 ⟨Nat.le_of_ble_eq_true rfl, Nat.le_of_ble_eq_true rfl⟩) (fun E ce q9 w1 H locs hq h hce hcv hcl => ?_) (fun r w1 H locs hq h => ?_)
  · obtain ⟨hE, hne, rfl⟩ := hq
    have h := sd_world h (ws' := sd_d1 dk qa qh qs ++ sd_dA k3 qa ((sp_numbers o x y).2.2) ++ sd_H k3 qh (sS_u (sp_numbers o x y).2.2) ++ sd_H k3 qs v ++ [(ox, .inl (k3.2.2, 1, .inr (.inl fo)))]) (by simp only [sd_D2, sd_D3, sd_D4, List.append_assoc, List.nil_append, List.append_nil])
    rcases E_numbers o x y with e | e
    · exact absurd (hE.symm.trans e) hne
    · have e : E = xIA := hE.symm.trans e
      subst e
      refine vx_catch (own := "StockDeskLaw") (name := xIA) (E := xIA) C.2.2.2.1 [] (⟨0, 10, 13, 13⟩ : ExceptionTableEntry) [] (htb.trans rfl) (fun _ z => absurd z List.not_mem_nil) (by decide) (by decide) (C.2.2.2.2 _ (List.mem_cons_of_mem _ tb_179)) (va_Nw.use (w := Cond.castable xIA xIA) rfl (hz.2.2.2.1 _ (by decide +kernel))) hce hcv hcl ?_
      refine W.widen (k := 1) (n := 6) (by decide) (by decide) ?_
      refine lv_astore (lv' := [(4, .ref q9), (0, .ref dk), (1, .int x), (2, .int y), (3, .ref ox)]) C.1 C.2.1 d_L_numbers_13 hl (by decide) rfl (fun ls hl => ?_)
      refine lv_iconst (v := 1) C.1 C.2.1 d_L_numbers_15 (by decide) ?_
      exact sd_iret (v := 1) C hr hlk h ⟨(show (1 : Int32) = sp_cd [xIA] xIA by decide +kernel).trans (congrArg (sp_cd [xIA]) hE.symm), v, fo, rfl, fun z => absurd (hE.symm.trans z) (by decide)⟩ d_L_numbers_16
  refine W.widen (k := 1) (n := 6) (by decide) (by decide) ?_
  obtain ⟨hS, rfl, rfl⟩ := hq
  have h := sd_world h (ws' := sd_d1 dk qa qh qs ++ sd_dA k3 qa ((sp_numbers o x y).2.2) ++ sd_H k3 qh (sS_u (sp_numbers o x y).2.2) ++ sd_H k3 qs v ++ [(ox, .inl (k3.2.2, 1, .inr (.inl fo)))]) (by simp only [sd_D2, sd_D3, sd_D4, List.append_assoc, List.nil_append, List.append_nil])
  refine lv_i2l (v := ((sp_numbers o x y).2.1.toInt32).toInt64) C.1 C.2.1 d_L_numbers_8 rfl ?_
  refine sd_last C h 24 2 (i := 0) (ws' := sd_d1 dk qa qh qs ++ sd_dA k3 qa ((sp_numbers o x y).2.2) ++ sd_H k3 qh (sS_u (sp_numbers o x y).2.2) ++ sd_H k3 qs v ++ [(ox, .inl (k3.2.2, 1, .inr (.inl (vp_updL fo 0 (((sp_numbers o x y).2.1.toInt32).toInt64)))))]) rfl rfl (by decide) (by decide) rfl d_L_numbers_9 (fun H locs h => ?_)
  refine lv_goto (tgt := 17) C.1 C.2.1 d_L_numbers_10 (by decide) ?_
  refine lv_iconst (v := 0) C.1 C.2.1 d_L_numbers_17 (by decide) ?_
  exact sd_iret (v := 0) C hr hlk h ⟨(show (0 : Int32) = sp_cd [xIA] "" by decide +kernel).trans (congrArg (sp_cd [xIA]) hS.symm), v, (vp_updL fo 0 (((sp_numbers o x y).2.1.toInt32).toInt64)), rfl, fun _ => rfl⟩ d_L_numbers_18
