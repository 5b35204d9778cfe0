theorem sm_pra {S : String × Int64 × sd_S} {o : sd_S} {a x y z : Int32} {mo : sd_MS} {L : List String} {P : Prop} (F : sd_MS → va_W) (e : S = sp_act o a x y z) (hm : sm_all mo (sS_put o a x y z)) (hc : mf_tc mo = 0) (hcd : 0 = sp_cd L "") (hP : S = ("", sd_an (sS_u o) a x y z, sS_put o a x y z) → P) : ∃ m9, F mo = F m9 ∧ sm_all m9 S.2.2 ∧ mf_tc m9 = sp_cd L S.1 ∧ (S.1 = "" → P) := sm_pr F e hm hc hcd hP
theorem sm_way {mo : sd_MS} {o : sd_S} (hm : sm_all mo o) (ho : sS_ok o) {pt : Nat} (hp : pt < 6) : mf_pw mo pt ≤ 0 ↔ hf_pw (sS_u o) pt = 0 := by
  rw [hm.2.2.pw pt hp]
  exact sm_le ((sS_inv ho).2.2.1 pt hp)
set_option maxHeartbeats 4000000 in
set_option maxRecDepth 100000 in
theorem k_M_make (l : Launch) (D : va_G) (k3 : ClassId × ClassId × ClassId) (sz : Nat) (q : Nat → Nat) (mo : sd_MS) (o : sd_S) (x : Int32) (ho : sS_ok o) (hm : sm_all mo o) : Met l y_M_make (sd_ws y_M_make c_M_make 2 (some FieldType.int)) ({ frames := 3, cells := 0, slots := 0, locals := 72 }) (sd_Pc D (sd_t3 k3) [.ref (q 0), .int x] sz (sd_M k3 q mo)) (sd_Qi D (sd_t3 k3) (va_A (sd_M k3 q mo) sz) (fun r w => ∃ m9, w = sd_M k3 q m9 ∧ sm_all m9 (sp_make o x).2.2 ∧ mf_tc m9 = sp_cd [xIA, xUO] (sp_make o x).1 ∧ ((sp_make o x).1 = "" → r = (sp_make o x).2.1.toInt32))) 0 0 (va_A (sd_M k3 q mo) sz) := by
  refine sd_met (cc := c_M_make) (maxL := 2) (ret := some .int) (by decide) (Nat.le_of_ble_eq_true rfl) (fun p e s m below meth c C hr hlk hnm hsz h ls hl => ?_)
  generalize va_A (sd_M k3 q mo) sz = A at h ⊢
  have hl : lv_has ls 2 [(0, .ref (q 0)), (1, .int x)] := hl
  generalize hH : s.heap = H at h ⊢
  refine lv_aload_n C.1 C.2.1 d_M_make_0 rfl (lv_at hl 0 rfl) ?_
  refine lv_iload_n C.1 C.2.1 d_M_make_1 rfl (lv_at hl 1 rfl) ?_
  refine lv_iconst (v := 0) C.1 C.2.1 d_M_make_2 (by decide) ?_
  refine lv_iconst (v := 4) C.1 C.2.1 d_M_make_3 (by decide) ?_
  rcases Classical.em (sp_bad x 5) with hb | hb
  · have h := sd_world h (ws' := ([]) ++ ([]) ++ (sd_M k3 q mo)) (by simp only [List.append_assoc, List.nil_append, List.append_nil])
    refine sd_calli h (va_runS (As := [.int x, .int 0, .int 4]) (rest := [.ref (q 0)]) C (k_M_notT l D k3 H.size x 0 4 ((sp_k5 _).mpr hb)) (sd_cwS 3 C.2.2.2.2 tb_576 tb_577 tb_24 tb_578 rfl rfl (by decide +kernel) ⟨Nat.le_of_ble_eq_true rfl, Nat.le_of_ble_eq_true rfl⟩) (sd_preS h) rfl rfl hl.1 rfl (lv_room (Nat.le_of_ble_eq_true rfl)) d_M_make_4 ⟨Nat.le_of_ble_eq_true rfl, Nat.le_of_ble_eq_true rfl⟩) (fun r w1 H locs hq h => ?_)
    obtain ⟨rfl, rfl⟩ := hq
    have h := sd_world h (ws' := sd_M k3 q mo) (by simp only [List.append_assoc, List.nil_append, List.append_nil])
    refine lv_if_eq (tgt := 14) C.1 C.2.1 d_M_make_7 (by decide) (fun c7 => ?_) (fun c7 => ?_)
    · exact absurd c7 (by decide)
    · refine lv_iconst (v := 1) C.1 C.2.1 d_M_make_10 (by decide) ?_
      refine lv_goto (tgt := 39) C.1 C.2.1 d_M_make_11 (by decide) ?_
      refine sd_put C h 0 0 (v := .int 1) (ci := 3) (Cn := "StockDeskModel") (T := T_M) (N := 19) (ty0 := ty_M) (ws' := sd_Mx k3 q 1 (mf_ac mo) (mf_aa mo) (mf_md mo) (mf_th mo) (mf_us mo) (mf_pk mo) (mf_pb mo) (mf_pf mo) (mf_wt mo) (mf_pw mo) (mf_fl mo) (mf_tw mo) (mf_tp mo) (mf_tn mo) (mf_an mo) (mf_co mo) (mf_s1 mo) (mf_s2 mo)) rfl rfl (by decide) in_M tyok_M nm_M tb_510 rfl rfl rfl rfl (Nat.le_of_ble_eq_true rfl) rfl d_M_make_39 (fun H locs h => ?_)
      refine lv_aload_n C.1 C.2.1 d_M_make_42 rfl (lv_at hl 0 rfl) ?_
      refine sd_get C h 0 0 (v := .int 1) (ci := 3) (Cn := "StockDeskModel") (T := T_M) (N := 19) rfl rfl (by decide) in_M tb_510 rfl d_M_make_43 ?_
      refine lv_if_eq (tgt := 51) C.1 C.2.1 d_M_make_46 (by decide) (fun c46 => ?_) (fun c46 => ?_)
      · exact absurd c46 (by decide)
      · refine lv_iconst (v := 0) C.1 C.2.1 d_M_make_49 (by decide) ?_
        have h := sd_world h (ws' := sd_M k3 q (mm_tc mo 1)) (by simp only [sd_M, mm_tc, mm_make, mm_drop, mm_kind, mm_answer, mm_way, mm_tell, mm_work, mm_byte, mm_keep, mm_dec, mm_fresh, hd_m, mf_tc, mf_ac, mf_aa, mf_md, mf_th, mf_us, mf_pk, mf_pb, mf_pf, mf_wt, mf_pw, mf_fl, mf_tw, mf_tp, mf_tn, mf_an, mf_co, mf_s1, mf_s2])
        exact sd_iret (v := 0) C hr hlk h (sm_px (sd_M k3 q) (mo := mm_tc mo 1) (c := 1) (o := o) (if_pos hb) (by decide) (sm_tc _ hm) rfl (by decide +kernel)) d_M_make_50
  have h := sd_world h (ws' := ([]) ++ ([]) ++ (sd_M k3 q mo)) (by simp only [List.append_assoc, List.nil_append, List.append_nil])
  refine sd_calli h (va_runS (As := [.int x, .int 0, .int 4]) (rest := [.ref (q 0)]) C (k_M_notF l D k3 H.size x 0 4 (fun z => hb ((sp_k5 _).mp z))) (sd_cwS 3 C.2.2.2.2 tb_576 tb_577 tb_24 tb_578 rfl rfl (by decide +kernel) ⟨Nat.le_of_ble_eq_true rfl, Nat.le_of_ble_eq_true rfl⟩) (sd_preS h) rfl rfl hl.1 rfl (lv_room (Nat.le_of_ble_eq_true rfl)) d_M_make_4 ⟨Nat.le_of_ble_eq_true rfl, Nat.le_of_ble_eq_true rfl⟩) (fun r w1 H locs hq h => ?_)
  obtain ⟨rfl, rfl⟩ := hq
  have h := sd_world h (ws' := sd_M k3 q mo) (by simp only [List.append_assoc, List.nil_append, List.append_nil])
  obtain ⟨k, hk, rfl⟩ := sp_in 5 rfl (by decide) hb
  obtain ⟨n, hn9, hmn⟩ := (sS_inv ho).1 k hk
  have hmd : mf_md mo k = 9 ↔ ¬ hf_md (sS_u o) k < 9 := by rw [hm.2.2.md k hk, hmn]; exact sm_made hn9
  refine lv_if_eq (tgt := 14) C.1 C.2.1 d_M_make_7 (by decide) (fun c7 => ?_) (fun c7 => ?_)
  · refine lv_aload_n C.1 C.2.1 d_M_make_14 rfl (lv_at hl 0 rfl) ?_
    refine sd_get C h 0 3 (v := .ref (q 2)) (ci := 3) (Cn := "StockDeskModel") (T := T_M) (N := 19) rfl rfl (by decide) in_M tb_513 rfl d_M_make_15 ?_
    refine lv_iload_n C.1 C.2.1 d_M_make_18 rfl (lv_at hl 1 rfl) ?_
    refine sd_iald C h 2 0 (i := k) rfl rfl (by omega) (by decide) d_M_make_19 ?_
    refine lv_bipush (v := 9) C.1 C.2.1 d_M_make_20 (by decide) ?_
    refine lv_icmp_eq (tgt := 34) C.1 C.2.1 d_M_make_22 (by decide) (fun c22 => ?_) (fun c22 => ?_)
    · refine lv_iconst (v := 2) C.1 C.2.1 d_M_make_34 (by decide) ?_
      refine lv_goto (tgt := 39) C.1 C.2.1 d_M_make_35 (by decide) ?_
      refine sd_put C h 0 0 (v := .int 2) (ci := 3) (Cn := "StockDeskModel") (T := T_M) (N := 19) (ty0 := ty_M) (ws' := sd_Mx k3 q 2 (mf_ac mo) (mf_aa mo) (mf_md mo) (mf_th mo) (mf_us mo) (mf_pk mo) (mf_pb mo) (mf_pf mo) (mf_wt mo) (mf_pw mo) (mf_fl mo) (mf_tw mo) (mf_tp mo) (mf_tn mo) (mf_an mo) (mf_co mo) (mf_s1 mo) (mf_s2 mo)) rfl rfl (by decide) in_M tyok_M nm_M tb_510 rfl rfl rfl rfl (Nat.le_of_ble_eq_true rfl) rfl d_M_make_39 (fun H locs h => ?_)
      refine lv_aload_n C.1 C.2.1 d_M_make_42 rfl (lv_at hl 0 rfl) ?_
      refine sd_get C h 0 0 (v := .int 2) (ci := 3) (Cn := "StockDeskModel") (T := T_M) (N := 19) rfl rfl (by decide) in_M tb_510 rfl d_M_make_43 ?_
      refine lv_if_eq (tgt := 51) C.1 C.2.1 d_M_make_46 (by decide) (fun c46 => ?_) (fun c46 => ?_)
      · exact absurd c46 (by decide)
      · refine lv_iconst (v := 0) C.1 C.2.1 d_M_make_49 (by decide) ?_
        have h := sd_world h (ws' := sd_M k3 q (mm_tc mo 2)) (by simp only [sd_M, mm_tc, mm_make, mm_drop, mm_kind, mm_answer, mm_way, mm_tell, mm_work, mm_byte, mm_keep, mm_dec, mm_fresh, hd_m, mf_tc, mf_ac, mf_aa, mf_md, mf_th, mf_us, mf_pk, mf_pb, mf_pf, mf_wt, mf_pw, mf_fl, mf_tw, mf_tp, mf_tn, mf_an, mf_co, mf_s1, mf_s2])
        exact sd_iret (v := 0) C hr hlk h (sm_px (sd_M k3 q) (mo := mm_tc mo 2) (c := 2) (o := o) ((if_neg hb).trans (if_pos (by rw [nI_clamp (show k < 2 ^ 31 by omega)]; exact hmd.mp c22))) (by decide) (sm_tc _ hm) rfl (by decide +kernel)) d_M_make_50
    · have hn8 : n < 9 := Classical.byContradiction fun z => c22 (by rw [hm.2.2.md k hk, hmn, show n = 9 by omega]; rfl)
      refine lv_aload_n C.1 C.2.1 d_M_make_25 rfl (lv_at hl 0 rfl) ?_
      refine sd_get C h 0 1 (v := .int (mf_ac mo)) (ci := 3) (Cn := "StockDeskModel") (T := T_M) (N := 19) rfl rfl (by decide) in_M tb_511 rfl d_M_make_26 ?_
      refine lv_bipush (v := 60) C.1 C.2.1 d_M_make_29 (by decide) ?_
      refine lv_icmp_ne (tgt := 38) C.1 C.2.1 d_M_make_31 (by decide) (fun c31 => ?_) (fun c31 => ?_)
      · have hf := fun z => c31 ((sm_acts hm ho).mpr z)
        refine lv_iconst (v := 0) C.1 C.2.1 d_M_make_38 (by decide) ?_
        refine sd_put C h 0 0 (v := .int 0) (ci := 3) (Cn := "StockDeskModel") (T := T_M) (N := 19) (ty0 := ty_M) (ws' := sd_Mx k3 q 0 (mf_ac mo) (mf_aa mo) (mf_md mo) (mf_th mo) (mf_us mo) (mf_pk mo) (mf_pb mo) (mf_pf mo) (mf_wt mo) (mf_pw mo) (mf_fl mo) (mf_tw mo) (mf_tp mo) (mf_tn mo) (mf_an mo) (mf_co mo) (mf_s1 mo) (mf_s2 mo)) rfl rfl (by decide) in_M tyok_M nm_M tb_510 rfl rfl rfl rfl (Nat.le_of_ble_eq_true rfl) rfl d_M_make_39 (fun H locs h => ?_)
        refine lv_aload_n C.1 C.2.1 d_M_make_42 rfl (lv_at hl 0 rfl) ?_
        refine sd_get C h 0 0 (v := .int 0) (ci := 3) (Cn := "StockDeskModel") (T := T_M) (N := 19) rfl rfl (by decide) in_M tb_510 rfl d_M_make_43 ?_
        refine lv_if_eq (tgt := 51) C.1 C.2.1 d_M_make_46 (by decide) (fun c46 => ?_) (fun c46 => ?_)
        · refine lv_aload_n C.1 C.2.1 d_M_make_51 rfl (lv_at hl 0 rfl) ?_
          refine lv_iconst (v := 0) C.1 C.2.1 d_M_make_52 (by decide) ?_
          refine lv_iload_n C.1 C.2.1 d_M_make_53 rfl (lv_at hl 1 rfl) ?_
          refine lv_iconst (v := 0) C.1 C.2.1 d_M_make_54 (by decide) ?_
          refine lv_iconst (v := 0) C.1 C.2.1 d_M_make_55 (by decide) ?_
          have h := sd_world h (ws' := sd_M k3 q (mm_tc mo 0)) (by simp only [sd_M, mm_tc, mm_make, mm_drop, mm_kind, mm_answer, mm_way, mm_tell, mm_work, mm_byte, mm_keep, mm_dec, mm_fresh, hd_m, mf_tc, mf_ac, mf_aa, mf_md, mf_th, mf_us, mf_pk, mf_pb, mf_pf, mf_wt, mf_pw, mf_fl, mf_tw, mf_tp, mf_tn, mf_an, mf_co, mf_s1, mf_s2])
          have h := sd_world h (ws' := ([]) ++ (sd_M k3 q (mm_tc mo 0)) ++ ([])) (by simp only [List.append_assoc, List.nil_append, List.append_nil])
          refine sd_callv h (va_runV (As := [.int 0, .int (nI k), .int 0, .int 0]) (rest := []) C (k_M_keep l D k3 H.size q (mm_tc mo 0) o 0 (nI k) 0 0 ho (sm_tc _ hm) (Classical.not_not.mp hf) (Or.inl ⟨rfl, k, n, hk, hn8, rfl, hmn⟩)) (sd_cwV 4 C.2.2.2.2 tb_579 tb_581 tb_14 tb_24 tb_582 rfl rfl (by decide +kernel) ⟨Nat.le_of_ble_eq_true rfl, Nat.le_of_ble_eq_true rfl⟩) (sd_preV h (q0 := 0) (T := T_M) (N := 19) rfl rfl) rfl rfl hl.1 rfl (lv_room (Nat.le_of_ble_eq_true rfl)) d_M_make_56 ⟨Nat.le_of_ble_eq_true rfl, Nat.le_of_ble_eq_true rfl⟩) (fun w1 H locs hq h => ?_)
          obtain ⟨m2, rfl, hm2, ht2⟩ := hq
          have h := sd_world h (ws' := sd_M k3 q m2) (by simp only [List.append_assoc, List.nil_append, List.append_nil])
          refine lv_aload_n C.1 C.2.1 d_M_make_59 rfl (lv_at hl 0 rfl) ?_
          refine sd_get C h 0 3 (v := .ref (q 2)) (ci := 3) (Cn := "StockDeskModel") (T := T_M) (N := 19) rfl rfl (by decide) in_M tb_513 rfl d_M_make_60 ?_
          refine lv_iload_n C.1 C.2.1 d_M_make_63 rfl (lv_at hl 1 rfl) ?_
          refine sd_iald C h 2 0 (i := k) rfl rfl (by omega) (by decide) d_M_make_64 ?_
          exact sd_iret (v := (mf_md m2) k) C hr hlk h (sm_pra (sd_M k3 q) ((if_neg hb).trans ((if_neg (by rw [nI_clamp (show k < 2 ^ 31 by omega)]; exact fun z => c22 (hmd.mpr z))).trans ((if_neg hf).trans rfl))) hm2 ht2 (by decide +kernel) (fun e9 => by rw [e9]; show mf_md m2 k = ((hf_md (sS_u o) (nI k).toNatClampNeg + 1).toInt64).toInt32; rw [sd_back32, nI_clamp (show k < 2 ^ 31 by omega), hm2.2.2.md k hk, sv_make hk hn8 hmn])) d_M_make_65
        · exact absurd c46 (by decide)
      · have hf := (sm_acts hm ho).mp c31
        refine lv_iconst (v := 2) C.1 C.2.1 d_M_make_34 (by decide) ?_
        refine lv_goto (tgt := 39) C.1 C.2.1 d_M_make_35 (by decide) ?_
        refine sd_put C h 0 0 (v := .int 2) (ci := 3) (Cn := "StockDeskModel") (T := T_M) (N := 19) (ty0 := ty_M) (ws' := sd_Mx k3 q 2 (mf_ac mo) (mf_aa mo) (mf_md mo) (mf_th mo) (mf_us mo) (mf_pk mo) (mf_pb mo) (mf_pf mo) (mf_wt mo) (mf_pw mo) (mf_fl mo) (mf_tw mo) (mf_tp mo) (mf_tn mo) (mf_an mo) (mf_co mo) (mf_s1 mo) (mf_s2 mo)) rfl rfl (by decide) in_M tyok_M nm_M tb_510 rfl rfl rfl rfl (Nat.le_of_ble_eq_true rfl) rfl d_M_make_39 (fun H locs h => ?_)
        refine lv_aload_n C.1 C.2.1 d_M_make_42 rfl (lv_at hl 0 rfl) ?_
        refine sd_get C h 0 0 (v := .int 2) (ci := 3) (Cn := "StockDeskModel") (T := T_M) (N := 19) rfl rfl (by decide) in_M tb_510 rfl d_M_make_43 ?_
        refine lv_if_eq (tgt := 51) C.1 C.2.1 d_M_make_46 (by decide) (fun c46 => ?_) (fun c46 => ?_)
        · exact absurd c46 (by decide)
        · refine lv_iconst (v := 0) C.1 C.2.1 d_M_make_49 (by decide) ?_
          have h := sd_world h (ws' := sd_M k3 q (mm_tc mo 2)) (by simp only [sd_M, mm_tc, mm_make, mm_drop, mm_kind, mm_answer, mm_way, mm_tell, mm_work, mm_byte, mm_keep, mm_dec, mm_fresh, hd_m, mf_tc, mf_ac, mf_aa, mf_md, mf_th, mf_us, mf_pk, mf_pb, mf_pf, mf_wt, mf_pw, mf_fl, mf_tw, mf_tp, mf_tn, mf_an, mf_co, mf_s1, mf_s2])
          exact sd_iret (v := 0) C hr hlk h (sm_px (sd_M k3 q) (mo := mm_tc mo 2) (c := 2) (o := o) ((if_neg hb).trans ((if_neg (by rw [nI_clamp (show k < 2 ^ 31 by omega)]; exact fun z => c22 (hmd.mpr z))).trans (if_pos hf))) (by decide) (sm_tc _ hm) rfl (by decide +kernel)) d_M_make_50
  · exact absurd c7 (by decide)

set_option maxHeartbeats 4000000 in
set_option maxRecDepth 100000 in
theorem k_M_drop (l : Launch) (D : va_G) (k3 : ClassId × ClassId × ClassId) (sz : Nat) (q : Nat → Nat) (mo : sd_MS) (o : sd_S) (x : Int32) (y : Int32) (ho : sS_ok o) (hm : sm_all mo o) : Met l y_M_drop (sd_ws y_M_drop c_M_drop 3 (some FieldType.int)) ({ frames := 3, cells := 0, slots := 0, locals := 72 }) (sd_Pc D (sd_t3 k3) [.ref (q 0), .int x, .int y] sz (sd_M k3 q mo)) (sd_Qi D (sd_t3 k3) (va_A (sd_M k3 q mo) sz) (fun r w => ∃ m9, w = sd_M k3 q m9 ∧ sm_all m9 (sp_drop o x y).2.2 ∧ mf_tc m9 = sp_cd [xNS, xIA, xUO] (sp_drop o x y).1 ∧ ((sp_drop o x y).1 = "" → r = (sp_drop o x y).2.1.toInt32))) 0 0 (va_A (sd_M k3 q mo) sz) := by
  refine sd_met (cc := c_M_drop) (maxL := 3) (ret := some .int) (by decide) (Nat.le_of_ble_eq_true rfl) (fun p e s m below meth c C hr hlk hnm hsz h ls hl => ?_)
  generalize va_A (sd_M k3 q mo) sz = A at h ⊢
  have hl : lv_has ls 3 [(0, .ref (q 0)), (1, .int x), (2, .int y)] := hl
  generalize hH : s.heap = H at h ⊢
  refine lv_aload_n C.1 C.2.1 d_M_drop_0 rfl (lv_at hl 0 rfl) ?_
  refine lv_iload_n C.1 C.2.1 d_M_drop_1 rfl (lv_at hl 1 rfl) ?_
  refine lv_iconst (v := 0) C.1 C.2.1 d_M_drop_2 (by decide) ?_
  refine lv_iconst (v := 4) C.1 C.2.1 d_M_drop_3 (by decide) ?_
  rcases Classical.em (sp_bad x 5) with hb | hb
  · have h := sd_world h (ws' := ([]) ++ ([]) ++ (sd_M k3 q mo)) (by simp only [List.append_assoc, List.nil_append, List.append_nil])
    refine sd_calli h (va_runS (As := [.int x, .int 0, .int 4]) (rest := [.ref (q 0)]) C (k_M_notT l D k3 H.size x 0 4 ((sp_k5 _).mpr hb)) (sd_cwS 3 C.2.2.2.2 tb_576 tb_577 tb_24 tb_578 rfl rfl (by decide +kernel) ⟨Nat.le_of_ble_eq_true rfl, Nat.le_of_ble_eq_true rfl⟩) (sd_preS h) rfl rfl hl.1 rfl (lv_room (Nat.le_of_ble_eq_true rfl)) d_M_drop_4 ⟨Nat.le_of_ble_eq_true rfl, Nat.le_of_ble_eq_true rfl⟩) (fun r w1 H locs hq h => ?_)
    obtain ⟨rfl, rfl⟩ := hq
    have h := sd_world h (ws' := sd_M k3 q mo) (by simp only [List.append_assoc, List.nil_append, List.append_nil])
    refine lv_if_eq (tgt := 14) C.1 C.2.1 d_M_drop_7 (by decide) (fun c7 => ?_) (fun c7 => ?_)
    · exact absurd c7 (by decide)
    · refine lv_iconst (v := 2) C.1 C.2.1 d_M_drop_10 (by decide) ?_
      refine lv_goto (tgt := 41) C.1 C.2.1 d_M_drop_11 (by decide) ?_
      refine sd_put C h 0 0 (v := .int 2) (ci := 3) (Cn := "StockDeskModel") (T := T_M) (N := 19) (ty0 := ty_M) (ws' := sd_Mx k3 q 2 (mf_ac mo) (mf_aa mo) (mf_md mo) (mf_th mo) (mf_us mo) (mf_pk mo) (mf_pb mo) (mf_pf mo) (mf_wt mo) (mf_pw mo) (mf_fl mo) (mf_tw mo) (mf_tp mo) (mf_tn mo) (mf_an mo) (mf_co mo) (mf_s1 mo) (mf_s2 mo)) rfl rfl (by decide) in_M tyok_M nm_M tb_510 rfl rfl rfl rfl (Nat.le_of_ble_eq_true rfl) rfl d_M_drop_41 (fun H locs h => ?_)
      refine lv_aload_n C.1 C.2.1 d_M_drop_44 rfl (lv_at hl 0 rfl) ?_
      refine sd_get C h 0 0 (v := .int 2) (ci := 3) (Cn := "StockDeskModel") (T := T_M) (N := 19) rfl rfl (by decide) in_M tb_510 rfl d_M_drop_45 ?_
      refine lv_if_eq (tgt := 53) C.1 C.2.1 d_M_drop_48 (by decide) (fun c48 => ?_) (fun c48 => ?_)
      · exact absurd c48 (by decide)
      · refine lv_iconst (v := 0) C.1 C.2.1 d_M_drop_51 (by decide) ?_
        have h := sd_world h (ws' := sd_M k3 q (mm_tc mo 2)) (by simp only [sd_M, mm_tc, mm_make, mm_drop, mm_kind, mm_answer, mm_way, mm_tell, mm_work, mm_byte, mm_keep, mm_dec, mm_fresh, hd_m, mf_tc, mf_ac, mf_aa, mf_md, mf_th, mf_us, mf_pk, mf_pb, mf_pf, mf_wt, mf_pw, mf_fl, mf_tw, mf_tp, mf_tn, mf_an, mf_co, mf_s1, mf_s2])
        exact sd_iret (v := 0) C hr hlk h (sm_px (sd_M k3 q) (mo := mm_tc mo 2) (c := 2) (o := o) (if_pos hb) (by decide) (sm_tc _ hm) rfl (by decide +kernel)) d_M_drop_52
  have h := sd_world h (ws' := ([]) ++ ([]) ++ (sd_M k3 q mo)) (by simp only [List.append_assoc, List.nil_append, List.append_nil])
  refine sd_calli h (va_runS (As := [.int x, .int 0, .int 4]) (rest := [.ref (q 0)]) C (k_M_notF l D k3 H.size x 0 4 (fun z => hb ((sp_k5 _).mp z))) (sd_cwS 3 C.2.2.2.2 tb_576 tb_577 tb_24 tb_578 rfl rfl (by decide +kernel) ⟨Nat.le_of_ble_eq_true rfl, Nat.le_of_ble_eq_true rfl⟩) (sd_preS h) rfl rfl hl.1 rfl (lv_room (Nat.le_of_ble_eq_true rfl)) d_M_drop_4 ⟨Nat.le_of_ble_eq_true rfl, Nat.le_of_ble_eq_true rfl⟩) (fun r w1 H locs hq h => ?_)
  obtain ⟨rfl, rfl⟩ := hq
  have h := sd_world h (ws' := sd_M k3 q mo) (by simp only [List.append_assoc, List.nil_append, List.append_nil])
  obtain ⟨k, hk, rfl⟩ := sp_in 5 rfl (by decide) hb
  refine lv_if_eq (tgt := 14) C.1 C.2.1 d_M_drop_7 (by decide) (fun c7 => ?_) (fun c7 => ?_)
  · refine lv_aload_n C.1 C.2.1 d_M_drop_14 rfl (lv_at hl 0 rfl) ?_
    refine lv_iload_n C.1 C.2.1 d_M_drop_15 rfl (lv_at hl 1 rfl) ?_
    refine lv_iload_n C.1 C.2.1 d_M_drop_16 rfl (lv_at hl 2 rfl) ?_
    rcases Classical.em (¬ hd_has (sS_u o) k y) with ht | ht
    · have h := sd_world h (ws' := ([]) ++ (sd_M k3 q mo) ++ ([])) (by simp only [List.append_assoc, List.nil_append, List.append_nil])
      refine sd_calli h (va_runV (As := [.int (nI k), .int y]) (rest := [.ref (q 0)]) C (k_M_isThereF l D k3 H.size q mo (sS_u o) k y hm.2.2 hk ht) (sd_cwV 2 C.2.2.2.2 tb_596 tb_598 tb_17 tb_24 tb_599 rfl rfl (by decide +kernel) ⟨Nat.le_of_ble_eq_true rfl, Nat.le_of_ble_eq_true rfl⟩) (sd_preV h (q0 := 0) (T := T_M) (N := 19) rfl rfl) rfl rfl hl.1 rfl (lv_room (Nat.le_of_ble_eq_true rfl)) d_M_drop_17 ⟨Nat.le_of_ble_eq_true rfl, Nat.le_of_ble_eq_true rfl⟩) (fun r w1 H locs hq h => ?_)
      obtain ⟨rfl, rfl⟩ := hq
      have h := sd_world h (ws' := sd_M k3 q mo) (by simp only [List.append_assoc, List.nil_append, List.append_nil])
      refine lv_if_ne (tgt := 27) C.1 C.2.1 d_M_drop_20 (by decide) (fun c20 => ?_) (fun c20 => ?_)
      · exact absurd c20 (by decide)
      · refine lv_iconst (v := 1) C.1 C.2.1 d_M_drop_23 (by decide) ?_
        refine lv_goto (tgt := 41) C.1 C.2.1 d_M_drop_24 (by decide) ?_
        refine sd_put C h 0 0 (v := .int 1) (ci := 3) (Cn := "StockDeskModel") (T := T_M) (N := 19) (ty0 := ty_M) (ws' := sd_Mx k3 q 1 (mf_ac mo) (mf_aa mo) (mf_md mo) (mf_th mo) (mf_us mo) (mf_pk mo) (mf_pb mo) (mf_pf mo) (mf_wt mo) (mf_pw mo) (mf_fl mo) (mf_tw mo) (mf_tp mo) (mf_tn mo) (mf_an mo) (mf_co mo) (mf_s1 mo) (mf_s2 mo)) rfl rfl (by decide) in_M tyok_M nm_M tb_510 rfl rfl rfl rfl (Nat.le_of_ble_eq_true rfl) rfl d_M_drop_41 (fun H locs h => ?_)
        refine lv_aload_n C.1 C.2.1 d_M_drop_44 rfl (lv_at hl 0 rfl) ?_
        refine sd_get C h 0 0 (v := .int 1) (ci := 3) (Cn := "StockDeskModel") (T := T_M) (N := 19) rfl rfl (by decide) in_M tb_510 rfl d_M_drop_45 ?_
        refine lv_if_eq (tgt := 53) C.1 C.2.1 d_M_drop_48 (by decide) (fun c48 => ?_) (fun c48 => ?_)
        · exact absurd c48 (by decide)
        · refine lv_iconst (v := 0) C.1 C.2.1 d_M_drop_51 (by decide) ?_
          have h := sd_world h (ws' := sd_M k3 q (mm_tc mo 1)) (by simp only [sd_M, mm_tc, mm_make, mm_drop, mm_kind, mm_answer, mm_way, mm_tell, mm_work, mm_byte, mm_keep, mm_dec, mm_fresh, hd_m, mf_tc, mf_ac, mf_aa, mf_md, mf_th, mf_us, mf_pk, mf_pb, mf_pf, mf_wt, mf_pw, mf_fl, mf_tw, mf_tp, mf_tn, mf_an, mf_co, mf_s1, mf_s2])
          exact sd_iret (v := 0) C hr hlk h (sm_px (sd_M k3 q) (mo := mm_tc mo 1) (c := 1) (o := o) ((if_neg hb).trans (if_pos (by rw [nI_clamp (show k < 2 ^ 31 by omega)]; exact ht))) (by decide) (sm_tc _ hm) rfl (by decide +kernel)) d_M_drop_52
    have ht := Classical.not_not.mp ht
    obtain ⟨j, h1, h9, rfl⟩ := sp_hasj ht
    have hth : ¬ hf_th (sS_u o) (k * 9 + j - 1) = 0 := by have z := ht.2.2; rw [nI_clamp (show j < 2 ^ 31 by omega)] at z; exact z
    have h := sd_world h (ws' := ([]) ++ (sd_M k3 q mo) ++ ([])) (by simp only [List.append_assoc, List.nil_append, List.append_nil])
    refine sd_calli h (va_runV (As := [.int (nI k), .int (nI j)]) (rest := [.ref (q 0)]) C (k_M_isThereT l D k3 H.size q mo (sS_u o) k j hm.2.2 hk h1 h9 hth) (sd_cwV 2 C.2.2.2.2 tb_596 tb_598 tb_17 tb_24 tb_599 rfl rfl (by decide +kernel) ⟨Nat.le_of_ble_eq_true rfl, Nat.le_of_ble_eq_true rfl⟩) (sd_preV h (q0 := 0) (T := T_M) (N := 19) rfl rfl) rfl rfl hl.1 rfl (lv_room (Nat.le_of_ble_eq_true rfl)) d_M_drop_17 ⟨Nat.le_of_ble_eq_true rfl, Nat.le_of_ble_eq_true rfl⟩) (fun r w1 H locs hq h => ?_)
    obtain ⟨rfl, rfl⟩ := hq
    have h := sd_world h (ws' := sd_M k3 q mo) (by simp only [List.append_assoc, List.nil_append, List.append_nil])
    refine lv_if_ne (tgt := 27) C.1 C.2.1 d_M_drop_20 (by decide) (fun c20 => ?_) (fun c20 => ?_)
    · refine lv_aload_n C.1 C.2.1 d_M_drop_27 rfl (lv_at hl 0 rfl) ?_
      refine sd_get C h 0 1 (v := .int (mf_ac mo)) (ci := 3) (Cn := "StockDeskModel") (T := T_M) (N := 19) rfl rfl (by decide) in_M tb_511 rfl d_M_drop_28 ?_
      refine lv_bipush (v := 60) C.1 C.2.1 d_M_drop_31 (by decide) ?_
      refine lv_icmp_ne (tgt := 40) C.1 C.2.1 d_M_drop_33 (by decide) (fun c33 => ?_) (fun c33 => ?_)
      · have hf := fun z => c33 ((sm_acts hm ho).mpr z)
        refine lv_iconst (v := 0) C.1 C.2.1 d_M_drop_40 (by decide) ?_
        refine sd_put C h 0 0 (v := .int 0) (ci := 3) (Cn := "StockDeskModel") (T := T_M) (N := 19) (ty0 := ty_M) (ws' := sd_Mx k3 q 0 (mf_ac mo) (mf_aa mo) (mf_md mo) (mf_th mo) (mf_us mo) (mf_pk mo) (mf_pb mo) (mf_pf mo) (mf_wt mo) (mf_pw mo) (mf_fl mo) (mf_tw mo) (mf_tp mo) (mf_tn mo) (mf_an mo) (mf_co mo) (mf_s1 mo) (mf_s2 mo)) rfl rfl (by decide) in_M tyok_M nm_M tb_510 rfl rfl rfl rfl (Nat.le_of_ble_eq_true rfl) rfl d_M_drop_41 (fun H locs h => ?_)
        refine lv_aload_n C.1 C.2.1 d_M_drop_44 rfl (lv_at hl 0 rfl) ?_
        refine sd_get C h 0 0 (v := .int 0) (ci := 3) (Cn := "StockDeskModel") (T := T_M) (N := 19) rfl rfl (by decide) in_M tb_510 rfl d_M_drop_45 ?_
        refine lv_if_eq (tgt := 53) C.1 C.2.1 d_M_drop_48 (by decide) (fun c48 => ?_) (fun c48 => ?_)
        · refine lv_aload_n C.1 C.2.1 d_M_drop_53 rfl (lv_at hl 0 rfl) ?_
          refine lv_iconst (v := 1) C.1 C.2.1 d_M_drop_54 (by decide) ?_
          refine lv_iload_n C.1 C.2.1 d_M_drop_55 rfl (lv_at hl 1 rfl) ?_
          refine lv_iload_n C.1 C.2.1 d_M_drop_56 rfl (lv_at hl 2 rfl) ?_
          refine lv_iconst (v := 0) C.1 C.2.1 d_M_drop_57 (by decide) ?_
          have h := sd_world h (ws' := sd_M k3 q (mm_tc mo 0)) (by simp only [sd_M, mm_tc, mm_make, mm_drop, mm_kind, mm_answer, mm_way, mm_tell, mm_work, mm_byte, mm_keep, mm_dec, mm_fresh, hd_m, mf_tc, mf_ac, mf_aa, mf_md, mf_th, mf_us, mf_pk, mf_pb, mf_pf, mf_wt, mf_pw, mf_fl, mf_tw, mf_tp, mf_tn, mf_an, mf_co, mf_s1, mf_s2])
          have h := sd_world h (ws' := ([]) ++ (sd_M k3 q (mm_tc mo 0)) ++ ([])) (by simp only [List.append_assoc, List.nil_append, List.append_nil])
          refine sd_callv h (va_runV (As := [.int 1, .int (nI k), .int (nI j), .int 0]) (rest := []) C (k_M_keep l D k3 H.size q (mm_tc mo 0) o 1 (nI k) (nI j) 0 ho (sm_tc _ hm) (Classical.not_not.mp hf) (Or.inr (Or.inl ⟨rfl, k, j, hk, h1, h9, rfl, rfl⟩))) (sd_cwV 4 C.2.2.2.2 tb_579 tb_581 tb_14 tb_24 tb_582 rfl rfl (by decide +kernel) ⟨Nat.le_of_ble_eq_true rfl, Nat.le_of_ble_eq_true rfl⟩) (sd_preV h (q0 := 0) (T := T_M) (N := 19) rfl rfl) rfl rfl hl.1 rfl (lv_room (Nat.le_of_ble_eq_true rfl)) d_M_drop_58 ⟨Nat.le_of_ble_eq_true rfl, Nat.le_of_ble_eq_true rfl⟩) (fun w1 H locs hq h => ?_)
          obtain ⟨m2, rfl, hm2, ht2⟩ := hq
          have h := sd_world h (ws' := sd_M k3 q m2) (by simp only [List.append_assoc, List.nil_append, List.append_nil])
          refine lv_aload_n C.1 C.2.1 d_M_drop_61 rfl (lv_at hl 0 rfl) ?_
          refine sd_get C h 0 5 (v := .ref (q 4)) (ci := 3) (Cn := "StockDeskModel") (T := T_M) (N := 19) rfl rfl (by decide) in_M tb_515 rfl d_M_drop_62 ?_
          refine lv_bipush (v := 10) C.1 C.2.1 d_M_drop_65 (by decide) ?_
          refine lv_iload_n C.1 C.2.1 d_M_drop_67 rfl (lv_at hl 1 rfl) ?_
          refine lv_imul C.1 C.2.1 d_M_drop_68 ?_
          refine lv_iload_n C.1 C.2.1 d_M_drop_69 rfl (lv_at hl 2 rfl) ?_
          refine lv_iadd C.1 C.2.1 d_M_drop_70 ?_
          refine sd_top (v := .int ((10 * (nI k)) + (nI j))) (v' := .int (nI (10 * k + j))) (congrArg Value.int (sm_ix k j)) ?_
          refine sd_iald C h 4 0 (i := (10 * k + j)) rfl rfl (by omega) (by decide) d_M_drop_71 ?_
          exact sd_iret (v := (mf_us m2) (10 * k + j)) C hr hlk h (sm_pra (sd_M k3 q) ((if_neg hb).trans ((if_neg (by rw [nI_clamp (show k < 2 ^ 31 by omega)]; exact not_not_intro ht)).trans ((if_neg hf).trans rfl))) hm2 ht2 (by decide +kernel) (fun e9 => by rw [e9]; show mf_us m2 (10 * k + j) = ((hf_us (sS_u o) ((nI k).toNatClampNeg * 9 + (nI j).toNatClampNeg - 1)).toInt64).toInt32; rw [sd_back32, nI_clamp (show k < 2 ^ 31 by omega), nI_clamp (show j < 2 ^ 31 by omega), hm2.2.2.us k j hk h1 h9, sv_drop hk h9])) d_M_drop_72
        · exact absurd c48 (by decide)
      · have hf := (sm_acts hm ho).mp c33
        refine lv_iconst (v := 3) C.1 C.2.1 d_M_drop_36 (by decide) ?_
        refine lv_goto (tgt := 41) C.1 C.2.1 d_M_drop_37 (by decide) ?_
        refine sd_put C h 0 0 (v := .int 3) (ci := 3) (Cn := "StockDeskModel") (T := T_M) (N := 19) (ty0 := ty_M) (ws' := sd_Mx k3 q 3 (mf_ac mo) (mf_aa mo) (mf_md mo) (mf_th mo) (mf_us mo) (mf_pk mo) (mf_pb mo) (mf_pf mo) (mf_wt mo) (mf_pw mo) (mf_fl mo) (mf_tw mo) (mf_tp mo) (mf_tn mo) (mf_an mo) (mf_co mo) (mf_s1 mo) (mf_s2 mo)) rfl rfl (by decide) in_M tyok_M nm_M tb_510 rfl rfl rfl rfl (Nat.le_of_ble_eq_true rfl) rfl d_M_drop_41 (fun H locs h => ?_)
        refine lv_aload_n C.1 C.2.1 d_M_drop_44 rfl (lv_at hl 0 rfl) ?_
        refine sd_get C h 0 0 (v := .int 3) (ci := 3) (Cn := "StockDeskModel") (T := T_M) (N := 19) rfl rfl (by decide) in_M tb_510 rfl d_M_drop_45 ?_
        refine lv_if_eq (tgt := 53) C.1 C.2.1 d_M_drop_48 (by decide) (fun c48 => ?_) (fun c48 => ?_)
        · exact absurd c48 (by decide)
        · refine lv_iconst (v := 0) C.1 C.2.1 d_M_drop_51 (by decide) ?_
          have h := sd_world h (ws' := sd_M k3 q (mm_tc mo 3)) (by simp only [sd_M, mm_tc, mm_make, mm_drop, mm_kind, mm_answer, mm_way, mm_tell, mm_work, mm_byte, mm_keep, mm_dec, mm_fresh, hd_m, mf_tc, mf_ac, mf_aa, mf_md, mf_th, mf_us, mf_pk, mf_pb, mf_pf, mf_wt, mf_pw, mf_fl, mf_tw, mf_tp, mf_tn, mf_an, mf_co, mf_s1, mf_s2])
          exact sd_iret (v := 0) C hr hlk h (sm_px (sd_M k3 q) (mo := mm_tc mo 3) (c := 3) (o := o) ((if_neg hb).trans ((if_neg (by rw [nI_clamp (show k < 2 ^ 31 by omega)]; exact not_not_intro ht)).trans (if_pos hf))) (by decide) (sm_tc _ hm) rfl (by decide +kernel)) d_M_drop_52
    · exact absurd c20 (by decide)
  · exact absurd c7 (by decide)

set_option maxHeartbeats 4000000 in
set_option maxRecDepth 100000 in
theorem k_M_serves (l : Launch) (D : va_G) (k3 : ClassId × ClassId × ClassId) (sz : Nat) (q : Nat → Nat) (mo : sd_MS) (o : sd_S) (x : Int32) (y : Int32) (ho : sS_ok o) (hm : sm_all mo o) : Met l y_M_serves (sd_ws y_M_serves c_M_serves 3 none) ({ frames := 3, cells := 0, slots := 0, locals := 72 }) (sd_Pc D (sd_t3 k3) [.ref (q 0), .int x, .int y] sz (sd_M k3 q mo)) (sd_Qv D (sd_t3 k3) (va_A (sd_M k3 q mo) sz) (fun w => ∃ m9, w = sd_M k3 q m9 ∧ sm_all m9 (sp_serves o x y).2.2 ∧ mf_tc m9 = sp_cd [xIA, xUO] (sp_serves o x y).1 ∧ ((sp_serves o x y).1 = "" → True))) 0 0 (va_A (sd_M k3 q mo) sz) := by
  refine sd_met (cc := c_M_serves) (maxL := 3) (ret := none) (by decide) (Nat.le_of_ble_eq_true rfl) (fun p e s m below meth c C hr hlk hnm hsz h ls hl => ?_)
  generalize va_A (sd_M k3 q mo) sz = A at h ⊢
  have hl : lv_has ls 3 [(0, .ref (q 0)), (1, .int x), (2, .int y)] := hl
  generalize hH : s.heap = H at h ⊢
  refine lv_aload_n C.1 C.2.1 d_M_serves_0 rfl (lv_at hl 0 rfl) ?_
  refine lv_iload_n C.1 C.2.1 d_M_serves_1 rfl (lv_at hl 1 rfl) ?_
  refine lv_iconst (v := 0) C.1 C.2.1 d_M_serves_2 (by decide) ?_
  refine lv_iconst (v := 5) C.1 C.2.1 d_M_serves_3 (by decide) ?_
  rcases Classical.em (sp_bad x 6) with hb | hb
  · have h := sd_world h (ws' := ([]) ++ ([]) ++ (sd_M k3 q mo)) (by simp only [List.append_assoc, List.nil_append, List.append_nil])
    refine sd_calli h (va_runS (As := [.int x, .int 0, .int 5]) (rest := [.ref (q 0)]) C (k_M_notT l D k3 H.size x 0 5 ((sp_k6 _).mpr hb)) (sd_cwS 3 C.2.2.2.2 tb_576 tb_577 tb_24 tb_578 rfl rfl (by decide +kernel) ⟨Nat.le_of_ble_eq_true rfl, Nat.le_of_ble_eq_true rfl⟩) (sd_preS h) rfl rfl hl.1 rfl (lv_room (Nat.le_of_ble_eq_true rfl)) d_M_serves_4 ⟨Nat.le_of_ble_eq_true rfl, Nat.le_of_ble_eq_true rfl⟩) (fun r w1 H locs hq h => ?_)
    obtain ⟨rfl, rfl⟩ := hq
    have h := sd_world h (ws' := sd_M k3 q mo) (by simp only [List.append_assoc, List.nil_append, List.append_nil])
    refine lv_if_ne (tgt := 19) C.1 C.2.1 d_M_serves_7 (by decide) (fun c7 => ?_) (fun c7 => ?_)
    · refine lv_iconst (v := 1) C.1 C.2.1 d_M_serves_19 (by decide) ?_
      refine lv_goto (tgt := 37) C.1 C.2.1 d_M_serves_20 (by decide) ?_
      refine sd_put C h 0 0 (v := .int 1) (ci := 3) (Cn := "StockDeskModel") (T := T_M) (N := 19) (ty0 := ty_M) (ws' := sd_Mx k3 q 1 (mf_ac mo) (mf_aa mo) (mf_md mo) (mf_th mo) (mf_us mo) (mf_pk mo) (mf_pb mo) (mf_pf mo) (mf_wt mo) (mf_pw mo) (mf_fl mo) (mf_tw mo) (mf_tp mo) (mf_tn mo) (mf_an mo) (mf_co mo) (mf_s1 mo) (mf_s2 mo)) rfl rfl (by decide) in_M tyok_M nm_M tb_510 rfl rfl rfl rfl (Nat.le_of_ble_eq_true rfl) rfl d_M_serves_37 (fun H locs h => ?_)
      refine lv_aload_n C.1 C.2.1 d_M_serves_40 rfl (lv_at hl 0 rfl) ?_
      refine sd_get C h 0 0 (v := .int 1) (ci := 3) (Cn := "StockDeskModel") (T := T_M) (N := 19) rfl rfl (by decide) in_M tb_510 rfl d_M_serves_41 ?_
      refine lv_if_ne (tgt := 55) C.1 C.2.1 d_M_serves_44 (by decide) (fun c44 => ?_) (fun c44 => ?_)
      · have h := sd_world h (ws' := sd_M k3 q (mm_tc mo 1)) (by simp only [sd_M, mm_tc, mm_make, mm_drop, mm_kind, mm_answer, mm_way, mm_tell, mm_work, mm_byte, mm_keep, mm_dec, mm_fresh, hd_m, mf_tc, mf_ac, mf_aa, mf_md, mf_th, mf_us, mf_pk, mf_pb, mf_pf, mf_wt, mf_pw, mf_fl, mf_tw, mf_tp, mf_tn, mf_an, mf_co, mf_s1, mf_s2])
        exact sd_vret C hr hlk h (sm_px (sd_M k3 q) (mo := mm_tc mo 1) (c := 1) (o := o) (if_pos hb) (by decide) (sm_tc _ hm) rfl (by decide +kernel)) d_M_serves_55
      · exact absurd c44 (by decide)
    · exact absurd c7 (by decide)
  have h := sd_world h (ws' := ([]) ++ ([]) ++ (sd_M k3 q mo)) (by simp only [List.append_assoc, List.nil_append, List.append_nil])
  refine sd_calli h (va_runS (As := [.int x, .int 0, .int 5]) (rest := [.ref (q 0)]) C (k_M_notF l D k3 H.size x 0 5 (fun z => hb ((sp_k6 _).mp z))) (sd_cwS 3 C.2.2.2.2 tb_576 tb_577 tb_24 tb_578 rfl rfl (by decide +kernel) ⟨Nat.le_of_ble_eq_true rfl, Nat.le_of_ble_eq_true rfl⟩) (sd_preS h) rfl rfl hl.1 rfl (lv_room (Nat.le_of_ble_eq_true rfl)) d_M_serves_4 ⟨Nat.le_of_ble_eq_true rfl, Nat.le_of_ble_eq_true rfl⟩) (fun r w1 H locs hq h => ?_)
  obtain ⟨rfl, rfl⟩ := hq
  have h := sd_world h (ws' := sd_M k3 q mo) (by simp only [List.append_assoc, List.nil_append, List.append_nil])
  obtain ⟨pt, hpt, rfl⟩ := sp_in 6 rfl (by decide) hb
  refine lv_if_ne (tgt := 19) C.1 C.2.1 d_M_serves_7 (by decide) (fun c7 => ?_) (fun c7 => ?_)
  · exact absurd c7 (by decide)
  · refine lv_iload_n C.1 C.2.1 d_M_serves_10 rfl (lv_at hl 2 rfl) ?_
    refine lv_iconst (v := 0) C.1 C.2.1 d_M_serves_11 (by decide) ?_
    refine lv_iconst (v := 4) C.1 C.2.1 d_M_serves_12 (by decide) ?_
    rcases Classical.em (sp_bad y 5) with hb2 | hb2
    · have h := sd_world h (ws' := ([]) ++ ([]) ++ (sd_M k3 q mo)) (by simp only [List.append_assoc, List.nil_append, List.append_nil])
      refine sd_calli h (va_runS (As := [.int y, .int 0, .int 4]) (rest := [.ref (q 0)]) C (k_M_notT l D k3 H.size y 0 4 ((sp_k5 _).mpr hb2)) (sd_cwS 3 C.2.2.2.2 tb_576 tb_577 tb_24 tb_578 rfl rfl (by decide +kernel) ⟨Nat.le_of_ble_eq_true rfl, Nat.le_of_ble_eq_true rfl⟩) (sd_preS h) rfl rfl hl.1 rfl (lv_room (Nat.le_of_ble_eq_true rfl)) d_M_serves_13 ⟨Nat.le_of_ble_eq_true rfl, Nat.le_of_ble_eq_true rfl⟩) (fun r w1 H locs hq h => ?_)
      obtain ⟨rfl, rfl⟩ := hq
      have h := sd_world h (ws' := sd_M k3 q mo) (by simp only [List.append_assoc, List.nil_append, List.append_nil])
      refine lv_if_eq (tgt := 23) C.1 C.2.1 d_M_serves_16 (by decide) (fun c16 => ?_) (fun c16 => ?_)
      · exact absurd c16 (by decide)
      · refine lv_iconst (v := 1) C.1 C.2.1 d_M_serves_19 (by decide) ?_
        refine lv_goto (tgt := 37) C.1 C.2.1 d_M_serves_20 (by decide) ?_
        refine sd_put C h 0 0 (v := .int 1) (ci := 3) (Cn := "StockDeskModel") (T := T_M) (N := 19) (ty0 := ty_M) (ws' := sd_Mx k3 q 1 (mf_ac mo) (mf_aa mo) (mf_md mo) (mf_th mo) (mf_us mo) (mf_pk mo) (mf_pb mo) (mf_pf mo) (mf_wt mo) (mf_pw mo) (mf_fl mo) (mf_tw mo) (mf_tp mo) (mf_tn mo) (mf_an mo) (mf_co mo) (mf_s1 mo) (mf_s2 mo)) rfl rfl (by decide) in_M tyok_M nm_M tb_510 rfl rfl rfl rfl (Nat.le_of_ble_eq_true rfl) rfl d_M_serves_37 (fun H locs h => ?_)
        refine lv_aload_n C.1 C.2.1 d_M_serves_40 rfl (lv_at hl 0 rfl) ?_
        refine sd_get C h 0 0 (v := .int 1) (ci := 3) (Cn := "StockDeskModel") (T := T_M) (N := 19) rfl rfl (by decide) in_M tb_510 rfl d_M_serves_41 ?_
        refine lv_if_ne (tgt := 55) C.1 C.2.1 d_M_serves_44 (by decide) (fun c44 => ?_) (fun c44 => ?_)
        · have h := sd_world h (ws' := sd_M k3 q (mm_tc mo 1)) (by simp only [sd_M, mm_tc, mm_make, mm_drop, mm_kind, mm_answer, mm_way, mm_tell, mm_work, mm_byte, mm_keep, mm_dec, mm_fresh, hd_m, mf_tc, mf_ac, mf_aa, mf_md, mf_th, mf_us, mf_pk, mf_pb, mf_pf, mf_wt, mf_pw, mf_fl, mf_tw, mf_tp, mf_tn, mf_an, mf_co, mf_s1, mf_s2])
          exact sd_vret C hr hlk h (sm_px (sd_M k3 q) (mo := mm_tc mo 1) (c := 1) (o := o) ((if_neg hb).trans (if_pos hb2)) (by decide) (sm_tc _ hm) rfl (by decide +kernel)) d_M_serves_55
        · exact absurd c44 (by decide)
    have h := sd_world h (ws' := ([]) ++ ([]) ++ (sd_M k3 q mo)) (by simp only [List.append_assoc, List.nil_append, List.append_nil])
    refine sd_calli h (va_runS (As := [.int y, .int 0, .int 4]) (rest := [.ref (q 0)]) C (k_M_notF l D k3 H.size y 0 4 (fun z => hb2 ((sp_k5 _).mp z))) (sd_cwS 3 C.2.2.2.2 tb_576 tb_577 tb_24 tb_578 rfl rfl (by decide +kernel) ⟨Nat.le_of_ble_eq_true rfl, Nat.le_of_ble_eq_true rfl⟩) (sd_preS h) rfl rfl hl.1 rfl (lv_room (Nat.le_of_ble_eq_true rfl)) d_M_serves_13 ⟨Nat.le_of_ble_eq_true rfl, Nat.le_of_ble_eq_true rfl⟩) (fun r w1 H locs hq h => ?_)
    obtain ⟨rfl, rfl⟩ := hq
    have h := sd_world h (ws' := sd_M k3 q mo) (by simp only [List.append_assoc, List.nil_append, List.append_nil])
    obtain ⟨k, hk, rfl⟩ := sp_in 5 rfl (by decide) hb2
    refine lv_if_eq (tgt := 23) C.1 C.2.1 d_M_serves_16 (by decide) (fun c16 => ?_) (fun c16 => ?_)
    · refine lv_aload_n C.1 C.2.1 d_M_serves_23 rfl (lv_at hl 0 rfl) ?_
      refine sd_get C h 0 1 (v := .int (mf_ac mo)) (ci := 3) (Cn := "StockDeskModel") (T := T_M) (N := 19) rfl rfl (by decide) in_M tb_511 rfl d_M_serves_24 ?_
      refine lv_bipush (v := 60) C.1 C.2.1 d_M_serves_27 (by decide) ?_
      refine lv_icmp_ne (tgt := 36) C.1 C.2.1 d_M_serves_29 (by decide) (fun c29 => ?_) (fun c29 => ?_)
      · have hf := fun z => c29 ((sm_acts hm ho).mpr z)
        refine lv_iconst (v := 0) C.1 C.2.1 d_M_serves_36 (by decide) ?_
        refine sd_put C h 0 0 (v := .int 0) (ci := 3) (Cn := "StockDeskModel") (T := T_M) (N := 19) (ty0 := ty_M) (ws' := sd_Mx k3 q 0 (mf_ac mo) (mf_aa mo) (mf_md mo) (mf_th mo) (mf_us mo) (mf_pk mo) (mf_pb mo) (mf_pf mo) (mf_wt mo) (mf_pw mo) (mf_fl mo) (mf_tw mo) (mf_tp mo) (mf_tn mo) (mf_an mo) (mf_co mo) (mf_s1 mo) (mf_s2 mo)) rfl rfl (by decide) in_M tyok_M nm_M tb_510 rfl rfl rfl rfl (Nat.le_of_ble_eq_true rfl) rfl d_M_serves_37 (fun H locs h => ?_)
        refine lv_aload_n C.1 C.2.1 d_M_serves_40 rfl (lv_at hl 0 rfl) ?_
        refine sd_get C h 0 0 (v := .int 0) (ci := 3) (Cn := "StockDeskModel") (T := T_M) (N := 19) rfl rfl (by decide) in_M tb_510 rfl d_M_serves_41 ?_
        refine lv_if_ne (tgt := 55) C.1 C.2.1 d_M_serves_44 (by decide) (fun c44 => ?_) (fun c44 => ?_)
        · exact absurd c44 (by decide)
        · refine lv_aload_n C.1 C.2.1 d_M_serves_47 rfl (lv_at hl 0 rfl) ?_
          refine lv_iconst (v := 2) C.1 C.2.1 d_M_serves_48 (by decide) ?_
          refine lv_iload_n C.1 C.2.1 d_M_serves_49 rfl (lv_at hl 1 rfl) ?_
          refine lv_iload_n C.1 C.2.1 d_M_serves_50 rfl (lv_at hl 2 rfl) ?_
          refine lv_iconst (v := 0) C.1 C.2.1 d_M_serves_51 (by decide) ?_
          have h := sd_world h (ws' := sd_M k3 q (mm_tc mo 0)) (by simp only [sd_M, mm_tc, mm_make, mm_drop, mm_kind, mm_answer, mm_way, mm_tell, mm_work, mm_byte, mm_keep, mm_dec, mm_fresh, hd_m, mf_tc, mf_ac, mf_aa, mf_md, mf_th, mf_us, mf_pk, mf_pb, mf_pf, mf_wt, mf_pw, mf_fl, mf_tw, mf_tp, mf_tn, mf_an, mf_co, mf_s1, mf_s2])
          have h := sd_world h (ws' := ([]) ++ (sd_M k3 q (mm_tc mo 0)) ++ ([])) (by simp only [List.append_assoc, List.nil_append, List.append_nil])
          refine sd_callv h (va_runV (As := [.int 2, .int (nI pt), .int (nI k), .int 0]) (rest := []) C (k_M_keep l D k3 H.size q (mm_tc mo 0) o 2 (nI pt) (nI k) 0 ho (sm_tc _ hm) (Classical.not_not.mp hf) (Or.inr (Or.inr (Or.inl ⟨rfl, pt, k, hpt, hk, rfl, rfl⟩)))) (sd_cwV 4 C.2.2.2.2 tb_579 tb_581 tb_14 tb_24 tb_582 rfl rfl (by decide +kernel) ⟨Nat.le_of_ble_eq_true rfl, Nat.le_of_ble_eq_true rfl⟩) (sd_preV h (q0 := 0) (T := T_M) (N := 19) rfl rfl) rfl rfl hl.1 rfl (lv_room (Nat.le_of_ble_eq_true rfl)) d_M_serves_52 ⟨Nat.le_of_ble_eq_true rfl, Nat.le_of_ble_eq_true rfl⟩) (fun w1 H locs hq h => ?_)
          obtain ⟨m2, rfl, hm2, ht2⟩ := hq
          have h := sd_world h (ws' := sd_M k3 q m2) (by simp only [List.append_assoc, List.nil_append, List.append_nil])
          exact sd_vret C hr hlk h (sm_pra (sd_M k3 q) ((if_neg hb).trans ((if_neg hb2).trans ((if_neg hf).trans rfl))) hm2 ht2 (by decide +kernel) (fun _ => trivial)) d_M_serves_55
      · have hf := (sm_acts hm ho).mp c29
        refine lv_iconst (v := 2) C.1 C.2.1 d_M_serves_32 (by decide) ?_
        refine lv_goto (tgt := 37) C.1 C.2.1 d_M_serves_33 (by decide) ?_
        refine sd_put C h 0 0 (v := .int 2) (ci := 3) (Cn := "StockDeskModel") (T := T_M) (N := 19) (ty0 := ty_M) (ws' := sd_Mx k3 q 2 (mf_ac mo) (mf_aa mo) (mf_md mo) (mf_th mo) (mf_us mo) (mf_pk mo) (mf_pb mo) (mf_pf mo) (mf_wt mo) (mf_pw mo) (mf_fl mo) (mf_tw mo) (mf_tp mo) (mf_tn mo) (mf_an mo) (mf_co mo) (mf_s1 mo) (mf_s2 mo)) rfl rfl (by decide) in_M tyok_M nm_M tb_510 rfl rfl rfl rfl (Nat.le_of_ble_eq_true rfl) rfl d_M_serves_37 (fun H locs h => ?_)
        refine lv_aload_n C.1 C.2.1 d_M_serves_40 rfl (lv_at hl 0 rfl) ?_
        refine sd_get C h 0 0 (v := .int 2) (ci := 3) (Cn := "StockDeskModel") (T := T_M) (N := 19) rfl rfl (by decide) in_M tb_510 rfl d_M_serves_41 ?_
        refine lv_if_ne (tgt := 55) C.1 C.2.1 d_M_serves_44 (by decide) (fun c44 => ?_) (fun c44 => ?_)
        · have h := sd_world h (ws' := sd_M k3 q (mm_tc mo 2)) (by simp only [sd_M, mm_tc, mm_make, mm_drop, mm_kind, mm_answer, mm_way, mm_tell, mm_work, mm_byte, mm_keep, mm_dec, mm_fresh, hd_m, mf_tc, mf_ac, mf_aa, mf_md, mf_th, mf_us, mf_pk, mf_pb, mf_pf, mf_wt, mf_pw, mf_fl, mf_tw, mf_tp, mf_tn, mf_an, mf_co, mf_s1, mf_s2])
          exact sd_vret C hr hlk h (sm_px (sd_M k3 q) (mo := mm_tc mo 2) (c := 2) (o := o) ((if_neg hb).trans ((if_neg hb2).trans (if_pos hf))) (by decide) (sm_tc _ hm) rfl (by decide +kernel)) d_M_serves_55
        · exact absurd c44 (by decide)
    · exact absurd c16 (by decide)

set_option maxHeartbeats 4000000 in
set_option maxRecDepth 100000 in
theorem k_M_answers (l : Launch) (D : va_G) (k3 : ClassId × ClassId × ClassId) (sz : Nat) (q : Nat → Nat) (mo : sd_MS) (o : sd_S) (x : Int32) (y : Int32) (z : Int32) (ho : sS_ok o) (hm : sm_all mo o) : Met l y_M_answers (sd_ws y_M_answers c_M_answers 4 none) ({ frames := 3, cells := 0, slots := 0, locals := 72 }) (sd_Pc D (sd_t3 k3) [.ref (q 0), .int x, .int y, .int z] sz (sd_M k3 q mo)) (sd_Qv D (sd_t3 k3) (va_A (sd_M k3 q mo) sz) (fun w => ∃ m9, w = sd_M k3 q m9 ∧ sm_all m9 (sp_answers o x y z).2.2 ∧ mf_tc m9 = sp_cd [xIA, xUO] (sp_answers o x y z).1 ∧ ((sp_answers o x y z).1 = "" → True))) 0 0 (va_A (sd_M k3 q mo) sz) := by
  refine sd_met (cc := c_M_answers) (maxL := 4) (ret := none) (by decide) (Nat.le_of_ble_eq_true rfl) (fun p e s m below meth c C hr hlk hnm hsz h ls hl => ?_)
  generalize va_A (sd_M k3 q mo) sz = A at h ⊢
  have hl : lv_has ls 4 [(0, .ref (q 0)), (1, .int x), (2, .int y), (3, .int z)] := hl
  generalize hH : s.heap = H at h ⊢
  refine lv_aload_n C.1 C.2.1 d_M_answers_0 rfl (lv_at hl 0 rfl) ?_
  refine lv_iload_n C.1 C.2.1 d_M_answers_1 rfl (lv_at hl 1 rfl) ?_
  refine lv_iconst (v := 0) C.1 C.2.1 d_M_answers_2 (by decide) ?_
  refine lv_iconst (v := 5) C.1 C.2.1 d_M_answers_3 (by decide) ?_
  rcases Classical.em (sp_bad x 6) with hb | hb
  · have h := sd_world h (ws' := ([]) ++ ([]) ++ (sd_M k3 q mo)) (by simp only [List.append_assoc, List.nil_append, List.append_nil])
    refine sd_calli h (va_runS (As := [.int x, .int 0, .int 5]) (rest := [.ref (q 0)]) C (k_M_notT l D k3 H.size x 0 5 ((sp_k6 _).mpr hb)) (sd_cwS 3 C.2.2.2.2 tb_576 tb_577 tb_24 tb_578 rfl rfl (by decide +kernel) ⟨Nat.le_of_ble_eq_true rfl, Nat.le_of_ble_eq_true rfl⟩) (sd_preS h) rfl rfl hl.1 rfl (lv_room (Nat.le_of_ble_eq_true rfl)) d_M_answers_4 ⟨Nat.le_of_ble_eq_true rfl, Nat.le_of_ble_eq_true rfl⟩) (fun r w1 H locs hq h => ?_)
    obtain ⟨rfl, rfl⟩ := hq
    have h := sd_world h (ws' := sd_M k3 q mo) (by simp only [List.append_assoc, List.nil_append, List.append_nil])
    refine lv_if_ne (tgt := 32) C.1 C.2.1 d_M_answers_7 (by decide) (fun c7 => ?_) (fun c7 => ?_)
    · refine lv_iconst (v := 1) C.1 C.2.1 d_M_answers_32 (by decide) ?_
      refine lv_goto (tgt := 50) C.1 C.2.1 d_M_answers_33 (by decide) ?_
      refine sd_put C h 0 0 (v := .int 1) (ci := 3) (Cn := "StockDeskModel") (T := T_M) (N := 19) (ty0 := ty_M) (ws' := sd_Mx k3 q 1 (mf_ac mo) (mf_aa mo) (mf_md mo) (mf_th mo) (mf_us mo) (mf_pk mo) (mf_pb mo) (mf_pf mo) (mf_wt mo) (mf_pw mo) (mf_fl mo) (mf_tw mo) (mf_tp mo) (mf_tn mo) (mf_an mo) (mf_co mo) (mf_s1 mo) (mf_s2 mo)) rfl rfl (by decide) in_M tyok_M nm_M tb_510 rfl rfl rfl rfl (Nat.le_of_ble_eq_true rfl) rfl d_M_answers_50 (fun H locs h => ?_)
      refine lv_aload_n C.1 C.2.1 d_M_answers_53 rfl (lv_at hl 0 rfl) ?_
      refine sd_get C h 0 0 (v := .int 1) (ci := 3) (Cn := "StockDeskModel") (T := T_M) (N := 19) rfl rfl (by decide) in_M tb_510 rfl d_M_answers_54 ?_
      refine lv_if_ne (tgt := 68) C.1 C.2.1 d_M_answers_57 (by decide) (fun c57 => ?_) (fun c57 => ?_)
      · have h := sd_world h (ws' := sd_M k3 q (mm_tc mo 1)) (by simp only [sd_M, mm_tc, mm_make, mm_drop, mm_kind, mm_answer, mm_way, mm_tell, mm_work, mm_byte, mm_keep, mm_dec, mm_fresh, hd_m, mf_tc, mf_ac, mf_aa, mf_md, mf_th, mf_us, mf_pk, mf_pb, mf_pf, mf_wt, mf_pw, mf_fl, mf_tw, mf_tp, mf_tn, mf_an, mf_co, mf_s1, mf_s2])
        exact sd_vret C hr hlk h (sm_px (sd_M k3 q) (mo := mm_tc mo 1) (c := 1) (o := o) (if_pos hb) (by decide) (sm_tc _ hm) rfl (by decide +kernel)) d_M_answers_68
      · exact absurd c57 (by decide)
    · exact absurd c7 (by decide)
  have h := sd_world h (ws' := ([]) ++ ([]) ++ (sd_M k3 q mo)) (by simp only [List.append_assoc, List.nil_append, List.append_nil])
  refine sd_calli h (va_runS (As := [.int x, .int 0, .int 5]) (rest := [.ref (q 0)]) C (k_M_notF l D k3 H.size x 0 5 (fun z => hb ((sp_k6 _).mp z))) (sd_cwS 3 C.2.2.2.2 tb_576 tb_577 tb_24 tb_578 rfl rfl (by decide +kernel) ⟨Nat.le_of_ble_eq_true rfl, Nat.le_of_ble_eq_true rfl⟩) (sd_preS h) rfl rfl hl.1 rfl (lv_room (Nat.le_of_ble_eq_true rfl)) d_M_answers_4 ⟨Nat.le_of_ble_eq_true rfl, Nat.le_of_ble_eq_true rfl⟩) (fun r w1 H locs hq h => ?_)
  obtain ⟨rfl, rfl⟩ := hq
  have h := sd_world h (ws' := sd_M k3 q mo) (by simp only [List.append_assoc, List.nil_append, List.append_nil])
  obtain ⟨pt, hpt, rfl⟩ := sp_in 6 rfl (by decide) hb
  refine lv_if_ne (tgt := 32) C.1 C.2.1 d_M_answers_7 (by decide) (fun c7 => ?_) (fun c7 => ?_)
  · exact absurd c7 (by decide)
  · refine lv_iload_n C.1 C.2.1 d_M_answers_10 rfl (lv_at hl 2 rfl) ?_
    refine lv_ldc (v := -1000000) C.1 C.2.1 C.2.2.2.1 (C.2.2.2.2 _ (List.mem_cons_of_mem _ tb_608)) d_M_answers_11 ?_
    refine lv_ldc (v := 1000000) C.1 C.2.1 C.2.2.2.1 (C.2.2.2.2 _ (List.mem_cons_of_mem _ tb_609)) d_M_answers_13 ?_
    rcases Classical.em (sp_amt y) with hb2 | hb2
    · have h := sd_world h (ws' := ([]) ++ ([]) ++ (sd_M k3 q mo)) (by simp only [List.append_assoc, List.nil_append, List.append_nil])
      refine sd_calli h (va_runS (As := [.int y, .int (-1000000), .int 1000000]) (rest := [.ref (q 0)]) C (k_M_notT l D k3 H.size y (-1000000) 1000000 hb2) (sd_cwS 3 C.2.2.2.2 tb_576 tb_577 tb_24 tb_578 rfl rfl (by decide +kernel) ⟨Nat.le_of_ble_eq_true rfl, Nat.le_of_ble_eq_true rfl⟩) (sd_preS h) rfl rfl hl.1 rfl (lv_room (Nat.le_of_ble_eq_true rfl)) d_M_answers_15 ⟨Nat.le_of_ble_eq_true rfl, Nat.le_of_ble_eq_true rfl⟩) (fun r w1 H locs hq h => ?_)
      obtain ⟨rfl, rfl⟩ := hq
      have h := sd_world h (ws' := sd_M k3 q mo) (by simp only [List.append_assoc, List.nil_append, List.append_nil])
      refine lv_if_ne (tgt := 32) C.1 C.2.1 d_M_answers_18 (by decide) (fun c18 => ?_) (fun c18 => ?_)
      · refine lv_iconst (v := 1) C.1 C.2.1 d_M_answers_32 (by decide) ?_
        refine lv_goto (tgt := 50) C.1 C.2.1 d_M_answers_33 (by decide) ?_
        refine sd_put C h 0 0 (v := .int 1) (ci := 3) (Cn := "StockDeskModel") (T := T_M) (N := 19) (ty0 := ty_M) (ws' := sd_Mx k3 q 1 (mf_ac mo) (mf_aa mo) (mf_md mo) (mf_th mo) (mf_us mo) (mf_pk mo) (mf_pb mo) (mf_pf mo) (mf_wt mo) (mf_pw mo) (mf_fl mo) (mf_tw mo) (mf_tp mo) (mf_tn mo) (mf_an mo) (mf_co mo) (mf_s1 mo) (mf_s2 mo)) rfl rfl (by decide) in_M tyok_M nm_M tb_510 rfl rfl rfl rfl (Nat.le_of_ble_eq_true rfl) rfl d_M_answers_50 (fun H locs h => ?_)
        refine lv_aload_n C.1 C.2.1 d_M_answers_53 rfl (lv_at hl 0 rfl) ?_
        refine sd_get C h 0 0 (v := .int 1) (ci := 3) (Cn := "StockDeskModel") (T := T_M) (N := 19) rfl rfl (by decide) in_M tb_510 rfl d_M_answers_54 ?_
        refine lv_if_ne (tgt := 68) C.1 C.2.1 d_M_answers_57 (by decide) (fun c57 => ?_) (fun c57 => ?_)
        · have h := sd_world h (ws' := sd_M k3 q (mm_tc mo 1)) (by simp only [sd_M, mm_tc, mm_make, mm_drop, mm_kind, mm_answer, mm_way, mm_tell, mm_work, mm_byte, mm_keep, mm_dec, mm_fresh, hd_m, mf_tc, mf_ac, mf_aa, mf_md, mf_th, mf_us, mf_pk, mf_pb, mf_pf, mf_wt, mf_pw, mf_fl, mf_tw, mf_tp, mf_tn, mf_an, mf_co, mf_s1, mf_s2])
          exact sd_vret C hr hlk h (sm_px (sd_M k3 q) (mo := mm_tc mo 1) (c := 1) (o := o) ((if_neg hb).trans (if_pos hb2)) (by decide) (sm_tc _ hm) rfl (by decide +kernel)) d_M_answers_68
        · exact absurd c57 (by decide)
      · exact absurd c18 (by decide)
    have h := sd_world h (ws' := ([]) ++ ([]) ++ (sd_M k3 q mo)) (by simp only [List.append_assoc, List.nil_append, List.append_nil])
    refine sd_calli h (va_runS (As := [.int y, .int (-1000000), .int 1000000]) (rest := [.ref (q 0)]) C (k_M_notF l D k3 H.size y (-1000000) 1000000 hb2) (sd_cwS 3 C.2.2.2.2 tb_576 tb_577 tb_24 tb_578 rfl rfl (by decide +kernel) ⟨Nat.le_of_ble_eq_true rfl, Nat.le_of_ble_eq_true rfl⟩) (sd_preS h) rfl rfl hl.1 rfl (lv_room (Nat.le_of_ble_eq_true rfl)) d_M_answers_15 ⟨Nat.le_of_ble_eq_true rfl, Nat.le_of_ble_eq_true rfl⟩) (fun r w1 H locs hq h => ?_)
    obtain ⟨rfl, rfl⟩ := hq
    have h := sd_world h (ws' := sd_M k3 q mo) (by simp only [List.append_assoc, List.nil_append, List.append_nil])
    refine lv_if_ne (tgt := 32) C.1 C.2.1 d_M_answers_18 (by decide) (fun c18 => ?_) (fun c18 => ?_)
    · exact absurd c18 (by decide)
    · refine lv_iload_n C.1 C.2.1 d_M_answers_21 rfl (lv_at hl 3 rfl) ?_
      refine lv_ldc (v := -1000000) C.1 C.2.1 C.2.2.2.1 (C.2.2.2.2 _ (List.mem_cons_of_mem _ tb_608)) d_M_answers_22 ?_
      refine lv_ldc (v := 1000000) C.1 C.2.1 C.2.2.2.1 (C.2.2.2.2 _ (List.mem_cons_of_mem _ tb_609)) d_M_answers_24 ?_
      rcases Classical.em (sp_amt z) with hb3 | hb3
      · have h := sd_world h (ws' := ([]) ++ ([]) ++ (sd_M k3 q mo)) (by simp only [List.append_assoc, List.nil_append, List.append_nil])
        refine sd_calli h (va_runS (As := [.int z, .int (-1000000), .int 1000000]) (rest := [.ref (q 0)]) C (k_M_notT l D k3 H.size z (-1000000) 1000000 hb3) (sd_cwS 3 C.2.2.2.2 tb_576 tb_577 tb_24 tb_578 rfl rfl (by decide +kernel) ⟨Nat.le_of_ble_eq_true rfl, Nat.le_of_ble_eq_true rfl⟩) (sd_preS h) rfl rfl hl.1 rfl (lv_room (Nat.le_of_ble_eq_true rfl)) d_M_answers_26 ⟨Nat.le_of_ble_eq_true rfl, Nat.le_of_ble_eq_true rfl⟩) (fun r w1 H locs hq h => ?_)
        obtain ⟨rfl, rfl⟩ := hq
        have h := sd_world h (ws' := sd_M k3 q mo) (by simp only [List.append_assoc, List.nil_append, List.append_nil])
        refine lv_if_eq (tgt := 36) C.1 C.2.1 d_M_answers_29 (by decide) (fun c29 => ?_) (fun c29 => ?_)
        · exact absurd c29 (by decide)
        · refine lv_iconst (v := 1) C.1 C.2.1 d_M_answers_32 (by decide) ?_
          refine lv_goto (tgt := 50) C.1 C.2.1 d_M_answers_33 (by decide) ?_
          refine sd_put C h 0 0 (v := .int 1) (ci := 3) (Cn := "StockDeskModel") (T := T_M) (N := 19) (ty0 := ty_M) (ws' := sd_Mx k3 q 1 (mf_ac mo) (mf_aa mo) (mf_md mo) (mf_th mo) (mf_us mo) (mf_pk mo) (mf_pb mo) (mf_pf mo) (mf_wt mo) (mf_pw mo) (mf_fl mo) (mf_tw mo) (mf_tp mo) (mf_tn mo) (mf_an mo) (mf_co mo) (mf_s1 mo) (mf_s2 mo)) rfl rfl (by decide) in_M tyok_M nm_M tb_510 rfl rfl rfl rfl (Nat.le_of_ble_eq_true rfl) rfl d_M_answers_50 (fun H locs h => ?_)
          refine lv_aload_n C.1 C.2.1 d_M_answers_53 rfl (lv_at hl 0 rfl) ?_
          refine sd_get C h 0 0 (v := .int 1) (ci := 3) (Cn := "StockDeskModel") (T := T_M) (N := 19) rfl rfl (by decide) in_M tb_510 rfl d_M_answers_54 ?_
          refine lv_if_ne (tgt := 68) C.1 C.2.1 d_M_answers_57 (by decide) (fun c57 => ?_) (fun c57 => ?_)
          · have h := sd_world h (ws' := sd_M k3 q (mm_tc mo 1)) (by simp only [sd_M, mm_tc, mm_make, mm_drop, mm_kind, mm_answer, mm_way, mm_tell, mm_work, mm_byte, mm_keep, mm_dec, mm_fresh, hd_m, mf_tc, mf_ac, mf_aa, mf_md, mf_th, mf_us, mf_pk, mf_pb, mf_pf, mf_wt, mf_pw, mf_fl, mf_tw, mf_tp, mf_tn, mf_an, mf_co, mf_s1, mf_s2])
            exact sd_vret C hr hlk h (sm_px (sd_M k3 q) (mo := mm_tc mo 1) (c := 1) (o := o) ((if_neg hb).trans ((if_neg hb2).trans (if_pos hb3))) (by decide) (sm_tc _ hm) rfl (by decide +kernel)) d_M_answers_68
          · exact absurd c57 (by decide)
      have h := sd_world h (ws' := ([]) ++ ([]) ++ (sd_M k3 q mo)) (by simp only [List.append_assoc, List.nil_append, List.append_nil])
      refine sd_calli h (va_runS (As := [.int z, .int (-1000000), .int 1000000]) (rest := [.ref (q 0)]) C (k_M_notF l D k3 H.size z (-1000000) 1000000 hb3) (sd_cwS 3 C.2.2.2.2 tb_576 tb_577 tb_24 tb_578 rfl rfl (by decide +kernel) ⟨Nat.le_of_ble_eq_true rfl, Nat.le_of_ble_eq_true rfl⟩) (sd_preS h) rfl rfl hl.1 rfl (lv_room (Nat.le_of_ble_eq_true rfl)) d_M_answers_26 ⟨Nat.le_of_ble_eq_true rfl, Nat.le_of_ble_eq_true rfl⟩) (fun r w1 H locs hq h => ?_)
      obtain ⟨rfl, rfl⟩ := hq
      have h := sd_world h (ws' := sd_M k3 q mo) (by simp only [List.append_assoc, List.nil_append, List.append_nil])
      refine lv_if_eq (tgt := 36) C.1 C.2.1 d_M_answers_29 (by decide) (fun c29 => ?_) (fun c29 => ?_)
      · refine lv_aload_n C.1 C.2.1 d_M_answers_36 rfl (lv_at hl 0 rfl) ?_
        refine sd_get C h 0 1 (v := .int (mf_ac mo)) (ci := 3) (Cn := "StockDeskModel") (T := T_M) (N := 19) rfl rfl (by decide) in_M tb_511 rfl d_M_answers_37 ?_
        refine lv_bipush (v := 60) C.1 C.2.1 d_M_answers_40 (by decide) ?_
        refine lv_icmp_ne (tgt := 49) C.1 C.2.1 d_M_answers_42 (by decide) (fun c42 => ?_) (fun c42 => ?_)
        · have hf := fun z => c42 ((sm_acts hm ho).mpr z)
          refine lv_iconst (v := 0) C.1 C.2.1 d_M_answers_49 (by decide) ?_
          refine sd_put C h 0 0 (v := .int 0) (ci := 3) (Cn := "StockDeskModel") (T := T_M) (N := 19) (ty0 := ty_M) (ws' := sd_Mx k3 q 0 (mf_ac mo) (mf_aa mo) (mf_md mo) (mf_th mo) (mf_us mo) (mf_pk mo) (mf_pb mo) (mf_pf mo) (mf_wt mo) (mf_pw mo) (mf_fl mo) (mf_tw mo) (mf_tp mo) (mf_tn mo) (mf_an mo) (mf_co mo) (mf_s1 mo) (mf_s2 mo)) rfl rfl (by decide) in_M tyok_M nm_M tb_510 rfl rfl rfl rfl (Nat.le_of_ble_eq_true rfl) rfl d_M_answers_50 (fun H locs h => ?_)
          refine lv_aload_n C.1 C.2.1 d_M_answers_53 rfl (lv_at hl 0 rfl) ?_
          refine sd_get C h 0 0 (v := .int 0) (ci := 3) (Cn := "StockDeskModel") (T := T_M) (N := 19) rfl rfl (by decide) in_M tb_510 rfl d_M_answers_54 ?_
          refine lv_if_ne (tgt := 68) C.1 C.2.1 d_M_answers_57 (by decide) (fun c57 => ?_) (fun c57 => ?_)
          · exact absurd c57 (by decide)
          · refine lv_aload_n C.1 C.2.1 d_M_answers_60 rfl (lv_at hl 0 rfl) ?_
            refine lv_iconst (v := 3) C.1 C.2.1 d_M_answers_61 (by decide) ?_
            refine lv_iload_n C.1 C.2.1 d_M_answers_62 rfl (lv_at hl 1 rfl) ?_
            refine lv_iload_n C.1 C.2.1 d_M_answers_63 rfl (lv_at hl 2 rfl) ?_
            refine lv_iload_n C.1 C.2.1 d_M_answers_64 rfl (lv_at hl 3 rfl) ?_
            have h := sd_world h (ws' := sd_M k3 q (mm_tc mo 0)) (by simp only [sd_M, mm_tc, mm_make, mm_drop, mm_kind, mm_answer, mm_way, mm_tell, mm_work, mm_byte, mm_keep, mm_dec, mm_fresh, hd_m, mf_tc, mf_ac, mf_aa, mf_md, mf_th, mf_us, mf_pk, mf_pb, mf_pf, mf_wt, mf_pw, mf_fl, mf_tw, mf_tp, mf_tn, mf_an, mf_co, mf_s1, mf_s2])
            have h := sd_world h (ws' := ([]) ++ (sd_M k3 q (mm_tc mo 0)) ++ ([])) (by simp only [List.append_assoc, List.nil_append, List.append_nil])
            refine sd_callv h (va_runV (As := [.int 3, .int (nI pt), .int y, .int z]) (rest := []) C (k_M_keep l D k3 H.size q (mm_tc mo 0) o 3 (nI pt) y z ho (sm_tc _ hm) (Classical.not_not.mp hf) (Or.inr (Or.inr (Or.inr (Or.inl ⟨rfl, pt, hpt, rfl⟩))))) (sd_cwV 4 C.2.2.2.2 tb_579 tb_581 tb_14 tb_24 tb_582 rfl rfl (by decide +kernel) ⟨Nat.le_of_ble_eq_true rfl, Nat.le_of_ble_eq_true rfl⟩) (sd_preV h (q0 := 0) (T := T_M) (N := 19) rfl rfl) rfl rfl hl.1 rfl (lv_room (Nat.le_of_ble_eq_true rfl)) d_M_answers_65 ⟨Nat.le_of_ble_eq_true rfl, Nat.le_of_ble_eq_true rfl⟩) (fun w1 H locs hq h => ?_)
            obtain ⟨m2, rfl, hm2, ht2⟩ := hq
            have h := sd_world h (ws' := sd_M k3 q m2) (by simp only [List.append_assoc, List.nil_append, List.append_nil])
            exact sd_vret C hr hlk h (sm_pra (sd_M k3 q) ((if_neg hb).trans ((if_neg hb2).trans ((if_neg hb3).trans ((if_neg hf).trans rfl)))) hm2 ht2 (by decide +kernel) (fun _ => trivial)) d_M_answers_68
        · have hf := (sm_acts hm ho).mp c42
          refine lv_iconst (v := 2) C.1 C.2.1 d_M_answers_45 (by decide) ?_
          refine lv_goto (tgt := 50) C.1 C.2.1 d_M_answers_46 (by decide) ?_
          refine sd_put C h 0 0 (v := .int 2) (ci := 3) (Cn := "StockDeskModel") (T := T_M) (N := 19) (ty0 := ty_M) (ws' := sd_Mx k3 q 2 (mf_ac mo) (mf_aa mo) (mf_md mo) (mf_th mo) (mf_us mo) (mf_pk mo) (mf_pb mo) (mf_pf mo) (mf_wt mo) (mf_pw mo) (mf_fl mo) (mf_tw mo) (mf_tp mo) (mf_tn mo) (mf_an mo) (mf_co mo) (mf_s1 mo) (mf_s2 mo)) rfl rfl (by decide) in_M tyok_M nm_M tb_510 rfl rfl rfl rfl (Nat.le_of_ble_eq_true rfl) rfl d_M_answers_50 (fun H locs h => ?_)
          refine lv_aload_n C.1 C.2.1 d_M_answers_53 rfl (lv_at hl 0 rfl) ?_
          refine sd_get C h 0 0 (v := .int 2) (ci := 3) (Cn := "StockDeskModel") (T := T_M) (N := 19) rfl rfl (by decide) in_M tb_510 rfl d_M_answers_54 ?_
          refine lv_if_ne (tgt := 68) C.1 C.2.1 d_M_answers_57 (by decide) (fun c57 => ?_) (fun c57 => ?_)
          · have h := sd_world h (ws' := sd_M k3 q (mm_tc mo 2)) (by simp only [sd_M, mm_tc, mm_make, mm_drop, mm_kind, mm_answer, mm_way, mm_tell, mm_work, mm_byte, mm_keep, mm_dec, mm_fresh, hd_m, mf_tc, mf_ac, mf_aa, mf_md, mf_th, mf_us, mf_pk, mf_pb, mf_pf, mf_wt, mf_pw, mf_fl, mf_tw, mf_tp, mf_tn, mf_an, mf_co, mf_s1, mf_s2])
            exact sd_vret C hr hlk h (sm_px (sd_M k3 q) (mo := mm_tc mo 2) (c := 2) (o := o) ((if_neg hb).trans ((if_neg hb2).trans ((if_neg hb3).trans (if_pos hf)))) (by decide) (sm_tc _ hm) rfl (by decide +kernel)) d_M_answers_68
          · exact absurd c57 (by decide)
      · exact absurd c29 (by decide)

set_option maxHeartbeats 4000000 in
set_option maxRecDepth 100000 in
theorem k_M_fails (l : Launch) (D : va_G) (k3 : ClassId × ClassId × ClassId) (sz : Nat) (q : Nat → Nat) (mo : sd_MS) (o : sd_S) (x : Int32) (y : Int32) (ho : sS_ok o) (hm : sm_all mo o) : Met l y_M_fails (sd_ws y_M_fails c_M_fails 4 (some FieldType.int)) ({ frames := 3, cells := 0, slots := 0, locals := 72 }) (sd_Pc D (sd_t3 k3) [.ref (q 0), .int x, .int y] sz (sd_M k3 q mo)) (sd_Qi D (sd_t3 k3) (va_A (sd_M k3 q mo) sz) (fun r w => ∃ m9, w = sd_M k3 q m9 ∧ sm_all m9 (sp_fails o x y).2.2 ∧ mf_tc m9 = sp_cd [xIA, xUO] (sp_fails o x y).1 ∧ ((sp_fails o x y).1 = "" → r = (sp_fails o x y).2.1.toInt32))) 0 0 (va_A (sd_M k3 q mo) sz) := by
  refine sd_met (cc := c_M_fails) (maxL := 4) (ret := some .int) (by decide) (Nat.le_of_ble_eq_true rfl) (fun p e s m below meth c C hr hlk hnm hsz h ls hl => ?_)
  generalize va_A (sd_M k3 q mo) sz = A at h ⊢
  have hl : lv_has ls 4 [(0, .ref (q 0)), (1, .int x), (2, .int y)] := hl
  generalize hH : s.heap = H at h ⊢
  refine lv_aload_n C.1 C.2.1 d_M_fails_0 rfl (lv_at hl 0 rfl) ?_
  refine lv_iload_n C.1 C.2.1 d_M_fails_1 rfl (lv_at hl 1 rfl) ?_
  refine lv_iconst (v := 0) C.1 C.2.1 d_M_fails_2 (by decide) ?_
  refine lv_iconst (v := 5) C.1 C.2.1 d_M_fails_3 (by decide) ?_
  rcases Classical.em (sp_bad x 6) with hb | hb
  · have h := sd_world h (ws' := ([]) ++ ([]) ++ (sd_M k3 q mo)) (by simp only [List.append_assoc, List.nil_append, List.append_nil])
    refine sd_calli h (va_runS (As := [.int x, .int 0, .int 5]) (rest := [.ref (q 0)]) C (k_M_notT l D k3 H.size x 0 5 ((sp_k6 _).mpr hb)) (sd_cwS 3 C.2.2.2.2 tb_576 tb_577 tb_24 tb_578 rfl rfl (by decide +kernel) ⟨Nat.le_of_ble_eq_true rfl, Nat.le_of_ble_eq_true rfl⟩) (sd_preS h) rfl rfl hl.1 rfl (lv_room (Nat.le_of_ble_eq_true rfl)) d_M_fails_4 ⟨Nat.le_of_ble_eq_true rfl, Nat.le_of_ble_eq_true rfl⟩) (fun r w1 H locs hq h => ?_)
    obtain ⟨rfl, rfl⟩ := hq
    have h := sd_world h (ws' := sd_M k3 q mo) (by simp only [List.append_assoc, List.nil_append, List.append_nil])
    refine lv_if_ne (tgt := 19) C.1 C.2.1 d_M_fails_7 (by decide) (fun c7 => ?_) (fun c7 => ?_)
    · refine lv_iconst (v := 1) C.1 C.2.1 d_M_fails_19 (by decide) ?_
      refine lv_goto (tgt := 37) C.1 C.2.1 d_M_fails_20 (by decide) ?_
      refine sd_put C h 0 0 (v := .int 1) (ci := 3) (Cn := "StockDeskModel") (T := T_M) (N := 19) (ty0 := ty_M) (ws' := sd_Mx k3 q 1 (mf_ac mo) (mf_aa mo) (mf_md mo) (mf_th mo) (mf_us mo) (mf_pk mo) (mf_pb mo) (mf_pf mo) (mf_wt mo) (mf_pw mo) (mf_fl mo) (mf_tw mo) (mf_tp mo) (mf_tn mo) (mf_an mo) (mf_co mo) (mf_s1 mo) (mf_s2 mo)) rfl rfl (by decide) in_M tyok_M nm_M tb_510 rfl rfl rfl rfl (Nat.le_of_ble_eq_true rfl) rfl d_M_fails_37 (fun H locs h => ?_)
      refine lv_aload_n C.1 C.2.1 d_M_fails_40 rfl (lv_at hl 0 rfl) ?_
      refine sd_get C h 0 0 (v := .int 1) (ci := 3) (Cn := "StockDeskModel") (T := T_M) (N := 19) rfl rfl (by decide) in_M tb_510 rfl d_M_fails_41 ?_
      refine lv_if_eq (tgt := 49) C.1 C.2.1 d_M_fails_44 (by decide) (fun c44 => ?_) (fun c44 => ?_)
      · exact absurd c44 (by decide)
      · refine lv_iconst (v := 0) C.1 C.2.1 d_M_fails_47 (by decide) ?_
        have h := sd_world h (ws' := sd_M k3 q (mm_tc mo 1)) (by simp only [sd_M, mm_tc, mm_make, mm_drop, mm_kind, mm_answer, mm_way, mm_tell, mm_work, mm_byte, mm_keep, mm_dec, mm_fresh, hd_m, mf_tc, mf_ac, mf_aa, mf_md, mf_th, mf_us, mf_pk, mf_pb, mf_pf, mf_wt, mf_pw, mf_fl, mf_tw, mf_tp, mf_tn, mf_an, mf_co, mf_s1, mf_s2])
        exact sd_iret (v := 0) C hr hlk h (sm_px (sd_M k3 q) (mo := mm_tc mo 1) (c := 1) (o := o) (if_pos hb) (by decide) (sm_tc _ hm) rfl (by decide +kernel)) d_M_fails_48
    · exact absurd c7 (by decide)
  have h := sd_world h (ws' := ([]) ++ ([]) ++ (sd_M k3 q mo)) (by simp only [List.append_assoc, List.nil_append, List.append_nil])
  refine sd_calli h (va_runS (As := [.int x, .int 0, .int 5]) (rest := [.ref (q 0)]) C (k_M_notF l D k3 H.size x 0 5 (fun z => hb ((sp_k6 _).mp z))) (sd_cwS 3 C.2.2.2.2 tb_576 tb_577 tb_24 tb_578 rfl rfl (by decide +kernel) ⟨Nat.le_of_ble_eq_true rfl, Nat.le_of_ble_eq_true rfl⟩) (sd_preS h) rfl rfl hl.1 rfl (lv_room (Nat.le_of_ble_eq_true rfl)) d_M_fails_4 ⟨Nat.le_of_ble_eq_true rfl, Nat.le_of_ble_eq_true rfl⟩) (fun r w1 H locs hq h => ?_)
  obtain ⟨rfl, rfl⟩ := hq
  have h := sd_world h (ws' := sd_M k3 q mo) (by simp only [List.append_assoc, List.nil_append, List.append_nil])
  obtain ⟨pt, hpt, rfl⟩ := sp_in 6 rfl (by decide) hb
  refine lv_if_ne (tgt := 19) C.1 C.2.1 d_M_fails_7 (by decide) (fun c7 => ?_) (fun c7 => ?_)
  · exact absurd c7 (by decide)
  · refine lv_iload_n C.1 C.2.1 d_M_fails_10 rfl (lv_at hl 2 rfl) ?_
    refine lv_iconst (v := 0) C.1 C.2.1 d_M_fails_11 (by decide) ?_
    refine lv_iconst (v := 3) C.1 C.2.1 d_M_fails_12 (by decide) ?_
    rcases Classical.em (sp_bad y 4) with hb2 | hb2
    · have h := sd_world h (ws' := ([]) ++ ([]) ++ (sd_M k3 q mo)) (by simp only [List.append_assoc, List.nil_append, List.append_nil])
      refine sd_calli h (va_runS (As := [.int y, .int 0, .int 3]) (rest := [.ref (q 0)]) C (k_M_notT l D k3 H.size y 0 3 ((sp_k4 _).mpr hb2)) (sd_cwS 3 C.2.2.2.2 tb_576 tb_577 tb_24 tb_578 rfl rfl (by decide +kernel) ⟨Nat.le_of_ble_eq_true rfl, Nat.le_of_ble_eq_true rfl⟩) (sd_preS h) rfl rfl hl.1 rfl (lv_room (Nat.le_of_ble_eq_true rfl)) d_M_fails_13 ⟨Nat.le_of_ble_eq_true rfl, Nat.le_of_ble_eq_true rfl⟩) (fun r w1 H locs hq h => ?_)
      obtain ⟨rfl, rfl⟩ := hq
      have h := sd_world h (ws' := sd_M k3 q mo) (by simp only [List.append_assoc, List.nil_append, List.append_nil])
      refine lv_if_eq (tgt := 23) C.1 C.2.1 d_M_fails_16 (by decide) (fun c16 => ?_) (fun c16 => ?_)
      · exact absurd c16 (by decide)
      · refine lv_iconst (v := 1) C.1 C.2.1 d_M_fails_19 (by decide) ?_
        refine lv_goto (tgt := 37) C.1 C.2.1 d_M_fails_20 (by decide) ?_
        refine sd_put C h 0 0 (v := .int 1) (ci := 3) (Cn := "StockDeskModel") (T := T_M) (N := 19) (ty0 := ty_M) (ws' := sd_Mx k3 q 1 (mf_ac mo) (mf_aa mo) (mf_md mo) (mf_th mo) (mf_us mo) (mf_pk mo) (mf_pb mo) (mf_pf mo) (mf_wt mo) (mf_pw mo) (mf_fl mo) (mf_tw mo) (mf_tp mo) (mf_tn mo) (mf_an mo) (mf_co mo) (mf_s1 mo) (mf_s2 mo)) rfl rfl (by decide) in_M tyok_M nm_M tb_510 rfl rfl rfl rfl (Nat.le_of_ble_eq_true rfl) rfl d_M_fails_37 (fun H locs h => ?_)
        refine lv_aload_n C.1 C.2.1 d_M_fails_40 rfl (lv_at hl 0 rfl) ?_
        refine sd_get C h 0 0 (v := .int 1) (ci := 3) (Cn := "StockDeskModel") (T := T_M) (N := 19) rfl rfl (by decide) in_M tb_510 rfl d_M_fails_41 ?_
        refine lv_if_eq (tgt := 49) C.1 C.2.1 d_M_fails_44 (by decide) (fun c44 => ?_) (fun c44 => ?_)
        · exact absurd c44 (by decide)
        · refine lv_iconst (v := 0) C.1 C.2.1 d_M_fails_47 (by decide) ?_
          have h := sd_world h (ws' := sd_M k3 q (mm_tc mo 1)) (by simp only [sd_M, mm_tc, mm_make, mm_drop, mm_kind, mm_answer, mm_way, mm_tell, mm_work, mm_byte, mm_keep, mm_dec, mm_fresh, hd_m, mf_tc, mf_ac, mf_aa, mf_md, mf_th, mf_us, mf_pk, mf_pb, mf_pf, mf_wt, mf_pw, mf_fl, mf_tw, mf_tp, mf_tn, mf_an, mf_co, mf_s1, mf_s2])
          exact sd_iret (v := 0) C hr hlk h (sm_px (sd_M k3 q) (mo := mm_tc mo 1) (c := 1) (o := o) ((if_neg hb).trans (if_pos hb2)) (by decide) (sm_tc _ hm) rfl (by decide +kernel)) d_M_fails_48
    have h := sd_world h (ws' := ([]) ++ ([]) ++ (sd_M k3 q mo)) (by simp only [List.append_assoc, List.nil_append, List.append_nil])
    refine sd_calli h (va_runS (As := [.int y, .int 0, .int 3]) (rest := [.ref (q 0)]) C (k_M_notF l D k3 H.size y 0 3 (fun z => hb2 ((sp_k4 _).mp z))) (sd_cwS 3 C.2.2.2.2 tb_576 tb_577 tb_24 tb_578 rfl rfl (by decide +kernel) ⟨Nat.le_of_ble_eq_true rfl, Nat.le_of_ble_eq_true rfl⟩) (sd_preS h) rfl rfl hl.1 rfl (lv_room (Nat.le_of_ble_eq_true rfl)) d_M_fails_13 ⟨Nat.le_of_ble_eq_true rfl, Nat.le_of_ble_eq_true rfl⟩) (fun r w1 H locs hq h => ?_)
    obtain ⟨rfl, rfl⟩ := hq
    have h := sd_world h (ws' := sd_M k3 q mo) (by simp only [List.append_assoc, List.nil_append, List.append_nil])
    refine lv_if_eq (tgt := 23) C.1 C.2.1 d_M_fails_16 (by decide) (fun c16 => ?_) (fun c16 => ?_)
    · refine lv_aload_n C.1 C.2.1 d_M_fails_23 rfl (lv_at hl 0 rfl) ?_
      refine sd_get C h 0 1 (v := .int (mf_ac mo)) (ci := 3) (Cn := "StockDeskModel") (T := T_M) (N := 19) rfl rfl (by decide) in_M tb_511 rfl d_M_fails_24 ?_
      refine lv_bipush (v := 60) C.1 C.2.1 d_M_fails_27 (by decide) ?_
      refine lv_icmp_ne (tgt := 36) C.1 C.2.1 d_M_fails_29 (by decide) (fun c29 => ?_) (fun c29 => ?_)
      · have hf := fun z => c29 ((sm_acts hm ho).mpr z)
        refine lv_iconst (v := 0) C.1 C.2.1 d_M_fails_36 (by decide) ?_
        refine sd_put C h 0 0 (v := .int 0) (ci := 3) (Cn := "StockDeskModel") (T := T_M) (N := 19) (ty0 := ty_M) (ws' := sd_Mx k3 q 0 (mf_ac mo) (mf_aa mo) (mf_md mo) (mf_th mo) (mf_us mo) (mf_pk mo) (mf_pb mo) (mf_pf mo) (mf_wt mo) (mf_pw mo) (mf_fl mo) (mf_tw mo) (mf_tp mo) (mf_tn mo) (mf_an mo) (mf_co mo) (mf_s1 mo) (mf_s2 mo)) rfl rfl (by decide) in_M tyok_M nm_M tb_510 rfl rfl rfl rfl (Nat.le_of_ble_eq_true rfl) rfl d_M_fails_37 (fun H locs h => ?_)
        refine lv_aload_n C.1 C.2.1 d_M_fails_40 rfl (lv_at hl 0 rfl) ?_
        refine sd_get C h 0 0 (v := .int 0) (ci := 3) (Cn := "StockDeskModel") (T := T_M) (N := 19) rfl rfl (by decide) in_M tb_510 rfl d_M_fails_41 ?_
        refine lv_if_eq (tgt := 49) C.1 C.2.1 d_M_fails_44 (by decide) (fun c44 => ?_) (fun c44 => ?_)
        · refine lv_aload_n C.1 C.2.1 d_M_fails_49 rfl (lv_at hl 0 rfl) ?_
          refine sd_get C h 0 10 (v := .ref (q 9)) (ci := 3) (Cn := "StockDeskModel") (T := T_M) (N := 19) rfl rfl (by decide) in_M tb_520 rfl d_M_fails_50 ?_
          refine lv_iload_n C.1 C.2.1 d_M_fails_53 rfl (lv_at hl 1 rfl) ?_
          refine sd_iald C h 9 0 (i := pt) rfl rfl (by omega) (by decide) d_M_fails_54 ?_
          refine lv_istore_n (lv' := [(3, .int ((mf_pw mo) pt)), (0, .ref (q 0)), (1, .int (nI pt)), (2, .int y)]) C.1 C.2.1 d_M_fails_55 rfl hl (by decide) rfl (fun ls hl => ?_)
          refine lv_aload_n C.1 C.2.1 d_M_fails_56 rfl (lv_at hl 1 rfl) ?_
          refine lv_iconst (v := 4) C.1 C.2.1 d_M_fails_57 (by decide) ?_
          refine lv_iload_n C.1 C.2.1 d_M_fails_58 rfl (lv_at hl 2 rfl) ?_
          refine lv_iload_n C.1 C.2.1 d_M_fails_59 rfl (lv_at hl 3 rfl) ?_
          refine lv_iconst (v := 0) C.1 C.2.1 d_M_fails_60 (by decide) ?_
          have h := sd_world h (ws' := sd_M k3 q (mm_tc mo 0)) (by simp only [sd_M, mm_tc, mm_make, mm_drop, mm_kind, mm_answer, mm_way, mm_tell, mm_work, mm_byte, mm_keep, mm_dec, mm_fresh, hd_m, mf_tc, mf_ac, mf_aa, mf_md, mf_th, mf_us, mf_pk, mf_pb, mf_pf, mf_wt, mf_pw, mf_fl, mf_tw, mf_tp, mf_tn, mf_an, mf_co, mf_s1, mf_s2])
          have h := sd_world h (ws' := ([]) ++ (sd_M k3 q (mm_tc mo 0)) ++ ([])) (by simp only [List.append_assoc, List.nil_append, List.append_nil])
          refine sd_callv h (va_runV (As := [.int 4, .int (nI pt), .int y, .int 0]) (rest := []) C (k_M_keep l D k3 H.size q (mm_tc mo 0) o 4 (nI pt) y 0 ho (sm_tc _ hm) (Classical.not_not.mp hf) (Or.inr (Or.inr (Or.inr (Or.inr (Or.inl ⟨rfl, pt, hpt, rfl, fun z => hb2 (Or.inl z)⟩)))))) (sd_cwV 4 C.2.2.2.2 tb_579 tb_581 tb_14 tb_24 tb_582 rfl rfl (by decide +kernel) ⟨Nat.le_of_ble_eq_true rfl, Nat.le_of_ble_eq_true rfl⟩) (sd_preV h (q0 := 0) (T := T_M) (N := 19) rfl rfl) rfl rfl hl.1 rfl (lv_room (Nat.le_of_ble_eq_true rfl)) d_M_fails_61 ⟨Nat.le_of_ble_eq_true rfl, Nat.le_of_ble_eq_true rfl⟩) (fun w1 H locs hq h => ?_)
          obtain ⟨m2, rfl, hm2, ht2⟩ := hq
          have h := sd_world h (ws' := sd_M k3 q m2) (by simp only [List.append_assoc, List.nil_append, List.append_nil])
          refine lv_iload_n C.1 C.2.1 d_M_fails_64 rfl (lv_at hl 0 rfl) ?_
          exact sd_iret (v := (mf_pw mo) pt) C hr hlk h (sm_pra (sd_M k3 q) ((if_neg hb).trans ((if_neg hb2).trans ((if_neg hf).trans rfl))) hm2 ht2 (by decide +kernel) (fun e9 => by rw [e9]; show mf_pw mo pt = ((hf_pw (sS_u o) (nI pt).toNatClampNeg).toInt64).toInt32; rw [sd_back32, nI_clamp (show pt < 2 ^ 31 by omega), hm.2.2.pw pt hpt])) d_M_fails_65
        · exact absurd c44 (by decide)
      · have hf := (sm_acts hm ho).mp c29
        refine lv_iconst (v := 2) C.1 C.2.1 d_M_fails_32 (by decide) ?_
        refine lv_goto (tgt := 37) C.1 C.2.1 d_M_fails_33 (by decide) ?_
        refine sd_put C h 0 0 (v := .int 2) (ci := 3) (Cn := "StockDeskModel") (T := T_M) (N := 19) (ty0 := ty_M) (ws' := sd_Mx k3 q 2 (mf_ac mo) (mf_aa mo) (mf_md mo) (mf_th mo) (mf_us mo) (mf_pk mo) (mf_pb mo) (mf_pf mo) (mf_wt mo) (mf_pw mo) (mf_fl mo) (mf_tw mo) (mf_tp mo) (mf_tn mo) (mf_an mo) (mf_co mo) (mf_s1 mo) (mf_s2 mo)) rfl rfl (by decide) in_M tyok_M nm_M tb_510 rfl rfl rfl rfl (Nat.le_of_ble_eq_true rfl) rfl d_M_fails_37 (fun H locs h => ?_)
        refine lv_aload_n C.1 C.2.1 d_M_fails_40 rfl (lv_at hl 0 rfl) ?_
        refine sd_get C h 0 0 (v := .int 2) (ci := 3) (Cn := "StockDeskModel") (T := T_M) (N := 19) rfl rfl (by decide) in_M tb_510 rfl d_M_fails_41 ?_
        refine lv_if_eq (tgt := 49) C.1 C.2.1 d_M_fails_44 (by decide) (fun c44 => ?_) (fun c44 => ?_)
        · exact absurd c44 (by decide)
        · refine lv_iconst (v := 0) C.1 C.2.1 d_M_fails_47 (by decide) ?_
          have h := sd_world h (ws' := sd_M k3 q (mm_tc mo 2)) (by simp only [sd_M, mm_tc, mm_make, mm_drop, mm_kind, mm_answer, mm_way, mm_tell, mm_work, mm_byte, mm_keep, mm_dec, mm_fresh, hd_m, mf_tc, mf_ac, mf_aa, mf_md, mf_th, mf_us, mf_pk, mf_pb, mf_pf, mf_wt, mf_pw, mf_fl, mf_tw, mf_tp, mf_tn, mf_an, mf_co, mf_s1, mf_s2])
          exact sd_iret (v := 0) C hr hlk h (sm_px (sd_M k3 q) (mo := mm_tc mo 2) (c := 2) (o := o) ((if_neg hb).trans ((if_neg hb2).trans (if_pos hf))) (by decide) (sm_tc _ hm) rfl (by decide +kernel)) d_M_fails_48
    · exact absurd c16 (by decide)

set_option maxHeartbeats 4000000 in
set_option maxRecDepth 100000 in
theorem k_M_call (l : Launch) (D : va_G) (k3 : ClassId × ClassId × ClassId) (sz : Nat) (q : Nat → Nat) (mo : sd_MS) (o : sd_S) (x : Int32) (y : Int32) (z : Int32) (ho : sS_ok o) (hm : sm_all mo o) : Met l y_M_call (sd_ws y_M_call c_M_call 6 (some FieldType.long)) ({ frames := 3, cells := 0, slots := 0, locals := 72 }) (sd_Pc D (sd_t3 k3) [.ref (q 0), .int x, .int y, .int z] sz (sd_M k3 q mo)) (sd_Ql D (sd_t3 k3) (va_A (sd_M k3 q mo) sz) (fun r w => ∃ m9, w = sd_M k3 q m9 ∧ sm_all m9 (sp_call o x y z).2.2 ∧ mf_tc m9 = sp_cd [xIA, xNS, xUO, xIS] (sp_call o x y z).1 ∧ ((sp_call o x y z).1 = "" → r = (sp_call o x y z).2.1))) 0 0 (va_A (sd_M k3 q mo) sz) := by
  refine sd_met (cc := c_M_call) (maxL := 6) (ret := some .long) (by decide) (Nat.le_of_ble_eq_true rfl) (fun p e s m below meth c C hr hlk hnm hsz h ls hl => ?_)
  generalize va_A (sd_M k3 q mo) sz = A at h ⊢
  have hl : lv_has ls 6 [(0, .ref (q 0)), (1, .int x), (2, .int y), (3, .int z)] := hl
  generalize hH : s.heap = H at h ⊢
  refine lv_aload_n C.1 C.2.1 d_M_call_0 rfl (lv_at hl 0 rfl) ?_
  refine lv_iload_n C.1 C.2.1 d_M_call_1 rfl (lv_at hl 1 rfl) ?_
  refine lv_iconst (v := 0) C.1 C.2.1 d_M_call_2 (by decide) ?_
  refine lv_iconst (v := 5) C.1 C.2.1 d_M_call_3 (by decide) ?_
  rcases Classical.em (sp_bad x 6) with hb | hb
  · have h := sd_world h (ws' := ([]) ++ ([]) ++ (sd_M k3 q mo)) (by simp only [List.append_assoc, List.nil_append, List.append_nil])
    refine sd_calli h (va_runS (As := [.int x, .int 0, .int 5]) (rest := [.ref (q 0)]) C (k_M_notT l D k3 H.size x 0 5 ((sp_k6 _).mpr hb)) (sd_cwS 3 C.2.2.2.2 tb_576 tb_577 tb_24 tb_578 rfl rfl (by decide +kernel) ⟨Nat.le_of_ble_eq_true rfl, Nat.le_of_ble_eq_true rfl⟩) (sd_preS h) rfl rfl hl.1 rfl (lv_room (Nat.le_of_ble_eq_true rfl)) d_M_call_4 ⟨Nat.le_of_ble_eq_true rfl, Nat.le_of_ble_eq_true rfl⟩) (fun r w1 H locs hq h => ?_)
    obtain ⟨rfl, rfl⟩ := hq
    have h := sd_world h (ws' := sd_M k3 q mo) (by simp only [List.append_assoc, List.nil_append, List.append_nil])
    refine lv_if_ne (tgt := 21) C.1 C.2.1 d_M_call_7 (by decide) (fun c7 => ?_) (fun c7 => ?_)
    · refine lv_iconst (v := 1) C.1 C.2.1 d_M_call_21 (by decide) ?_
      refine lv_goto (tgt := 57) C.1 C.2.1 d_M_call_22 (by decide) ?_
      refine sd_put C h 0 0 (v := .int 1) (ci := 3) (Cn := "StockDeskModel") (T := T_M) (N := 19) (ty0 := ty_M) (ws' := sd_Mx k3 q 1 (mf_ac mo) (mf_aa mo) (mf_md mo) (mf_th mo) (mf_us mo) (mf_pk mo) (mf_pb mo) (mf_pf mo) (mf_wt mo) (mf_pw mo) (mf_fl mo) (mf_tw mo) (mf_tp mo) (mf_tn mo) (mf_an mo) (mf_co mo) (mf_s1 mo) (mf_s2 mo)) rfl rfl (by decide) in_M tyok_M nm_M tb_510 rfl rfl rfl rfl (Nat.le_of_ble_eq_true rfl) rfl d_M_call_57 (fun H locs h => ?_)
      refine lv_aload_n C.1 C.2.1 d_M_call_60 rfl (lv_at hl 0 rfl) ?_
      refine sd_get C h 0 0 (v := .int 1) (ci := 3) (Cn := "StockDeskModel") (T := T_M) (N := 19) rfl rfl (by decide) in_M tb_510 rfl d_M_call_61 ?_
      refine lv_if_eq (tgt := 69) C.1 C.2.1 d_M_call_64 (by decide) (fun c64 => ?_) (fun c64 => ?_)
      · exact absurd c64 (by decide)
      · refine lv_lconst (v := 0) C.1 C.2.1 d_M_call_67 (by decide) ?_
        have h := sd_world h (ws' := sd_M k3 q (mm_tc mo 1)) (by simp only [sd_M, mm_tc, mm_make, mm_drop, mm_kind, mm_answer, mm_way, mm_tell, mm_work, mm_byte, mm_keep, mm_dec, mm_fresh, hd_m, mf_tc, mf_ac, mf_aa, mf_md, mf_th, mf_us, mf_pk, mf_pb, mf_pf, mf_wt, mf_pw, mf_fl, mf_tw, mf_tp, mf_tn, mf_an, mf_co, mf_s1, mf_s2])
        exact sd_lret (v := 0) C hr hlk h (sm_px (sd_M k3 q) (mo := mm_tc mo 1) (c := 1) (o := o) (if_pos hb) (by decide) (sm_tc _ hm) rfl (by decide +kernel)) d_M_call_68
    · exact absurd c7 (by decide)
  have h := sd_world h (ws' := ([]) ++ ([]) ++ (sd_M k3 q mo)) (by simp only [List.append_assoc, List.nil_append, List.append_nil])
  refine sd_calli h (va_runS (As := [.int x, .int 0, .int 5]) (rest := [.ref (q 0)]) C (k_M_notF l D k3 H.size x 0 5 (fun z => hb ((sp_k6 _).mp z))) (sd_cwS 3 C.2.2.2.2 tb_576 tb_577 tb_24 tb_578 rfl rfl (by decide +kernel) ⟨Nat.le_of_ble_eq_true rfl, Nat.le_of_ble_eq_true rfl⟩) (sd_preS h) rfl rfl hl.1 rfl (lv_room (Nat.le_of_ble_eq_true rfl)) d_M_call_4 ⟨Nat.le_of_ble_eq_true rfl, Nat.le_of_ble_eq_true rfl⟩) (fun r w1 H locs hq h => ?_)
  obtain ⟨rfl, rfl⟩ := hq
  have h := sd_world h (ws' := sd_M k3 q mo) (by simp only [List.append_assoc, List.nil_append, List.append_nil])
  obtain ⟨pt, hpt, rfl⟩ := sp_in 6 rfl (by decide) hb
  refine lv_if_ne (tgt := 21) C.1 C.2.1 d_M_call_7 (by decide) (fun c7 => ?_) (fun c7 => ?_)
  · exact absurd c7 (by decide)
  · refine lv_iload_n C.1 C.2.1 d_M_call_10 rfl (lv_at hl 3 rfl) ?_
    refine lv_ldc (v := -1000000) C.1 C.2.1 C.2.2.2.1 (C.2.2.2.2 _ (List.mem_cons_of_mem _ tb_608)) d_M_call_11 ?_
    refine lv_ldc (v := 1000000) C.1 C.2.1 C.2.2.2.1 (C.2.2.2.2 _ (List.mem_cons_of_mem _ tb_609)) d_M_call_13 ?_
    rcases Classical.em (sp_amt z) with hb2 | hb2
    · have h := sd_world h (ws' := ([]) ++ ([]) ++ (sd_M k3 q mo)) (by simp only [List.append_assoc, List.nil_append, List.append_nil])
      refine sd_calli h (va_runS (As := [.int z, .int (-1000000), .int 1000000]) (rest := [.ref (q 0)]) C (k_M_notT l D k3 H.size z (-1000000) 1000000 hb2) (sd_cwS 3 C.2.2.2.2 tb_576 tb_577 tb_24 tb_578 rfl rfl (by decide +kernel) ⟨Nat.le_of_ble_eq_true rfl, Nat.le_of_ble_eq_true rfl⟩) (sd_preS h) rfl rfl hl.1 rfl (lv_room (Nat.le_of_ble_eq_true rfl)) d_M_call_15 ⟨Nat.le_of_ble_eq_true rfl, Nat.le_of_ble_eq_true rfl⟩) (fun r w1 H locs hq h => ?_)
      obtain ⟨rfl, rfl⟩ := hq
      have h := sd_world h (ws' := sd_M k3 q mo) (by simp only [List.append_assoc, List.nil_append, List.append_nil])
      refine lv_if_eq (tgt := 25) C.1 C.2.1 d_M_call_18 (by decide) (fun c18 => ?_) (fun c18 => ?_)
      · exact absurd c18 (by decide)
      · refine lv_iconst (v := 1) C.1 C.2.1 d_M_call_21 (by decide) ?_
        refine lv_goto (tgt := 57) C.1 C.2.1 d_M_call_22 (by decide) ?_
        refine sd_put C h 0 0 (v := .int 1) (ci := 3) (Cn := "StockDeskModel") (T := T_M) (N := 19) (ty0 := ty_M) (ws' := sd_Mx k3 q 1 (mf_ac mo) (mf_aa mo) (mf_md mo) (mf_th mo) (mf_us mo) (mf_pk mo) (mf_pb mo) (mf_pf mo) (mf_wt mo) (mf_pw mo) (mf_fl mo) (mf_tw mo) (mf_tp mo) (mf_tn mo) (mf_an mo) (mf_co mo) (mf_s1 mo) (mf_s2 mo)) rfl rfl (by decide) in_M tyok_M nm_M tb_510 rfl rfl rfl rfl (Nat.le_of_ble_eq_true rfl) rfl d_M_call_57 (fun H locs h => ?_)
        refine lv_aload_n C.1 C.2.1 d_M_call_60 rfl (lv_at hl 0 rfl) ?_
        refine sd_get C h 0 0 (v := .int 1) (ci := 3) (Cn := "StockDeskModel") (T := T_M) (N := 19) rfl rfl (by decide) in_M tb_510 rfl d_M_call_61 ?_
        refine lv_if_eq (tgt := 69) C.1 C.2.1 d_M_call_64 (by decide) (fun c64 => ?_) (fun c64 => ?_)
        · exact absurd c64 (by decide)
        · refine lv_lconst (v := 0) C.1 C.2.1 d_M_call_67 (by decide) ?_
          have h := sd_world h (ws' := sd_M k3 q (mm_tc mo 1)) (by simp only [sd_M, mm_tc, mm_make, mm_drop, mm_kind, mm_answer, mm_way, mm_tell, mm_work, mm_byte, mm_keep, mm_dec, mm_fresh, hd_m, mf_tc, mf_ac, mf_aa, mf_md, mf_th, mf_us, mf_pk, mf_pb, mf_pf, mf_wt, mf_pw, mf_fl, mf_tw, mf_tp, mf_tn, mf_an, mf_co, mf_s1, mf_s2])
          exact sd_lret (v := 0) C hr hlk h (sm_px (sd_M k3 q) (mo := mm_tc mo 1) (c := 1) (o := o) ((if_neg hb).trans (if_pos hb2)) (by decide) (sm_tc _ hm) rfl (by decide +kernel)) d_M_call_68
    have h := sd_world h (ws' := ([]) ++ ([]) ++ (sd_M k3 q mo)) (by simp only [List.append_assoc, List.nil_append, List.append_nil])
    refine sd_calli h (va_runS (As := [.int z, .int (-1000000), .int 1000000]) (rest := [.ref (q 0)]) C (k_M_notF l D k3 H.size z (-1000000) 1000000 hb2) (sd_cwS 3 C.2.2.2.2 tb_576 tb_577 tb_24 tb_578 rfl rfl (by decide +kernel) ⟨Nat.le_of_ble_eq_true rfl, Nat.le_of_ble_eq_true rfl⟩) (sd_preS h) rfl rfl hl.1 rfl (lv_room (Nat.le_of_ble_eq_true rfl)) d_M_call_15 ⟨Nat.le_of_ble_eq_true rfl, Nat.le_of_ble_eq_true rfl⟩) (fun r w1 H locs hq h => ?_)
    obtain ⟨rfl, rfl⟩ := hq
    have h := sd_world h (ws' := sd_M k3 q mo) (by simp only [List.append_assoc, List.nil_append, List.append_nil])
    obtain ⟨k, hk, hkp⟩ := (sS_inv ho).2.1 pt hpt
    refine lv_if_eq (tgt := 25) C.1 C.2.1 d_M_call_18 (by decide) (fun c18 => ?_) (fun c18 => ?_)
    · refine lv_aload_n C.1 C.2.1 d_M_call_25 rfl (lv_at hl 0 rfl) ?_
      refine lv_aload_n C.1 C.2.1 d_M_call_26 rfl (lv_at hl 0 rfl) ?_
      refine sd_get C h 0 6 (v := .ref (q 5)) (ci := 3) (Cn := "StockDeskModel") (T := T_M) (N := 19) rfl rfl (by decide) in_M tb_516 rfl d_M_call_27 ?_
      refine lv_iload_n C.1 C.2.1 d_M_call_30 rfl (lv_at hl 1 rfl) ?_
      refine sd_iald C h 5 0 (i := pt) rfl rfl (by omega) (by decide) d_M_call_31 ?_
      refine sd_top (v := .int ((mf_pk mo) pt)) (v' := .int (nI k)) (congrArg Value.int ((hm.2.2.pk pt hpt).trans hkp)) ?_
      refine lv_iload_n C.1 C.2.1 d_M_call_32 rfl (lv_at hl 2 rfl) ?_
      rcases Classical.em (¬ hd_has (sS_u o) k y) with ht | ht
      · have h := sd_world h (ws' := ([]) ++ (sd_M k3 q mo) ++ ([])) (by simp only [List.append_assoc, List.nil_append, List.append_nil])
        refine sd_calli h (va_runV (As := [.int (nI k), .int y]) (rest := [.ref (q 0)]) C (k_M_isThereF l D k3 H.size q mo (sS_u o) k y hm.2.2 hk ht) (sd_cwV 2 C.2.2.2.2 tb_596 tb_598 tb_17 tb_24 tb_599 rfl rfl (by decide +kernel) ⟨Nat.le_of_ble_eq_true rfl, Nat.le_of_ble_eq_true rfl⟩) (sd_preV h (q0 := 0) (T := T_M) (N := 19) rfl rfl) rfl rfl hl.1 rfl (lv_room (Nat.le_of_ble_eq_true rfl)) d_M_call_33 ⟨Nat.le_of_ble_eq_true rfl, Nat.le_of_ble_eq_true rfl⟩) (fun r w1 H locs hq h => ?_)
        obtain ⟨rfl, rfl⟩ := hq
        have h := sd_world h (ws' := sd_M k3 q mo) (by simp only [List.append_assoc, List.nil_append, List.append_nil])
        refine lv_if_ne (tgt := 43) C.1 C.2.1 d_M_call_36 (by decide) (fun c36 => ?_) (fun c36 => ?_)
        · exact absurd c36 (by decide)
        · refine lv_iconst (v := 2) C.1 C.2.1 d_M_call_39 (by decide) ?_
          refine lv_goto (tgt := 57) C.1 C.2.1 d_M_call_40 (by decide) ?_
          refine sd_put C h 0 0 (v := .int 2) (ci := 3) (Cn := "StockDeskModel") (T := T_M) (N := 19) (ty0 := ty_M) (ws' := sd_Mx k3 q 2 (mf_ac mo) (mf_aa mo) (mf_md mo) (mf_th mo) (mf_us mo) (mf_pk mo) (mf_pb mo) (mf_pf mo) (mf_wt mo) (mf_pw mo) (mf_fl mo) (mf_tw mo) (mf_tp mo) (mf_tn mo) (mf_an mo) (mf_co mo) (mf_s1 mo) (mf_s2 mo)) rfl rfl (by decide) in_M tyok_M nm_M tb_510 rfl rfl rfl rfl (Nat.le_of_ble_eq_true rfl) rfl d_M_call_57 (fun H locs h => ?_)
          refine lv_aload_n C.1 C.2.1 d_M_call_60 rfl (lv_at hl 0 rfl) ?_
          refine sd_get C h 0 0 (v := .int 2) (ci := 3) (Cn := "StockDeskModel") (T := T_M) (N := 19) rfl rfl (by decide) in_M tb_510 rfl d_M_call_61 ?_
          refine lv_if_eq (tgt := 69) C.1 C.2.1 d_M_call_64 (by decide) (fun c64 => ?_) (fun c64 => ?_)
          · exact absurd c64 (by decide)
          · refine lv_lconst (v := 0) C.1 C.2.1 d_M_call_67 (by decide) ?_
            have h := sd_world h (ws' := sd_M k3 q (mm_tc mo 2)) (by simp only [sd_M, mm_tc, mm_make, mm_drop, mm_kind, mm_answer, mm_way, mm_tell, mm_work, mm_byte, mm_keep, mm_dec, mm_fresh, hd_m, mf_tc, mf_ac, mf_aa, mf_md, mf_th, mf_us, mf_pk, mf_pb, mf_pf, mf_wt, mf_pw, mf_fl, mf_tw, mf_tp, mf_tn, mf_an, mf_co, mf_s1, mf_s2])
            exact sd_lret (v := 0) C hr hlk h (sm_px (sd_M k3 q) (mo := mm_tc mo 2) (c := 2) (o := o) ((if_neg hb).trans ((if_neg hb2).trans (if_pos (by rw [nI_clamp (show pt < 2 ^ 31 by omega), hkp, nI_clamp (show k < 2 ^ 31 by omega)]; exact ht)))) (by decide) (sm_tc _ hm) rfl (by decide +kernel)) d_M_call_68
      have ht := Classical.not_not.mp ht
      obtain ⟨j, h1, h9, rfl⟩ := sp_hasj ht
      have hth : ¬ hf_th (sS_u o) (k * 9 + j - 1) = 0 := by have z := ht.2.2; rw [nI_clamp (show j < 2 ^ 31 by omega)] at z; exact z
      have h := sd_world h (ws' := ([]) ++ (sd_M k3 q mo) ++ ([])) (by simp only [List.append_assoc, List.nil_append, List.append_nil])
      refine sd_calli h (va_runV (As := [.int (nI k), .int (nI j)]) (rest := [.ref (q 0)]) C (k_M_isThereT l D k3 H.size q mo (sS_u o) k j hm.2.2 hk h1 h9 hth) (sd_cwV 2 C.2.2.2.2 tb_596 tb_598 tb_17 tb_24 tb_599 rfl rfl (by decide +kernel) ⟨Nat.le_of_ble_eq_true rfl, Nat.le_of_ble_eq_true rfl⟩) (sd_preV h (q0 := 0) (T := T_M) (N := 19) rfl rfl) rfl rfl hl.1 rfl (lv_room (Nat.le_of_ble_eq_true rfl)) d_M_call_33 ⟨Nat.le_of_ble_eq_true rfl, Nat.le_of_ble_eq_true rfl⟩) (fun r w1 H locs hq h => ?_)
      obtain ⟨rfl, rfl⟩ := hq
      have h := sd_world h (ws' := sd_M k3 q mo) (by simp only [List.append_assoc, List.nil_append, List.append_nil])
      refine lv_if_ne (tgt := 43) C.1 C.2.1 d_M_call_36 (by decide) (fun c36 => ?_) (fun c36 => ?_)
      · refine lv_aload_n C.1 C.2.1 d_M_call_43 rfl (lv_at hl 0 rfl) ?_
        refine sd_get C h 0 1 (v := .int (mf_ac mo)) (ci := 3) (Cn := "StockDeskModel") (T := T_M) (N := 19) rfl rfl (by decide) in_M tb_511 rfl d_M_call_44 ?_
        refine lv_bipush (v := 60) C.1 C.2.1 d_M_call_47 (by decide) ?_
        refine lv_icmp_ne (tgt := 56) C.1 C.2.1 d_M_call_49 (by decide) (fun c49 => ?_) (fun c49 => ?_)
        · have hf := fun z => c49 ((sm_acts hm ho).mpr z)
          refine lv_iconst (v := 0) C.1 C.2.1 d_M_call_56 (by decide) ?_
          refine sd_put C h 0 0 (v := .int 0) (ci := 3) (Cn := "StockDeskModel") (T := T_M) (N := 19) (ty0 := ty_M) (ws' := sd_Mx k3 q 0 (mf_ac mo) (mf_aa mo) (mf_md mo) (mf_th mo) (mf_us mo) (mf_pk mo) (mf_pb mo) (mf_pf mo) (mf_wt mo) (mf_pw mo) (mf_fl mo) (mf_tw mo) (mf_tp mo) (mf_tn mo) (mf_an mo) (mf_co mo) (mf_s1 mo) (mf_s2 mo)) rfl rfl (by decide) in_M tyok_M nm_M tb_510 rfl rfl rfl rfl (Nat.le_of_ble_eq_true rfl) rfl d_M_call_57 (fun H locs h => ?_)
          refine lv_aload_n C.1 C.2.1 d_M_call_60 rfl (lv_at hl 0 rfl) ?_
          refine sd_get C h 0 0 (v := .int 0) (ci := 3) (Cn := "StockDeskModel") (T := T_M) (N := 19) rfl rfl (by decide) in_M tb_510 rfl d_M_call_61 ?_
          refine lv_if_eq (tgt := 69) C.1 C.2.1 d_M_call_64 (by decide) (fun c64 => ?_) (fun c64 => ?_)
          · refine lv_aload_n C.1 C.2.1 d_M_call_69 rfl (lv_at hl 0 rfl) ?_
            refine lv_iload_n C.1 C.2.1 d_M_call_70 rfl (lv_at hl 1 rfl) ?_
            refine lv_iload_n C.1 C.2.1 d_M_call_71 rfl (lv_at hl 2 rfl) ?_
            refine lv_iload_n C.1 C.2.1 d_M_call_72 rfl (lv_at hl 3 rfl) ?_
            have h := sd_world h (ws' := sd_M k3 q (mm_tc mo 0)) (by simp only [sd_M, mm_tc, mm_make, mm_drop, mm_kind, mm_answer, mm_way, mm_tell, mm_work, mm_byte, mm_keep, mm_dec, mm_fresh, hd_m, mf_tc, mf_ac, mf_aa, mf_md, mf_th, mf_us, mf_pk, mf_pb, mf_pf, mf_wt, mf_pw, mf_fl, mf_tw, mf_tp, mf_tn, mf_an, mf_co, mf_s1, mf_s2])
            have h := sd_world h (ws' := ([]) ++ (sd_M k3 q (mm_tc mo 0)) ++ ([])) (by simp only [List.append_assoc, List.nil_append, List.append_nil])
            refine sd_calll h (va_runV (As := [.int (nI pt), .int (nI j), .int z]) (rest := []) C (k_M_answer l D k3 H.size q (mm_tc mo 0) (sS_u o) pt (nI j) z (((sm_tc _ hm)).2.2) hpt) (sd_cwV 3 C.2.2.2.2 tb_618 tb_620 tb_18 tb_24 tb_621 rfl rfl (by decide +kernel) ⟨Nat.le_of_ble_eq_true rfl, Nat.le_of_ble_eq_true rfl⟩) (sd_preV h (q0 := 0) (T := T_M) (N := 19) rfl rfl) rfl rfl hl.1 rfl (lv_room (Nat.le_of_ble_eq_true rfl)) d_M_call_73 ⟨Nat.le_of_ble_eq_true rfl, Nat.le_of_ble_eq_true rfl⟩) (fun r w1 H locs hq h => ?_)
            obtain ⟨rfl, rfl⟩ := hq
            have h := sd_world h (ws' := sd_M k3 q (mm_tc mo 0)) (by simp only [List.append_assoc, List.nil_append, List.append_nil])
            refine lv_lstore (lv' := [(4, .long (hd_ans (sS_u o) pt (nI j) z)), (0, .ref (q 0)), (1, .int (nI pt)), (2, .int (nI j)), (3, .int z)]) C.1 C.2.1 d_M_call_76 hl (by decide) rfl (fun ls hl => ?_)
            refine lv_aload_n C.1 C.2.1 d_M_call_78 rfl (lv_at hl 1 rfl) ?_
            refine lv_aload_n C.1 C.2.1 d_M_call_79 rfl (lv_at hl 1 rfl) ?_
            refine sd_get C h 0 10 (v := .ref (q 9)) (ci := 3) (Cn := "StockDeskModel") (T := T_M) (N := 19) rfl rfl (by decide) in_M tb_520 rfl d_M_call_80 ?_
            refine lv_iload_n C.1 C.2.1 d_M_call_83 rfl (lv_at hl 2 rfl) ?_
            refine sd_iald C h 9 0 (i := pt) rfl rfl (by omega) (by decide) d_M_call_84 ?_
            refine lv_if_le (tgt := 92) C.1 C.2.1 d_M_call_85 (by decide) (fun c85 => ?_) (fun c85 => ?_)
            · have hw : hf_pw (sS_u o) pt = 0 := (sm_way hm ho hpt).mp c85
              refine lv_iconst (v := 0) C.1 C.2.1 d_M_call_92 (by decide) ?_
              refine sd_put C h 0 0 (v := .int 0) (ci := 3) (Cn := "StockDeskModel") (T := T_M) (N := 19) (ty0 := ty_M) (ws' := sd_Mx k3 q 0 (mf_ac (mm_tc mo 0)) (mf_aa (mm_tc mo 0)) (mf_md (mm_tc mo 0)) (mf_th (mm_tc mo 0)) (mf_us (mm_tc mo 0)) (mf_pk (mm_tc mo 0)) (mf_pb (mm_tc mo 0)) (mf_pf (mm_tc mo 0)) (mf_wt (mm_tc mo 0)) (mf_pw (mm_tc mo 0)) (mf_fl (mm_tc mo 0)) (mf_tw (mm_tc mo 0)) (mf_tp (mm_tc mo 0)) (mf_tn (mm_tc mo 0)) (mf_an (mm_tc mo 0)) (mf_co (mm_tc mo 0)) (mf_s1 (mm_tc mo 0)) (mf_s2 (mm_tc mo 0))) rfl rfl (by decide) in_M tyok_M nm_M tb_510 rfl rfl rfl rfl (Nat.le_of_ble_eq_true rfl) rfl d_M_call_93 (fun H locs h => ?_)
              refine lv_aload_n C.1 C.2.1 d_M_call_96 rfl (lv_at hl 1 rfl) ?_
              refine lv_iconst (v := 5) C.1 C.2.1 d_M_call_97 (by decide) ?_
              refine lv_iload_n C.1 C.2.1 d_M_call_98 rfl (lv_at hl 2 rfl) ?_
              refine lv_iload_n C.1 C.2.1 d_M_call_99 rfl (lv_at hl 3 rfl) ?_
              refine lv_iload_n C.1 C.2.1 d_M_call_100 rfl (lv_at hl 4 rfl) ?_
              have h := sd_world h (ws' := sd_M k3 q (mm_tc (mm_tc mo 0) 0)) (by simp only [sd_M, mm_tc, mm_make, mm_drop, mm_kind, mm_answer, mm_way, mm_tell, mm_work, mm_byte, mm_keep, mm_dec, mm_fresh, hd_m, mf_tc, mf_ac, mf_aa, mf_md, mf_th, mf_us, mf_pk, mf_pb, mf_pf, mf_wt, mf_pw, mf_fl, mf_tw, mf_tp, mf_tn, mf_an, mf_co, mf_s1, mf_s2])
              have h := sd_world h (ws' := ([]) ++ (sd_M k3 q (mm_tc (mm_tc mo 0) 0)) ++ ([])) (by simp only [List.append_assoc, List.nil_append, List.append_nil])
              refine sd_callv h (va_runV (As := [.int 5, .int (nI pt), .int (nI j), .int z]) (rest := []) C (k_M_keep l D k3 H.size q (mm_tc (mm_tc mo 0) 0) o 5 (nI pt) (nI j) z ho (sm_tc _ (sm_tc _ hm)) (Classical.not_not.mp hf) (Or.inr (Or.inr (Or.inr (Or.inr (Or.inr (Or.inl ⟨rfl, pt, k, j, hpt, hk, h1, h9, rfl, rfl, hkp, hth⟩))))))) (sd_cwV 4 C.2.2.2.2 tb_579 tb_581 tb_14 tb_24 tb_582 rfl rfl (by decide +kernel) ⟨Nat.le_of_ble_eq_true rfl, Nat.le_of_ble_eq_true rfl⟩) (sd_preV h (q0 := 0) (T := T_M) (N := 19) rfl rfl) rfl rfl hl.1 rfl (lv_room (Nat.le_of_ble_eq_true rfl)) d_M_call_101 ⟨Nat.le_of_ble_eq_true rfl, Nat.le_of_ble_eq_true rfl⟩) (fun w1 H locs hq h => ?_)
              obtain ⟨m2, rfl, hm2, ht2⟩ := hq
              have h := sd_world h (ws' := sd_M k3 q m2) (by simp only [List.append_assoc, List.nil_append, List.append_nil])
              refine lv_aload_n C.1 C.2.1 d_M_call_104 rfl (lv_at hl 1 rfl) ?_
              refine sd_get C h 0 0 (v := .int (mf_tc m2)) (ci := 3) (Cn := "StockDeskModel") (T := T_M) (N := 19) rfl rfl (by decide) in_M tb_510 rfl d_M_call_105 ?_
              refine sd_top (v := .int (mf_tc m2)) (v' := .int 0) (congrArg Value.int (ht2)) ?_
              refine lv_if_eq (tgt := 115) C.1 C.2.1 d_M_call_108 (by decide) (fun c108 => ?_) (fun c108 => ?_)
              · refine lv_lload C.1 C.2.1 d_M_call_115 (lv_at hl 0 rfl) ?_
                exact sd_lret (v := hd_ans (sS_u o) pt (nI j) z) C hr hlk h (sm_pra (sd_M k3 q) ((if_neg hb).trans ((if_neg hb2).trans ((if_neg (by rw [nI_clamp (show pt < 2 ^ 31 by omega), hkp, nI_clamp (show k < 2 ^ 31 by omega)]; exact not_not_intro ht)).trans ((if_neg hf).trans (if_pos (by rw [nI_clamp (show pt < 2 ^ 31 by omega)]; exact hw)))))) hm2 ht2 (by decide +kernel) (fun e9 => by rw [e9]; show hd_ans (sS_u o) pt (nI j) z = (if hf_pw (sS_u o) (nI pt).toNatClampNeg = 0 then hd_ans (sS_u o) (nI pt).toNatClampNeg (nI j) z else 0); rw [nI_clamp (show pt < 2 ^ 31 by omega), if_pos hw])) d_M_call_117
              · exact absurd c108 (by decide)
            · have hw : ¬ hf_pw (sS_u o) pt = 0 := fun z => c85 ((sm_way hm ho hpt).mpr z)
              refine lv_iconst (v := 4) C.1 C.2.1 d_M_call_88 (by decide) ?_
              refine lv_goto (tgt := 93) C.1 C.2.1 d_M_call_89 (by decide) ?_
              refine sd_put C h 0 0 (v := .int 4) (ci := 3) (Cn := "StockDeskModel") (T := T_M) (N := 19) (ty0 := ty_M) (ws' := sd_Mx k3 q 4 (mf_ac (mm_tc mo 0)) (mf_aa (mm_tc mo 0)) (mf_md (mm_tc mo 0)) (mf_th (mm_tc mo 0)) (mf_us (mm_tc mo 0)) (mf_pk (mm_tc mo 0)) (mf_pb (mm_tc mo 0)) (mf_pf (mm_tc mo 0)) (mf_wt (mm_tc mo 0)) (mf_pw (mm_tc mo 0)) (mf_fl (mm_tc mo 0)) (mf_tw (mm_tc mo 0)) (mf_tp (mm_tc mo 0)) (mf_tn (mm_tc mo 0)) (mf_an (mm_tc mo 0)) (mf_co (mm_tc mo 0)) (mf_s1 (mm_tc mo 0)) (mf_s2 (mm_tc mo 0))) rfl rfl (by decide) in_M tyok_M nm_M tb_510 rfl rfl rfl rfl (Nat.le_of_ble_eq_true rfl) rfl d_M_call_93 (fun H locs h => ?_)
              refine lv_aload_n C.1 C.2.1 d_M_call_96 rfl (lv_at hl 1 rfl) ?_
              refine lv_iconst (v := 5) C.1 C.2.1 d_M_call_97 (by decide) ?_
              refine lv_iload_n C.1 C.2.1 d_M_call_98 rfl (lv_at hl 2 rfl) ?_
              refine lv_iload_n C.1 C.2.1 d_M_call_99 rfl (lv_at hl 3 rfl) ?_
              refine lv_iload_n C.1 C.2.1 d_M_call_100 rfl (lv_at hl 4 rfl) ?_
              have h := sd_world h (ws' := sd_M k3 q (mm_tc (mm_tc mo 0) 4)) (by simp only [sd_M, mm_tc, mm_make, mm_drop, mm_kind, mm_answer, mm_way, mm_tell, mm_work, mm_byte, mm_keep, mm_dec, mm_fresh, hd_m, mf_tc, mf_ac, mf_aa, mf_md, mf_th, mf_us, mf_pk, mf_pb, mf_pf, mf_wt, mf_pw, mf_fl, mf_tw, mf_tp, mf_tn, mf_an, mf_co, mf_s1, mf_s2])
              have h := sd_world h (ws' := ([]) ++ (sd_M k3 q (mm_tc (mm_tc mo 0) 4)) ++ ([])) (by simp only [List.append_assoc, List.nil_append, List.append_nil])
              refine sd_callv h (va_runV (As := [.int 5, .int (nI pt), .int (nI j), .int z]) (rest := []) C (k_M_keep l D k3 H.size q (mm_tc (mm_tc mo 0) 4) o 5 (nI pt) (nI j) z ho (sm_tc _ (sm_tc _ hm)) (Classical.not_not.mp hf) (Or.inr (Or.inr (Or.inr (Or.inr (Or.inr (Or.inl ⟨rfl, pt, k, j, hpt, hk, h1, h9, rfl, rfl, hkp, hth⟩))))))) (sd_cwV 4 C.2.2.2.2 tb_579 tb_581 tb_14 tb_24 tb_582 rfl rfl (by decide +kernel) ⟨Nat.le_of_ble_eq_true rfl, Nat.le_of_ble_eq_true rfl⟩) (sd_preV h (q0 := 0) (T := T_M) (N := 19) rfl rfl) rfl rfl hl.1 rfl (lv_room (Nat.le_of_ble_eq_true rfl)) d_M_call_101 ⟨Nat.le_of_ble_eq_true rfl, Nat.le_of_ble_eq_true rfl⟩) (fun w1 H locs hq h => ?_)
              obtain ⟨m2, rfl, hm2, ht2⟩ := hq
              have h := sd_world h (ws' := sd_M k3 q m2) (by simp only [List.append_assoc, List.nil_append, List.append_nil])
              refine lv_aload_n C.1 C.2.1 d_M_call_104 rfl (lv_at hl 1 rfl) ?_
              refine sd_get C h 0 0 (v := .int (mf_tc m2)) (ci := 3) (Cn := "StockDeskModel") (T := T_M) (N := 19) rfl rfl (by decide) in_M tb_510 rfl d_M_call_105 ?_
              refine sd_top (v := .int (mf_tc m2)) (v' := .int 4) (congrArg Value.int (ht2)) ?_
              refine lv_if_eq (tgt := 115) C.1 C.2.1 d_M_call_108 (by decide) (fun c108 => ?_) (fun c108 => ?_)
              · exact absurd c108 (by decide)
              · refine lv_lconst (v := 0) C.1 C.2.1 d_M_call_111 (by decide) ?_
                refine lv_goto (tgt := 117) C.1 C.2.1 d_M_call_112 (by decide) ?_
                exact sd_lret (v := 0) C hr hlk h (sm_px (sd_M k3 q) (mo := m2) (c := 4) (o := sS_put o 5 (nI pt) (nI j) z) ((if_neg hb).trans ((if_neg hb2).trans ((if_neg (by rw [nI_clamp (show pt < 2 ^ 31 by omega), hkp, nI_clamp (show k < 2 ^ 31 by omega)]; exact not_not_intro ht)).trans ((if_neg hf).trans (if_neg (by rw [nI_clamp (show pt < 2 ^ 31 by omega)]; exact hw)))))) (by decide) hm2 ht2 (by decide +kernel)) d_M_call_117
          · exact absurd c64 (by decide)
        · have hf := (sm_acts hm ho).mp c49
          refine lv_iconst (v := 3) C.1 C.2.1 d_M_call_52 (by decide) ?_
          refine lv_goto (tgt := 57) C.1 C.2.1 d_M_call_53 (by decide) ?_
          refine sd_put C h 0 0 (v := .int 3) (ci := 3) (Cn := "StockDeskModel") (T := T_M) (N := 19) (ty0 := ty_M) (ws' := sd_Mx k3 q 3 (mf_ac mo) (mf_aa mo) (mf_md mo) (mf_th mo) (mf_us mo) (mf_pk mo) (mf_pb mo) (mf_pf mo) (mf_wt mo) (mf_pw mo) (mf_fl mo) (mf_tw mo) (mf_tp mo) (mf_tn mo) (mf_an mo) (mf_co mo) (mf_s1 mo) (mf_s2 mo)) rfl rfl (by decide) in_M tyok_M nm_M tb_510 rfl rfl rfl rfl (Nat.le_of_ble_eq_true rfl) rfl d_M_call_57 (fun H locs h => ?_)
          refine lv_aload_n C.1 C.2.1 d_M_call_60 rfl (lv_at hl 0 rfl) ?_
          refine sd_get C h 0 0 (v := .int 3) (ci := 3) (Cn := "StockDeskModel") (T := T_M) (N := 19) rfl rfl (by decide) in_M tb_510 rfl d_M_call_61 ?_
          refine lv_if_eq (tgt := 69) C.1 C.2.1 d_M_call_64 (by decide) (fun c64 => ?_) (fun c64 => ?_)
          · exact absurd c64 (by decide)
          · refine lv_lconst (v := 0) C.1 C.2.1 d_M_call_67 (by decide) ?_
            have h := sd_world h (ws' := sd_M k3 q (mm_tc mo 3)) (by simp only [sd_M, mm_tc, mm_make, mm_drop, mm_kind, mm_answer, mm_way, mm_tell, mm_work, mm_byte, mm_keep, mm_dec, mm_fresh, hd_m, mf_tc, mf_ac, mf_aa, mf_md, mf_th, mf_us, mf_pk, mf_pb, mf_pf, mf_wt, mf_pw, mf_fl, mf_tw, mf_tp, mf_tn, mf_an, mf_co, mf_s1, mf_s2])
            exact sd_lret (v := 0) C hr hlk h (sm_px (sd_M k3 q) (mo := mm_tc mo 3) (c := 3) (o := o) ((if_neg hb).trans ((if_neg hb2).trans ((if_neg (by rw [nI_clamp (show pt < 2 ^ 31 by omega), hkp, nI_clamp (show k < 2 ^ 31 by omega)]; exact not_not_intro ht)).trans (if_pos hf)))) (by decide) (sm_tc _ hm) rfl (by decide +kernel)) d_M_call_68
      · exact absurd c36 (by decide)
    · exact absurd c18 (by decide)

set_option maxHeartbeats 4000000 in
set_option maxRecDepth 100000 in
theorem k_M_again (l : Launch) (D : va_G) (k3 : ClassId × ClassId × ClassId) (sz : Nat) (q : Nat → Nat) (mo : sd_MS) (o : sd_S) (x : Int32) (y : Int32) (z : Int32) (ho : sS_ok o) (hm : sm_all mo o) : Met l y_M_again (sd_ws y_M_again c_M_again 4 (some FieldType.long)) ({ frames := 1, cells := 0, slots := 0, locals := 23 }) (sd_Pc D (sd_t3 k3) [.ref (q 0), .int x, .int y, .int z] sz (sd_M k3 q mo)) (sd_Ql D (sd_t3 k3) (va_A (sd_M k3 q mo) sz) (fun r w => ∃ m9, w = sd_M k3 q m9 ∧ sm_all m9 (sp_again o x y z).2.2 ∧ mf_tc m9 = sp_cd [xIA, xNS, xIS] (sp_again o x y z).1 ∧ ((sp_again o x y z).1 = "" → r = (sp_again o x y z).2.1))) 0 0 (va_A (sd_M k3 q mo) sz) := by
  refine sd_met (cc := c_M_again) (maxL := 4) (ret := some .long) (by decide) (Nat.le_of_ble_eq_true rfl) (fun p e s m below meth c C hr hlk hnm hsz h ls hl => ?_)
  generalize va_A (sd_M k3 q mo) sz = A at h ⊢
  have hl : lv_has ls 4 [(0, .ref (q 0)), (1, .int x), (2, .int y), (3, .int z)] := hl
  generalize hH : s.heap = H at h ⊢
  refine lv_aload_n C.1 C.2.1 d_M_again_0 rfl (lv_at hl 0 rfl) ?_
  refine lv_iload_n C.1 C.2.1 d_M_again_1 rfl (lv_at hl 1 rfl) ?_
  refine lv_iconst (v := 0) C.1 C.2.1 d_M_again_2 (by decide) ?_
  refine lv_iconst (v := 5) C.1 C.2.1 d_M_again_3 (by decide) ?_
  rcases Classical.em (sp_bad x 6) with hb | hb
  · have h := sd_world h (ws' := ([]) ++ ([]) ++ (sd_M k3 q mo)) (by simp only [List.append_assoc, List.nil_append, List.append_nil])
    refine sd_calli h (va_runS (As := [.int x, .int 0, .int 5]) (rest := [.ref (q 0)]) C (k_M_notT l D k3 H.size x 0 5 ((sp_k6 _).mpr hb)) (sd_cwS 3 C.2.2.2.2 tb_576 tb_577 tb_24 tb_578 rfl rfl (by decide +kernel) ⟨Nat.le_of_ble_eq_true rfl, Nat.le_of_ble_eq_true rfl⟩) (sd_preS h) rfl rfl hl.1 rfl (lv_room (Nat.le_of_ble_eq_true rfl)) d_M_again_4 ⟨Nat.le_of_ble_eq_true rfl, Nat.le_of_ble_eq_true rfl⟩) (fun r w1 H locs hq h => ?_)
    obtain ⟨rfl, rfl⟩ := hq
    have h := sd_world h (ws' := sd_M k3 q mo) (by simp only [List.append_assoc, List.nil_append, List.append_nil])
    refine lv_if_ne (tgt := 21) C.1 C.2.1 d_M_again_7 (by decide) (fun c7 => ?_) (fun c7 => ?_)
    · refine lv_iconst (v := 1) C.1 C.2.1 d_M_again_21 (by decide) ?_
      refine lv_goto (tgt := 57) C.1 C.2.1 d_M_again_22 (by decide) ?_
      refine sd_put C h 0 0 (v := .int 1) (ci := 3) (Cn := "StockDeskModel") (T := T_M) (N := 19) (ty0 := ty_M) (ws' := sd_Mx k3 q 1 (mf_ac mo) (mf_aa mo) (mf_md mo) (mf_th mo) (mf_us mo) (mf_pk mo) (mf_pb mo) (mf_pf mo) (mf_wt mo) (mf_pw mo) (mf_fl mo) (mf_tw mo) (mf_tp mo) (mf_tn mo) (mf_an mo) (mf_co mo) (mf_s1 mo) (mf_s2 mo)) rfl rfl (by decide) in_M tyok_M nm_M tb_510 rfl rfl rfl rfl (Nat.le_of_ble_eq_true rfl) rfl d_M_again_57 (fun H locs h => ?_)
      refine lv_aload_n C.1 C.2.1 d_M_again_60 rfl (lv_at hl 0 rfl) ?_
      refine sd_get C h 0 0 (v := .int 1) (ci := 3) (Cn := "StockDeskModel") (T := T_M) (N := 19) rfl rfl (by decide) in_M tb_510 rfl d_M_again_61 ?_
      refine lv_if_eq (tgt := 71) C.1 C.2.1 d_M_again_64 (by decide) (fun c64 => ?_) (fun c64 => ?_)
      · exact absurd c64 (by decide)
      · refine lv_lconst (v := 0) C.1 C.2.1 d_M_again_67 (by decide) ?_
        refine lv_goto (tgt := 78) C.1 C.2.1 d_M_again_68 (by decide) ?_
        have h := sd_world h (ws' := sd_M k3 q (mm_tc mo 1)) (by simp only [sd_M, mm_tc, mm_make, mm_drop, mm_kind, mm_answer, mm_way, mm_tell, mm_work, mm_byte, mm_keep, mm_dec, mm_fresh, hd_m, mf_tc, mf_ac, mf_aa, mf_md, mf_th, mf_us, mf_pk, mf_pb, mf_pf, mf_wt, mf_pw, mf_fl, mf_tw, mf_tp, mf_tn, mf_an, mf_co, mf_s1, mf_s2])
        exact sd_lret (v := 0) C hr hlk h (sm_px (sd_M k3 q) (mo := mm_tc mo 1) (c := 1) (o := o) (if_pos hb) (by decide) (sm_tc _ hm) rfl (by decide +kernel)) d_M_again_78
    · exact absurd c7 (by decide)
  have h := sd_world h (ws' := ([]) ++ ([]) ++ (sd_M k3 q mo)) (by simp only [List.append_assoc, List.nil_append, List.append_nil])
  refine sd_calli h (va_runS (As := [.int x, .int 0, .int 5]) (rest := [.ref (q 0)]) C (k_M_notF l D k3 H.size x 0 5 (fun z => hb ((sp_k6 _).mp z))) (sd_cwS 3 C.2.2.2.2 tb_576 tb_577 tb_24 tb_578 rfl rfl (by decide +kernel) ⟨Nat.le_of_ble_eq_true rfl, Nat.le_of_ble_eq_true rfl⟩) (sd_preS h) rfl rfl hl.1 rfl (lv_room (Nat.le_of_ble_eq_true rfl)) d_M_again_4 ⟨Nat.le_of_ble_eq_true rfl, Nat.le_of_ble_eq_true rfl⟩) (fun r w1 H locs hq h => ?_)
  obtain ⟨rfl, rfl⟩ := hq
  have h := sd_world h (ws' := sd_M k3 q mo) (by simp only [List.append_assoc, List.nil_append, List.append_nil])
  obtain ⟨pt, hpt, rfl⟩ := sp_in 6 rfl (by decide) hb
  refine lv_if_ne (tgt := 21) C.1 C.2.1 d_M_again_7 (by decide) (fun c7 => ?_) (fun c7 => ?_)
  · exact absurd c7 (by decide)
  · refine lv_iload_n C.1 C.2.1 d_M_again_10 rfl (lv_at hl 3 rfl) ?_
    refine lv_ldc (v := -1000000) C.1 C.2.1 C.2.2.2.1 (C.2.2.2.2 _ (List.mem_cons_of_mem _ tb_608)) d_M_again_11 ?_
    refine lv_ldc (v := 1000000) C.1 C.2.1 C.2.2.2.1 (C.2.2.2.2 _ (List.mem_cons_of_mem _ tb_609)) d_M_again_13 ?_
    rcases Classical.em (sp_amt z) with hb2 | hb2
    · have h := sd_world h (ws' := ([]) ++ ([]) ++ (sd_M k3 q mo)) (by simp only [List.append_assoc, List.nil_append, List.append_nil])
      refine sd_calli h (va_runS (As := [.int z, .int (-1000000), .int 1000000]) (rest := [.ref (q 0)]) C (k_M_notT l D k3 H.size z (-1000000) 1000000 hb2) (sd_cwS 3 C.2.2.2.2 tb_576 tb_577 tb_24 tb_578 rfl rfl (by decide +kernel) ⟨Nat.le_of_ble_eq_true rfl, Nat.le_of_ble_eq_true rfl⟩) (sd_preS h) rfl rfl hl.1 rfl (lv_room (Nat.le_of_ble_eq_true rfl)) d_M_again_15 ⟨Nat.le_of_ble_eq_true rfl, Nat.le_of_ble_eq_true rfl⟩) (fun r w1 H locs hq h => ?_)
      obtain ⟨rfl, rfl⟩ := hq
      have h := sd_world h (ws' := sd_M k3 q mo) (by simp only [List.append_assoc, List.nil_append, List.append_nil])
      refine lv_if_eq (tgt := 25) C.1 C.2.1 d_M_again_18 (by decide) (fun c18 => ?_) (fun c18 => ?_)
      · exact absurd c18 (by decide)
      · refine lv_iconst (v := 1) C.1 C.2.1 d_M_again_21 (by decide) ?_
        refine lv_goto (tgt := 57) C.1 C.2.1 d_M_again_22 (by decide) ?_
        refine sd_put C h 0 0 (v := .int 1) (ci := 3) (Cn := "StockDeskModel") (T := T_M) (N := 19) (ty0 := ty_M) (ws' := sd_Mx k3 q 1 (mf_ac mo) (mf_aa mo) (mf_md mo) (mf_th mo) (mf_us mo) (mf_pk mo) (mf_pb mo) (mf_pf mo) (mf_wt mo) (mf_pw mo) (mf_fl mo) (mf_tw mo) (mf_tp mo) (mf_tn mo) (mf_an mo) (mf_co mo) (mf_s1 mo) (mf_s2 mo)) rfl rfl (by decide) in_M tyok_M nm_M tb_510 rfl rfl rfl rfl (Nat.le_of_ble_eq_true rfl) rfl d_M_again_57 (fun H locs h => ?_)
        refine lv_aload_n C.1 C.2.1 d_M_again_60 rfl (lv_at hl 0 rfl) ?_
        refine sd_get C h 0 0 (v := .int 1) (ci := 3) (Cn := "StockDeskModel") (T := T_M) (N := 19) rfl rfl (by decide) in_M tb_510 rfl d_M_again_61 ?_
        refine lv_if_eq (tgt := 71) C.1 C.2.1 d_M_again_64 (by decide) (fun c64 => ?_) (fun c64 => ?_)
        · exact absurd c64 (by decide)
        · refine lv_lconst (v := 0) C.1 C.2.1 d_M_again_67 (by decide) ?_
          refine lv_goto (tgt := 78) C.1 C.2.1 d_M_again_68 (by decide) ?_
          have h := sd_world h (ws' := sd_M k3 q (mm_tc mo 1)) (by simp only [sd_M, mm_tc, mm_make, mm_drop, mm_kind, mm_answer, mm_way, mm_tell, mm_work, mm_byte, mm_keep, mm_dec, mm_fresh, hd_m, mf_tc, mf_ac, mf_aa, mf_md, mf_th, mf_us, mf_pk, mf_pb, mf_pf, mf_wt, mf_pw, mf_fl, mf_tw, mf_tp, mf_tn, mf_an, mf_co, mf_s1, mf_s2])
          exact sd_lret (v := 0) C hr hlk h (sm_px (sd_M k3 q) (mo := mm_tc mo 1) (c := 1) (o := o) ((if_neg hb).trans (if_pos hb2)) (by decide) (sm_tc _ hm) rfl (by decide +kernel)) d_M_again_78
    have h := sd_world h (ws' := ([]) ++ ([]) ++ (sd_M k3 q mo)) (by simp only [List.append_assoc, List.nil_append, List.append_nil])
    refine sd_calli h (va_runS (As := [.int z, .int (-1000000), .int 1000000]) (rest := [.ref (q 0)]) C (k_M_notF l D k3 H.size z (-1000000) 1000000 hb2) (sd_cwS 3 C.2.2.2.2 tb_576 tb_577 tb_24 tb_578 rfl rfl (by decide +kernel) ⟨Nat.le_of_ble_eq_true rfl, Nat.le_of_ble_eq_true rfl⟩) (sd_preS h) rfl rfl hl.1 rfl (lv_room (Nat.le_of_ble_eq_true rfl)) d_M_again_15 ⟨Nat.le_of_ble_eq_true rfl, Nat.le_of_ble_eq_true rfl⟩) (fun r w1 H locs hq h => ?_)
    obtain ⟨rfl, rfl⟩ := hq
    have h := sd_world h (ws' := sd_M k3 q mo) (by simp only [List.append_assoc, List.nil_append, List.append_nil])
    obtain ⟨k, hk, hkp⟩ := (sS_inv ho).2.1 pt hpt
    refine lv_if_eq (tgt := 25) C.1 C.2.1 d_M_again_18 (by decide) (fun c18 => ?_) (fun c18 => ?_)
    · refine lv_aload_n C.1 C.2.1 d_M_again_25 rfl (lv_at hl 0 rfl) ?_
      refine lv_aload_n C.1 C.2.1 d_M_again_26 rfl (lv_at hl 0 rfl) ?_
      refine sd_get C h 0 6 (v := .ref (q 5)) (ci := 3) (Cn := "StockDeskModel") (T := T_M) (N := 19) rfl rfl (by decide) in_M tb_516 rfl d_M_again_27 ?_
      refine lv_iload_n C.1 C.2.1 d_M_again_30 rfl (lv_at hl 1 rfl) ?_
      refine sd_iald C h 5 0 (i := pt) rfl rfl (by omega) (by decide) d_M_again_31 ?_
      refine sd_top (v := .int ((mf_pk mo) pt)) (v' := .int (nI k)) (congrArg Value.int ((hm.2.2.pk pt hpt).trans hkp)) ?_
      refine lv_iload_n C.1 C.2.1 d_M_again_32 rfl (lv_at hl 2 rfl) ?_
      rcases Classical.em (¬ hd_has (sS_u o) k y) with ht | ht
      · have h := sd_world h (ws' := ([]) ++ (sd_M k3 q mo) ++ ([])) (by simp only [List.append_assoc, List.nil_append, List.append_nil])
        refine sd_calli h (va_runV (As := [.int (nI k), .int y]) (rest := [.ref (q 0)]) C (k_M_isThereF l D k3 H.size q mo (sS_u o) k y hm.2.2 hk ht) (sd_cwV 2 C.2.2.2.2 tb_596 tb_598 tb_17 tb_24 tb_599 rfl rfl (by decide +kernel) ⟨Nat.le_of_ble_eq_true rfl, Nat.le_of_ble_eq_true rfl⟩) (sd_preV h (q0 := 0) (T := T_M) (N := 19) rfl rfl) rfl rfl hl.1 rfl (lv_room (Nat.le_of_ble_eq_true rfl)) d_M_again_33 ⟨Nat.le_of_ble_eq_true rfl, Nat.le_of_ble_eq_true rfl⟩) (fun r w1 H locs hq h => ?_)
        obtain ⟨rfl, rfl⟩ := hq
        have h := sd_world h (ws' := sd_M k3 q mo) (by simp only [List.append_assoc, List.nil_append, List.append_nil])
        refine lv_if_ne (tgt := 43) C.1 C.2.1 d_M_again_36 (by decide) (fun c36 => ?_) (fun c36 => ?_)
        · exact absurd c36 (by decide)
        · refine lv_iconst (v := 2) C.1 C.2.1 d_M_again_39 (by decide) ?_
          refine lv_goto (tgt := 57) C.1 C.2.1 d_M_again_40 (by decide) ?_
          refine sd_put C h 0 0 (v := .int 2) (ci := 3) (Cn := "StockDeskModel") (T := T_M) (N := 19) (ty0 := ty_M) (ws' := sd_Mx k3 q 2 (mf_ac mo) (mf_aa mo) (mf_md mo) (mf_th mo) (mf_us mo) (mf_pk mo) (mf_pb mo) (mf_pf mo) (mf_wt mo) (mf_pw mo) (mf_fl mo) (mf_tw mo) (mf_tp mo) (mf_tn mo) (mf_an mo) (mf_co mo) (mf_s1 mo) (mf_s2 mo)) rfl rfl (by decide) in_M tyok_M nm_M tb_510 rfl rfl rfl rfl (Nat.le_of_ble_eq_true rfl) rfl d_M_again_57 (fun H locs h => ?_)
          refine lv_aload_n C.1 C.2.1 d_M_again_60 rfl (lv_at hl 0 rfl) ?_
          refine sd_get C h 0 0 (v := .int 2) (ci := 3) (Cn := "StockDeskModel") (T := T_M) (N := 19) rfl rfl (by decide) in_M tb_510 rfl d_M_again_61 ?_
          refine lv_if_eq (tgt := 71) C.1 C.2.1 d_M_again_64 (by decide) (fun c64 => ?_) (fun c64 => ?_)
          · exact absurd c64 (by decide)
          · refine lv_lconst (v := 0) C.1 C.2.1 d_M_again_67 (by decide) ?_
            refine lv_goto (tgt := 78) C.1 C.2.1 d_M_again_68 (by decide) ?_
            have h := sd_world h (ws' := sd_M k3 q (mm_tc mo 2)) (by simp only [sd_M, mm_tc, mm_make, mm_drop, mm_kind, mm_answer, mm_way, mm_tell, mm_work, mm_byte, mm_keep, mm_dec, mm_fresh, hd_m, mf_tc, mf_ac, mf_aa, mf_md, mf_th, mf_us, mf_pk, mf_pb, mf_pf, mf_wt, mf_pw, mf_fl, mf_tw, mf_tp, mf_tn, mf_an, mf_co, mf_s1, mf_s2])
            exact sd_lret (v := 0) C hr hlk h (sm_px (sd_M k3 q) (mo := mm_tc mo 2) (c := 2) (o := o) ((if_neg hb).trans ((if_neg hb2).trans (if_pos (by rw [nI_clamp (show pt < 2 ^ 31 by omega), hkp, nI_clamp (show k < 2 ^ 31 by omega)]; exact ht)))) (by decide) (sm_tc _ hm) rfl (by decide +kernel)) d_M_again_78
      have ht := Classical.not_not.mp ht
      obtain ⟨j, h1, h9, rfl⟩ := sp_hasj ht
      have hth : ¬ hf_th (sS_u o) (k * 9 + j - 1) = 0 := by have z := ht.2.2; rw [nI_clamp (show j < 2 ^ 31 by omega)] at z; exact z
      have h := sd_world h (ws' := ([]) ++ (sd_M k3 q mo) ++ ([])) (by simp only [List.append_assoc, List.nil_append, List.append_nil])
      refine sd_calli h (va_runV (As := [.int (nI k), .int (nI j)]) (rest := [.ref (q 0)]) C (k_M_isThereT l D k3 H.size q mo (sS_u o) k j hm.2.2 hk h1 h9 hth) (sd_cwV 2 C.2.2.2.2 tb_596 tb_598 tb_17 tb_24 tb_599 rfl rfl (by decide +kernel) ⟨Nat.le_of_ble_eq_true rfl, Nat.le_of_ble_eq_true rfl⟩) (sd_preV h (q0 := 0) (T := T_M) (N := 19) rfl rfl) rfl rfl hl.1 rfl (lv_room (Nat.le_of_ble_eq_true rfl)) d_M_again_33 ⟨Nat.le_of_ble_eq_true rfl, Nat.le_of_ble_eq_true rfl⟩) (fun r w1 H locs hq h => ?_)
      obtain ⟨rfl, rfl⟩ := hq
      have h := sd_world h (ws' := sd_M k3 q mo) (by simp only [List.append_assoc, List.nil_append, List.append_nil])
      refine lv_if_ne (tgt := 43) C.1 C.2.1 d_M_again_36 (by decide) (fun c36 => ?_) (fun c36 => ?_)
      · refine lv_aload_n C.1 C.2.1 d_M_again_43 rfl (lv_at hl 0 rfl) ?_
        refine sd_get C h 0 10 (v := .ref (q 9)) (ci := 3) (Cn := "StockDeskModel") (T := T_M) (N := 19) rfl rfl (by decide) in_M tb_520 rfl d_M_again_44 ?_
        refine lv_iload_n C.1 C.2.1 d_M_again_47 rfl (lv_at hl 1 rfl) ?_
        refine sd_iald C h 9 0 (i := pt) rfl rfl (by omega) (by decide) d_M_again_48 ?_
        refine lv_if_le (tgt := 56) C.1 C.2.1 d_M_again_49 (by decide) (fun c49 => ?_) (fun c49 => ?_)
        · have hw : hf_pw (sS_u o) pt = 0 := (sm_way hm ho hpt).mp c49
          refine lv_iconst (v := 0) C.1 C.2.1 d_M_again_56 (by decide) ?_
          refine sd_put C h 0 0 (v := .int 0) (ci := 3) (Cn := "StockDeskModel") (T := T_M) (N := 19) (ty0 := ty_M) (ws' := sd_Mx k3 q 0 (mf_ac mo) (mf_aa mo) (mf_md mo) (mf_th mo) (mf_us mo) (mf_pk mo) (mf_pb mo) (mf_pf mo) (mf_wt mo) (mf_pw mo) (mf_fl mo) (mf_tw mo) (mf_tp mo) (mf_tn mo) (mf_an mo) (mf_co mo) (mf_s1 mo) (mf_s2 mo)) rfl rfl (by decide) in_M tyok_M nm_M tb_510 rfl rfl rfl rfl (Nat.le_of_ble_eq_true rfl) rfl d_M_again_57 (fun H locs h => ?_)
          refine lv_aload_n C.1 C.2.1 d_M_again_60 rfl (lv_at hl 0 rfl) ?_
          refine sd_get C h 0 0 (v := .int 0) (ci := 3) (Cn := "StockDeskModel") (T := T_M) (N := 19) rfl rfl (by decide) in_M tb_510 rfl d_M_again_61 ?_
          refine lv_if_eq (tgt := 71) C.1 C.2.1 d_M_again_64 (by decide) (fun c64 => ?_) (fun c64 => ?_)
          · refine lv_aload_n C.1 C.2.1 d_M_again_71 rfl (lv_at hl 0 rfl) ?_
            refine lv_iload_n C.1 C.2.1 d_M_again_72 rfl (lv_at hl 1 rfl) ?_
            refine lv_iload_n C.1 C.2.1 d_M_again_73 rfl (lv_at hl 2 rfl) ?_
            refine lv_iload_n C.1 C.2.1 d_M_again_74 rfl (lv_at hl 3 rfl) ?_
            have h := sd_world h (ws' := sd_M k3 q (mm_tc mo 0)) (by simp only [sd_M, mm_tc, mm_make, mm_drop, mm_kind, mm_answer, mm_way, mm_tell, mm_work, mm_byte, mm_keep, mm_dec, mm_fresh, hd_m, mf_tc, mf_ac, mf_aa, mf_md, mf_th, mf_us, mf_pk, mf_pb, mf_pf, mf_wt, mf_pw, mf_fl, mf_tw, mf_tp, mf_tn, mf_an, mf_co, mf_s1, mf_s2])
            have h := sd_world h (ws' := ([]) ++ (sd_M k3 q (mm_tc mo 0)) ++ ([])) (by simp only [List.append_assoc, List.nil_append, List.append_nil])
            refine sd_calll h (va_runV (As := [.int (nI pt), .int (nI j), .int z]) (rest := []) C (k_M_answer l D k3 H.size q (mm_tc mo 0) (sS_u o) pt (nI j) z (((sm_tc _ hm)).2.2) hpt) (sd_cwV 3 C.2.2.2.2 tb_618 tb_620 tb_18 tb_24 tb_621 rfl rfl (by decide +kernel) ⟨Nat.le_of_ble_eq_true rfl, Nat.le_of_ble_eq_true rfl⟩) (sd_preV h (q0 := 0) (T := T_M) (N := 19) rfl rfl) rfl rfl hl.1 rfl (lv_room (Nat.le_of_ble_eq_true rfl)) d_M_again_75 ⟨Nat.le_of_ble_eq_true rfl, Nat.le_of_ble_eq_true rfl⟩) (fun r w1 H locs hq h => ?_)
            obtain ⟨rfl, rfl⟩ := hq
            have h := sd_world h (ws' := sd_M k3 q (mm_tc mo 0)) (by simp only [List.append_assoc, List.nil_append, List.append_nil])
            exact sd_lret (v := hd_ans (sS_u o) pt (nI j) z) C hr hlk h (sm_pr (sd_M k3 q) (v := hd_ans (sS_u o) pt (nI j) z) (o := o) (((if_neg hb).trans ((if_neg hb2).trans ((if_neg (by rw [nI_clamp (show pt < 2 ^ 31 by omega), hkp, nI_clamp (show k < 2 ^ 31 by omega)]; exact not_not_intro ht)).trans (if_pos (by rw [nI_clamp (show pt < 2 ^ 31 by omega)]; exact hw))))).trans (by rw [nI_clamp (show pt < 2 ^ 31 by omega)])) (sm_tc _ hm) rfl (by decide +kernel) (fun e9 => by rw [e9])) d_M_again_78
          · exact absurd c64 (by decide)
        · have hw : ¬ hf_pw (sS_u o) pt = 0 := fun z => c49 ((sm_way hm ho hpt).mpr z)
          refine lv_iconst (v := 3) C.1 C.2.1 d_M_again_52 (by decide) ?_
          refine lv_goto (tgt := 57) C.1 C.2.1 d_M_again_53 (by decide) ?_
          refine sd_put C h 0 0 (v := .int 3) (ci := 3) (Cn := "StockDeskModel") (T := T_M) (N := 19) (ty0 := ty_M) (ws' := sd_Mx k3 q 3 (mf_ac mo) (mf_aa mo) (mf_md mo) (mf_th mo) (mf_us mo) (mf_pk mo) (mf_pb mo) (mf_pf mo) (mf_wt mo) (mf_pw mo) (mf_fl mo) (mf_tw mo) (mf_tp mo) (mf_tn mo) (mf_an mo) (mf_co mo) (mf_s1 mo) (mf_s2 mo)) rfl rfl (by decide) in_M tyok_M nm_M tb_510 rfl rfl rfl rfl (Nat.le_of_ble_eq_true rfl) rfl d_M_again_57 (fun H locs h => ?_)
          refine lv_aload_n C.1 C.2.1 d_M_again_60 rfl (lv_at hl 0 rfl) ?_
          refine sd_get C h 0 0 (v := .int 3) (ci := 3) (Cn := "StockDeskModel") (T := T_M) (N := 19) rfl rfl (by decide) in_M tb_510 rfl d_M_again_61 ?_
          refine lv_if_eq (tgt := 71) C.1 C.2.1 d_M_again_64 (by decide) (fun c64 => ?_) (fun c64 => ?_)
          · exact absurd c64 (by decide)
          · refine lv_lconst (v := 0) C.1 C.2.1 d_M_again_67 (by decide) ?_
            refine lv_goto (tgt := 78) C.1 C.2.1 d_M_again_68 (by decide) ?_
            have h := sd_world h (ws' := sd_M k3 q (mm_tc mo 3)) (by simp only [sd_M, mm_tc, mm_make, mm_drop, mm_kind, mm_answer, mm_way, mm_tell, mm_work, mm_byte, mm_keep, mm_dec, mm_fresh, hd_m, mf_tc, mf_ac, mf_aa, mf_md, mf_th, mf_us, mf_pk, mf_pb, mf_pf, mf_wt, mf_pw, mf_fl, mf_tw, mf_tp, mf_tn, mf_an, mf_co, mf_s1, mf_s2])
            exact sd_lret (v := 0) C hr hlk h (sm_px (sd_M k3 q) (mo := mm_tc mo 3) (c := 3) (o := o) ((if_neg hb).trans ((if_neg hb2).trans ((if_neg (by rw [nI_clamp (show pt < 2 ^ 31 by omega), hkp, nI_clamp (show k < 2 ^ 31 by omega)]; exact not_not_intro ht)).trans (if_neg (by rw [nI_clamp (show pt < 2 ^ 31 by omega)]; exact hw))))) (by decide) (sm_tc _ hm) rfl (by decide +kernel)) d_M_again_78
      · exact absurd c36 (by decide)
    · exact absurd c18 (by decide)

set_option maxHeartbeats 4000000 in
set_option maxRecDepth 100000 in
theorem k_M_collect (l : Launch) (D : va_G) (k3 : ClassId × ClassId × ClassId) (sz : Nat) (q : Nat → Nat) (mo : sd_MS) (o : sd_S) (x : Int32) (ho : sS_ok o) (hm : sm_all mo o) : Met l y_M_collect (sd_ws y_M_collect c_M_collect 2 (some FieldType.int)) ({ frames := 3, cells := 0, slots := 0, locals := 72 }) (sd_Pc D (sd_t3 k3) [.ref (q 0), .int x] sz (sd_M k3 q mo)) (sd_Qi D (sd_t3 k3) (va_A (sd_M k3 q mo) sz) (fun r w => ∃ m9, w = sd_M k3 q m9 ∧ sm_all m9 (sp_collect o x).2.2 ∧ mf_tc m9 = sp_cd [xIA, xUO] (sp_collect o x).1 ∧ ((sp_collect o x).1 = "" → r = (sp_collect o x).2.1.toInt32))) 0 0 (va_A (sd_M k3 q mo) sz) := by
  refine sd_met (cc := c_M_collect) (maxL := 2) (ret := some .int) (by decide) (Nat.le_of_ble_eq_true rfl) (fun p e s m below meth c C hr hlk hnm hsz h ls hl => ?_)
  generalize va_A (sd_M k3 q mo) sz = A at h ⊢
  have hl : lv_has ls 2 [(0, .ref (q 0)), (1, .int x)] := hl
  generalize hH : s.heap = H at h ⊢
  refine lv_aload_n C.1 C.2.1 d_M_collect_0 rfl (lv_at hl 0 rfl) ?_
  refine lv_iload_n C.1 C.2.1 d_M_collect_1 rfl (lv_at hl 1 rfl) ?_
  refine lv_iconst (v := 0) C.1 C.2.1 d_M_collect_2 (by decide) ?_
  refine lv_sipush (v := 255) C.1 C.2.1 d_M_collect_3 (by decide) ?_
  rcases Classical.em (sp_bad x 256) with hb | hb
  · have h := sd_world h (ws' := ([]) ++ ([]) ++ (sd_M k3 q mo)) (by simp only [List.append_assoc, List.nil_append, List.append_nil])
    refine sd_calli h (va_runS (As := [.int x, .int 0, .int 255]) (rest := [.ref (q 0)]) C (k_M_notT l D k3 H.size x 0 255 ((sp_k256 _).mpr hb)) (sd_cwS 3 C.2.2.2.2 tb_576 tb_577 tb_24 tb_578 rfl rfl (by decide +kernel) ⟨Nat.le_of_ble_eq_true rfl, Nat.le_of_ble_eq_true rfl⟩) (sd_preS h) rfl rfl hl.1 rfl (lv_room (Nat.le_of_ble_eq_true rfl)) d_M_collect_6 ⟨Nat.le_of_ble_eq_true rfl, Nat.le_of_ble_eq_true rfl⟩) (fun r w1 H locs hq h => ?_)
    obtain ⟨rfl, rfl⟩ := hq
    have h := sd_world h (ws' := sd_M k3 q mo) (by simp only [List.append_assoc, List.nil_append, List.append_nil])
    refine lv_if_eq (tgt := 16) C.1 C.2.1 d_M_collect_9 (by decide) (fun c9 => ?_) (fun c9 => ?_)
    · exact absurd c9 (by decide)
    · refine lv_iconst (v := 1) C.1 C.2.1 d_M_collect_12 (by decide) ?_
      refine lv_goto (tgt := 30) C.1 C.2.1 d_M_collect_13 (by decide) ?_
      refine sd_put C h 0 0 (v := .int 1) (ci := 3) (Cn := "StockDeskModel") (T := T_M) (N := 19) (ty0 := ty_M) (ws' := sd_Mx k3 q 1 (mf_ac mo) (mf_aa mo) (mf_md mo) (mf_th mo) (mf_us mo) (mf_pk mo) (mf_pb mo) (mf_pf mo) (mf_wt mo) (mf_pw mo) (mf_fl mo) (mf_tw mo) (mf_tp mo) (mf_tn mo) (mf_an mo) (mf_co mo) (mf_s1 mo) (mf_s2 mo)) rfl rfl (by decide) in_M tyok_M nm_M tb_510 rfl rfl rfl rfl (Nat.le_of_ble_eq_true rfl) rfl d_M_collect_30 (fun H locs h => ?_)
      refine lv_aload_n C.1 C.2.1 d_M_collect_33 rfl (lv_at hl 0 rfl) ?_
      refine sd_get C h 0 0 (v := .int 1) (ci := 3) (Cn := "StockDeskModel") (T := T_M) (N := 19) rfl rfl (by decide) in_M tb_510 rfl d_M_collect_34 ?_
      refine lv_if_eq (tgt := 42) C.1 C.2.1 d_M_collect_37 (by decide) (fun c37 => ?_) (fun c37 => ?_)
      · exact absurd c37 (by decide)
      · refine lv_iconst (v := 0) C.1 C.2.1 d_M_collect_40 (by decide) ?_
        have h := sd_world h (ws' := sd_M k3 q (mm_tc mo 1)) (by simp only [sd_M, mm_tc, mm_make, mm_drop, mm_kind, mm_answer, mm_way, mm_tell, mm_work, mm_byte, mm_keep, mm_dec, mm_fresh, hd_m, mf_tc, mf_ac, mf_aa, mf_md, mf_th, mf_us, mf_pk, mf_pb, mf_pf, mf_wt, mf_pw, mf_fl, mf_tw, mf_tp, mf_tn, mf_an, mf_co, mf_s1, mf_s2])
        exact sd_iret (v := 0) C hr hlk h (sm_px (sd_M k3 q) (mo := mm_tc mo 1) (c := 1) (o := o) (if_pos hb) (by decide) (sm_tc _ hm) rfl (by decide +kernel)) d_M_collect_41
  have h := sd_world h (ws' := ([]) ++ ([]) ++ (sd_M k3 q mo)) (by simp only [List.append_assoc, List.nil_append, List.append_nil])
  refine sd_calli h (va_runS (As := [.int x, .int 0, .int 255]) (rest := [.ref (q 0)]) C (k_M_notF l D k3 H.size x 0 255 (fun z => hb ((sp_k256 _).mp z))) (sd_cwS 3 C.2.2.2.2 tb_576 tb_577 tb_24 tb_578 rfl rfl (by decide +kernel) ⟨Nat.le_of_ble_eq_true rfl, Nat.le_of_ble_eq_true rfl⟩) (sd_preS h) rfl rfl hl.1 rfl (lv_room (Nat.le_of_ble_eq_true rfl)) d_M_collect_6 ⟨Nat.le_of_ble_eq_true rfl, Nat.le_of_ble_eq_true rfl⟩) (fun r w1 H locs hq h => ?_)
  obtain ⟨rfl, rfl⟩ := hq
  have h := sd_world h (ws' := sd_M k3 q mo) (by simp only [List.append_assoc, List.nil_append, List.append_nil])
  refine lv_if_eq (tgt := 16) C.1 C.2.1 d_M_collect_9 (by decide) (fun c9 => ?_) (fun c9 => ?_)
  · refine lv_aload_n C.1 C.2.1 d_M_collect_16 rfl (lv_at hl 0 rfl) ?_
    refine sd_get C h 0 1 (v := .int (mf_ac mo)) (ci := 3) (Cn := "StockDeskModel") (T := T_M) (N := 19) rfl rfl (by decide) in_M tb_511 rfl d_M_collect_17 ?_
    refine lv_bipush (v := 60) C.1 C.2.1 d_M_collect_20 (by decide) ?_
    refine lv_icmp_ne (tgt := 29) C.1 C.2.1 d_M_collect_22 (by decide) (fun c22 => ?_) (fun c22 => ?_)
    · have hf := fun z => c22 ((sm_acts hm ho).mpr z)
      refine lv_iconst (v := 0) C.1 C.2.1 d_M_collect_29 (by decide) ?_
      refine sd_put C h 0 0 (v := .int 0) (ci := 3) (Cn := "StockDeskModel") (T := T_M) (N := 19) (ty0 := ty_M) (ws' := sd_Mx k3 q 0 (mf_ac mo) (mf_aa mo) (mf_md mo) (mf_th mo) (mf_us mo) (mf_pk mo) (mf_pb mo) (mf_pf mo) (mf_wt mo) (mf_pw mo) (mf_fl mo) (mf_tw mo) (mf_tp mo) (mf_tn mo) (mf_an mo) (mf_co mo) (mf_s1 mo) (mf_s2 mo)) rfl rfl (by decide) in_M tyok_M nm_M tb_510 rfl rfl rfl rfl (Nat.le_of_ble_eq_true rfl) rfl d_M_collect_30 (fun H locs h => ?_)
      refine lv_aload_n C.1 C.2.1 d_M_collect_33 rfl (lv_at hl 0 rfl) ?_
      refine sd_get C h 0 0 (v := .int 0) (ci := 3) (Cn := "StockDeskModel") (T := T_M) (N := 19) rfl rfl (by decide) in_M tb_510 rfl d_M_collect_34 ?_
      refine lv_if_eq (tgt := 42) C.1 C.2.1 d_M_collect_37 (by decide) (fun c37 => ?_) (fun c37 => ?_)
      · refine lv_aload_n C.1 C.2.1 d_M_collect_42 rfl (lv_at hl 0 rfl) ?_
        refine lv_bipush (v := 6) C.1 C.2.1 d_M_collect_43 (by decide) ?_
        refine lv_iload_n C.1 C.2.1 d_M_collect_45 rfl (lv_at hl 1 rfl) ?_
        refine lv_iconst (v := 0) C.1 C.2.1 d_M_collect_46 (by decide) ?_
        refine lv_iconst (v := 0) C.1 C.2.1 d_M_collect_47 (by decide) ?_
        have h := sd_world h (ws' := sd_M k3 q (mm_tc mo 0)) (by simp only [sd_M, mm_tc, mm_make, mm_drop, mm_kind, mm_answer, mm_way, mm_tell, mm_work, mm_byte, mm_keep, mm_dec, mm_fresh, hd_m, mf_tc, mf_ac, mf_aa, mf_md, mf_th, mf_us, mf_pk, mf_pb, mf_pf, mf_wt, mf_pw, mf_fl, mf_tw, mf_tp, mf_tn, mf_an, mf_co, mf_s1, mf_s2])
        have h := sd_world h (ws' := ([]) ++ (sd_M k3 q (mm_tc mo 0)) ++ ([])) (by simp only [List.append_assoc, List.nil_append, List.append_nil])
        refine sd_callv h (va_runV (As := [.int 6, .int x, .int 0, .int 0]) (rest := []) C (k_M_keep l D k3 H.size q (mm_tc mo 0) o 6 x 0 0 ho (sm_tc _ hm) (Classical.not_not.mp hf) (Or.inr (Or.inr (Or.inr (Or.inr (Or.inr (Or.inr rfl))))))) (sd_cwV 4 C.2.2.2.2 tb_579 tb_581 tb_14 tb_24 tb_582 rfl rfl (by decide +kernel) ⟨Nat.le_of_ble_eq_true rfl, Nat.le_of_ble_eq_true rfl⟩) (sd_preV h (q0 := 0) (T := T_M) (N := 19) rfl rfl) rfl rfl hl.1 rfl (lv_room (Nat.le_of_ble_eq_true rfl)) d_M_collect_48 ⟨Nat.le_of_ble_eq_true rfl, Nat.le_of_ble_eq_true rfl⟩) (fun w1 H locs hq h => ?_)
        obtain ⟨m2, rfl, hm2, ht2⟩ := hq
        have h := sd_world h (ws' := sd_M k3 q m2) (by simp only [List.append_assoc, List.nil_append, List.append_nil])
        refine lv_aload_n C.1 C.2.1 d_M_collect_51 rfl (lv_at hl 0 rfl) ?_
        refine sd_get C h 0 16 (v := .int (mf_co m2)) (ci := 3) (Cn := "StockDeskModel") (T := T_M) (N := 19) rfl rfl (by decide) in_M tb_526 rfl d_M_collect_52 ?_
        exact sd_iret (v := mf_co m2) C hr hlk h (sm_pra (sd_M k3 q) ((if_neg hb).trans ((if_neg hf).trans rfl)) hm2 ht2 (by decide +kernel) (fun e9 => by rw [e9]; show mf_co m2 = ((hf_co (sS_u o) + 1).toInt64).toInt32; rw [sd_back32, hm2.2.2.co, sv_byte])) d_M_collect_55
      · exact absurd c37 (by decide)
    · have hf := (sm_acts hm ho).mp c22
      refine lv_iconst (v := 2) C.1 C.2.1 d_M_collect_25 (by decide) ?_
      refine lv_goto (tgt := 30) C.1 C.2.1 d_M_collect_26 (by decide) ?_
      refine sd_put C h 0 0 (v := .int 2) (ci := 3) (Cn := "StockDeskModel") (T := T_M) (N := 19) (ty0 := ty_M) (ws' := sd_Mx k3 q 2 (mf_ac mo) (mf_aa mo) (mf_md mo) (mf_th mo) (mf_us mo) (mf_pk mo) (mf_pb mo) (mf_pf mo) (mf_wt mo) (mf_pw mo) (mf_fl mo) (mf_tw mo) (mf_tp mo) (mf_tn mo) (mf_an mo) (mf_co mo) (mf_s1 mo) (mf_s2 mo)) rfl rfl (by decide) in_M tyok_M nm_M tb_510 rfl rfl rfl rfl (Nat.le_of_ble_eq_true rfl) rfl d_M_collect_30 (fun H locs h => ?_)
      refine lv_aload_n C.1 C.2.1 d_M_collect_33 rfl (lv_at hl 0 rfl) ?_
      refine sd_get C h 0 0 (v := .int 2) (ci := 3) (Cn := "StockDeskModel") (T := T_M) (N := 19) rfl rfl (by decide) in_M tb_510 rfl d_M_collect_34 ?_
      refine lv_if_eq (tgt := 42) C.1 C.2.1 d_M_collect_37 (by decide) (fun c37 => ?_) (fun c37 => ?_)
      · exact absurd c37 (by decide)
      · refine lv_iconst (v := 0) C.1 C.2.1 d_M_collect_40 (by decide) ?_
        have h := sd_world h (ws' := sd_M k3 q (mm_tc mo 2)) (by simp only [sd_M, mm_tc, mm_make, mm_drop, mm_kind, mm_answer, mm_way, mm_tell, mm_work, mm_byte, mm_keep, mm_dec, mm_fresh, hd_m, mf_tc, mf_ac, mf_aa, mf_md, mf_th, mf_us, mf_pk, mf_pb, mf_pf, mf_wt, mf_pw, mf_fl, mf_tw, mf_tp, mf_tn, mf_an, mf_co, mf_s1, mf_s2])
        exact sd_iret (v := 0) C hr hlk h (sm_px (sd_M k3 q) (mo := mm_tc mo 2) (c := 2) (o := o) ((if_neg hb).trans (if_pos hf)) (by decide) (sm_tc _ hm) rfl (by decide +kernel)) d_M_collect_41
  · exact absurd c9 (by decide)

set_option maxHeartbeats 4000000 in
set_option maxRecDepth 100000 in
theorem k_M_sums (l : Launch) (D : va_G) (k3 : ClassId × ClassId × ClassId) (sz : Nat) (q : Nat → Nat) (mo : sd_MS) (o : sd_S) (ho : sS_ok o) (hm : sm_all mo o) : Met l y_M_sums (sd_ws y_M_sums c_M_sums 1 (some FieldType.long)) ({ frames := 0, cells := 0, slots := 0, locals := 0 }) (sd_Pc D (sd_t3 k3) [.ref (q 0)] sz (sd_M k3 q mo)) (sd_Ql D (sd_t3 k3) (va_A (sd_M k3 q mo) sz) (fun r w => r = sp_sums o ∧ ∃ m9, w = sd_M k3 q m9 ∧ sm_all m9 o)) 0 0 (va_A (sd_M k3 q mo) sz) := by
  refine sd_met (cc := c_M_sums) (maxL := 1) (ret := some .long) (by decide) (Nat.le_of_ble_eq_true rfl) (fun p e s m below meth c C hr hlk hnm hsz h ls hl => ?_)
  generalize va_A (sd_M k3 q mo) sz = A at h ⊢
  have hl : lv_has ls 1 [(0, .ref (q 0))] := hl
  generalize hH : s.heap = H at h ⊢
  refine lv_aload_n C.1 C.2.1 d_M_sums_0 rfl (lv_at hl 0 rfl) ?_
  refine lv_iconst (v := 0) C.1 C.2.1 d_M_sums_1 (by decide) ?_
  refine sd_put C h 0 0 (v := .int 0) (ci := 3) (Cn := "StockDeskModel") (T := T_M) (N := 19) (ty0 := ty_M) (ws' := sd_Mx k3 q 0 (mf_ac mo) (mf_aa mo) (mf_md mo) (mf_th mo) (mf_us mo) (mf_pk mo) (mf_pb mo) (mf_pf mo) (mf_wt mo) (mf_pw mo) (mf_fl mo) (mf_tw mo) (mf_tp mo) (mf_tn mo) (mf_an mo) (mf_co mo) (mf_s1 mo) (mf_s2 mo)) rfl rfl (by decide) in_M tyok_M nm_M tb_510 rfl rfl rfl rfl (Nat.le_of_ble_eq_true rfl) rfl d_M_sums_2 (fun H locs h => ?_)
  refine lv_aload_n C.1 C.2.1 d_M_sums_5 rfl (lv_at hl 0 rfl) ?_
  refine sd_get C h 0 18 (v := .int (mf_s2 mo)) (ci := 3) (Cn := "StockDeskModel") (T := T_M) (N := 19) rfl rfl (by decide) in_M tb_528 rfl d_M_sums_6 ?_
  refine lv_i2l (v := (mf_s2 mo).toInt64) C.1 C.2.1 d_M_sums_9 rfl ?_
  refine lv_ldc2 (v := 65536) C.1 C.2.1 C.2.2.2.1 (C.2.2.2.2 _ (List.mem_cons_of_mem _ tb_634)) d_M_sums_10 ?_
  refine lv_lmul C.1 C.2.1 d_M_sums_13 ?_
  refine lv_aload_n C.1 C.2.1 d_M_sums_14 rfl (lv_at hl 0 rfl) ?_
  refine sd_get C h 0 17 (v := .int (mf_s1 mo)) (ci := 3) (Cn := "StockDeskModel") (T := T_M) (N := 19) rfl rfl (by decide) in_M tb_527 rfl d_M_sums_15 ?_
  refine lv_i2l (v := (mf_s1 mo).toInt64) C.1 C.2.1 d_M_sums_18 rfl ?_
  refine lv_ladd C.1 C.2.1 d_M_sums_19 ?_
  have h := sd_world h (ws' := sd_M k3 q (mm_tc mo 0)) (by simp only [sd_M, mm_tc, mm_make, mm_drop, mm_kind, mm_answer, mm_way, mm_tell, mm_work, mm_byte, mm_keep, mm_dec, mm_fresh, hd_m, mf_tc, mf_ac, mf_aa, mf_md, mf_th, mf_us, mf_pk, mf_pb, mf_pf, mf_wt, mf_pw, mf_fl, mf_tw, mf_tp, mf_tn, mf_an, mf_co, mf_s1, mf_s2])
  exact sd_lret (v := (((mf_s2 mo).toInt64) * 65536) + ((mf_s1 mo).toInt64)) C hr hlk h ⟨by rw [hm.2.2.s1, hm.2.2.s2]; rfl, mm_tc mo 0, rfl, sm_tc _ hm⟩ d_M_sums_20

set_option maxHeartbeats 4000000 in
set_option maxRecDepth 100000 in
theorem k_M_told (l : Launch) (D : va_G) (k3 : ClassId × ClassId × ClassId) (sz : Nat) (q : Nat → Nat) (mo : sd_MS) (o : sd_S) (x : Int32) (ho : sS_ok o) (hm : sm_all mo o) : Met l y_M_told (sd_ws y_M_told c_M_told 2 (some FieldType.int)) ({ frames := 1, cells := 0, slots := 0, locals := 22 }) (sd_Pc D (sd_t3 k3) [.ref (q 0), .int x] sz (sd_M k3 q mo)) (sd_Qi D (sd_t3 k3) (va_A (sd_M k3 q mo) sz) (fun r w => ∃ m9, w = sd_M k3 q m9 ∧ sm_all m9 (sp_told o x).2.2 ∧ mf_tc m9 = sp_cd [xIA] (sp_told o x).1 ∧ ((sp_told o x).1 = "" → r = (sp_told o x).2.1.toInt32))) 0 0 (va_A (sd_M k3 q mo) sz) := by
  refine sd_met (cc := c_M_told) (maxL := 2) (ret := some .int) (by decide) (Nat.le_of_ble_eq_true rfl) (fun p e s m below meth c C hr hlk hnm hsz h ls hl => ?_)
  generalize va_A (sd_M k3 q mo) sz = A at h ⊢
  have hl : lv_has ls 2 [(0, .ref (q 0)), (1, .int x)] := hl
  generalize hH : s.heap = H at h ⊢
  refine lv_aload_n C.1 C.2.1 d_M_told_0 rfl (lv_at hl 0 rfl) ?_
  refine lv_iload_n C.1 C.2.1 d_M_told_1 rfl (lv_at hl 1 rfl) ?_
  refine lv_iconst (v := 0) C.1 C.2.1 d_M_told_2 (by decide) ?_
  refine lv_iconst (v := 3) C.1 C.2.1 d_M_told_3 (by decide) ?_
  rcases Classical.em (x.toInt < 0 ∨ 3 < x.toInt) with hb | hb
  · have h := sd_world h (ws' := ([]) ++ ([]) ++ (sd_M k3 q mo)) (by simp only [List.append_assoc, List.nil_append, List.append_nil])
    refine sd_calli h (va_runS (As := [.int x, .int 0, .int 3]) (rest := [.ref (q 0)]) C (k_M_notT l D k3 H.size x 0 3 ((sp_kt _).mpr hb)) (sd_cwS 3 C.2.2.2.2 tb_576 tb_577 tb_24 tb_578 rfl rfl (by decide +kernel) ⟨Nat.le_of_ble_eq_true rfl, Nat.le_of_ble_eq_true rfl⟩) (sd_preS h) rfl rfl hl.1 rfl (lv_room (Nat.le_of_ble_eq_true rfl)) d_M_told_4 ⟨Nat.le_of_ble_eq_true rfl, Nat.le_of_ble_eq_true rfl⟩) (fun r w1 H locs hq h => ?_)
    obtain ⟨rfl, rfl⟩ := hq
    have h := sd_world h (ws' := sd_M k3 q mo) (by simp only [List.append_assoc, List.nil_append, List.append_nil])
    refine lv_if_eq (tgt := 14) C.1 C.2.1 d_M_told_7 (by decide) (fun c7 => ?_) (fun c7 => ?_)
    · exact absurd c7 (by decide)
    · refine lv_iconst (v := 1) C.1 C.2.1 d_M_told_10 (by decide) ?_
      refine lv_goto (tgt := 15) C.1 C.2.1 d_M_told_11 (by decide) ?_
      refine sd_put C h 0 0 (v := .int 1) (ci := 3) (Cn := "StockDeskModel") (T := T_M) (N := 19) (ty0 := ty_M) (ws' := sd_Mx k3 q 1 (mf_ac mo) (mf_aa mo) (mf_md mo) (mf_th mo) (mf_us mo) (mf_pk mo) (mf_pb mo) (mf_pf mo) (mf_wt mo) (mf_pw mo) (mf_fl mo) (mf_tw mo) (mf_tp mo) (mf_tn mo) (mf_an mo) (mf_co mo) (mf_s1 mo) (mf_s2 mo)) rfl rfl (by decide) in_M tyok_M nm_M tb_510 rfl rfl rfl rfl (Nat.le_of_ble_eq_true rfl) rfl d_M_told_15 (fun H locs h => ?_)
      refine lv_aload_n C.1 C.2.1 d_M_told_18 rfl (lv_at hl 0 rfl) ?_
      refine sd_get C h 0 0 (v := .int 1) (ci := 3) (Cn := "StockDeskModel") (T := T_M) (N := 19) rfl rfl (by decide) in_M tb_510 rfl d_M_told_19 ?_
      refine lv_if_eq (tgt := 29) C.1 C.2.1 d_M_told_22 (by decide) (fun c22 => ?_) (fun c22 => ?_)
      · exact absurd c22 (by decide)
      · refine lv_iconst (v := 0) C.1 C.2.1 d_M_told_25 (by decide) ?_
        refine lv_goto (tgt := 68) C.1 C.2.1 d_M_told_26 (by decide) ?_
        have h := sd_world h (ws' := sd_M k3 q (mm_tc mo 1)) (by simp only [sd_M, mm_tc, mm_make, mm_drop, mm_kind, mm_answer, mm_way, mm_tell, mm_work, mm_byte, mm_keep, mm_dec, mm_fresh, hd_m, mf_tc, mf_ac, mf_aa, mf_md, mf_th, mf_us, mf_pk, mf_pb, mf_pf, mf_wt, mf_pw, mf_fl, mf_tw, mf_tp, mf_tn, mf_an, mf_co, mf_s1, mf_s2])
        exact sd_iret (v := 0) C hr hlk h (sm_px (sd_M k3 q) (mo := mm_tc mo 1) (c := 1) (o := o) ((if_neg (sp_n4 hb).1).trans ((if_neg (sp_n4 hb).2.1).trans ((if_neg (sp_n4 hb).2.2.1).trans (if_neg (sp_n4 hb).2.2.2)))) (by decide) (sm_tc _ hm) rfl (by decide +kernel)) d_M_told_68
  have h := sd_world h (ws' := ([]) ++ ([]) ++ (sd_M k3 q mo)) (by simp only [List.append_assoc, List.nil_append, List.append_nil])
  refine sd_calli h (va_runS (As := [.int x, .int 0, .int 3]) (rest := [.ref (q 0)]) C (k_M_notF l D k3 H.size x 0 3 (fun z => hb ((sp_kt _).mp z))) (sd_cwS 3 C.2.2.2.2 tb_576 tb_577 tb_24 tb_578 rfl rfl (by decide +kernel) ⟨Nat.le_of_ble_eq_true rfl, Nat.le_of_ble_eq_true rfl⟩) (sd_preS h) rfl rfl hl.1 rfl (lv_room (Nat.le_of_ble_eq_true rfl)) d_M_told_4 ⟨Nat.le_of_ble_eq_true rfl, Nat.le_of_ble_eq_true rfl⟩) (fun r w1 H locs hq h => ?_)
  obtain ⟨rfl, rfl⟩ := hq
  have h := sd_world h (ws' := sd_M k3 q mo) (by simp only [List.append_assoc, List.nil_append, List.append_nil])
  refine lv_if_eq (tgt := 14) C.1 C.2.1 d_M_told_7 (by decide) (fun c7 => ?_) (fun c7 => ?_)
  · refine lv_iconst (v := 0) C.1 C.2.1 d_M_told_14 (by decide) ?_
    refine sd_put C h 0 0 (v := .int 0) (ci := 3) (Cn := "StockDeskModel") (T := T_M) (N := 19) (ty0 := ty_M) (ws' := sd_Mx k3 q 0 (mf_ac mo) (mf_aa mo) (mf_md mo) (mf_th mo) (mf_us mo) (mf_pk mo) (mf_pb mo) (mf_pf mo) (mf_wt mo) (mf_pw mo) (mf_fl mo) (mf_tw mo) (mf_tp mo) (mf_tn mo) (mf_an mo) (mf_co mo) (mf_s1 mo) (mf_s2 mo)) rfl rfl (by decide) in_M tyok_M nm_M tb_510 rfl rfl rfl rfl (Nat.le_of_ble_eq_true rfl) rfl d_M_told_15 (fun H locs h => ?_)
    refine lv_aload_n C.1 C.2.1 d_M_told_18 rfl (lv_at hl 0 rfl) ?_
    refine sd_get C h 0 0 (v := .int 0) (ci := 3) (Cn := "StockDeskModel") (T := T_M) (N := 19) rfl rfl (by decide) in_M tb_510 rfl d_M_told_19 ?_
    refine lv_if_eq (tgt := 29) C.1 C.2.1 d_M_told_22 (by decide) (fun c22 => ?_) (fun c22 => ?_)
    · refine lv_iload_n C.1 C.2.1 d_M_told_29 rfl (lv_at hl 1 rfl) ?_
      refine lv_if_ne (tgt := 40) C.1 C.2.1 d_M_told_30 (by decide) (fun c30 => ?_) (fun c30 => ?_)
      · refine lv_iload_n C.1 C.2.1 d_M_told_40 rfl (lv_at hl 1 rfl) ?_
        refine lv_iconst (v := 1) C.1 C.2.1 d_M_told_41 (by decide) ?_
        refine lv_icmp_ne (tgt := 52) C.1 C.2.1 d_M_told_42 (by decide) (fun c42 => ?_) (fun c42 => ?_)
        · refine lv_iload_n C.1 C.2.1 d_M_told_52 rfl (lv_at hl 1 rfl) ?_
          refine lv_iconst (v := 2) C.1 C.2.1 d_M_told_53 (by decide) ?_
          refine lv_icmp_ne (tgt := 64) C.1 C.2.1 d_M_told_54 (by decide) (fun c54 => ?_) (fun c54 => ?_)
          · have h3 : x = 3 := by rcases sp_t4 x with e | e | e | e | e; exact absurd e c30; exact absurd e c42; exact absurd e c54; exact e; exact absurd e hb
            refine lv_aload_n C.1 C.2.1 d_M_told_64 rfl (lv_at hl 0 rfl) ?_
            refine sd_get C h 0 14 (v := .int (mf_tn mo)) (ci := 3) (Cn := "StockDeskModel") (T := T_M) (N := 19) rfl rfl (by decide) in_M tb_524 rfl d_M_told_65 ?_
            have h := sd_world h (ws' := sd_M k3 q (mm_tc mo 0)) (by simp only [sd_M, mm_tc, mm_make, mm_drop, mm_kind, mm_answer, mm_way, mm_tell, mm_work, mm_byte, mm_keep, mm_dec, mm_fresh, hd_m, mf_tc, mf_ac, mf_aa, mf_md, mf_th, mf_us, mf_pk, mf_pb, mf_pf, mf_wt, mf_pw, mf_fl, mf_tw, mf_tp, mf_tn, mf_an, mf_co, mf_s1, mf_s2])
            exact sd_iret (v := mf_tn mo) C hr hlk h (sm_pr (sd_M k3 q) (mo := mm_tc mo 0) (v := (hf_tn (sS_u o)).toInt64) (o := o) ((if_neg c30).trans ((if_neg c42).trans ((if_neg c54).trans (if_pos h3)))) (sm_tc _ hm) rfl (by decide +kernel) (fun e9 => by rw [e9]; show mf_tn mo = ((hf_tn (sS_u o)).toInt64).toInt32; rw [sd_back32, hm.2.2.tn])) d_M_told_68
          · refine lv_aload_n C.1 C.2.1 d_M_told_57 rfl (lv_at hl 0 rfl) ?_
            refine sd_get C h 0 13 (v := .int (mf_tp mo)) (ci := 3) (Cn := "StockDeskModel") (T := T_M) (N := 19) rfl rfl (by decide) in_M tb_523 rfl d_M_told_58 ?_
            refine lv_goto (tgt := 68) C.1 C.2.1 d_M_told_61 (by decide) ?_
            have h := sd_world h (ws' := sd_M k3 q (mm_tc mo 0)) (by simp only [sd_M, mm_tc, mm_make, mm_drop, mm_kind, mm_answer, mm_way, mm_tell, mm_work, mm_byte, mm_keep, mm_dec, mm_fresh, hd_m, mf_tc, mf_ac, mf_aa, mf_md, mf_th, mf_us, mf_pk, mf_pb, mf_pf, mf_wt, mf_pw, mf_fl, mf_tw, mf_tp, mf_tn, mf_an, mf_co, mf_s1, mf_s2])
            exact sd_iret (v := mf_tp mo) C hr hlk h (sm_pr (sd_M k3 q) (mo := mm_tc mo 0) (v := (hf_tp (sS_u o)).toInt64) (o := o) ((if_neg c30).trans ((if_neg c42).trans (if_pos c54))) (sm_tc _ hm) rfl (by decide +kernel) (fun e9 => by rw [e9]; show mf_tp mo = ((hf_tp (sS_u o)).toInt64).toInt32; rw [sd_back32, hm.2.2.tp])) d_M_told_68
        · refine lv_aload_n C.1 C.2.1 d_M_told_45 rfl (lv_at hl 0 rfl) ?_
          refine sd_get C h 0 12 (v := .int (mf_tw mo)) (ci := 3) (Cn := "StockDeskModel") (T := T_M) (N := 19) rfl rfl (by decide) in_M tb_522 rfl d_M_told_46 ?_
          refine lv_goto (tgt := 68) C.1 C.2.1 d_M_told_49 (by decide) ?_
          have h := sd_world h (ws' := sd_M k3 q (mm_tc mo 0)) (by simp only [sd_M, mm_tc, mm_make, mm_drop, mm_kind, mm_answer, mm_way, mm_tell, mm_work, mm_byte, mm_keep, mm_dec, mm_fresh, hd_m, mf_tc, mf_ac, mf_aa, mf_md, mf_th, mf_us, mf_pk, mf_pb, mf_pf, mf_wt, mf_pw, mf_fl, mf_tw, mf_tp, mf_tn, mf_an, mf_co, mf_s1, mf_s2])
          exact sd_iret (v := mf_tw mo) C hr hlk h (sm_pr (sd_M k3 q) (mo := mm_tc mo 0) (v := (hf_tw (sS_u o)).toInt64) (o := o) ((if_neg c30).trans (if_pos c42)) (sm_tc _ hm) rfl (by decide +kernel) (fun e9 => by rw [e9]; show mf_tw mo = ((hf_tw (sS_u o)).toInt64).toInt32; rw [sd_back32, hm.2.2.tw])) d_M_told_68
      · refine lv_aload_n C.1 C.2.1 d_M_told_33 rfl (lv_at hl 0 rfl) ?_
        refine sd_get C h 0 11 (v := .int (mf_fl mo)) (ci := 3) (Cn := "StockDeskModel") (T := T_M) (N := 19) rfl rfl (by decide) in_M tb_521 rfl d_M_told_34 ?_
        refine lv_goto (tgt := 68) C.1 C.2.1 d_M_told_37 (by decide) ?_
        have h := sd_world h (ws' := sd_M k3 q (mm_tc mo 0)) (by simp only [sd_M, mm_tc, mm_make, mm_drop, mm_kind, mm_answer, mm_way, mm_tell, mm_work, mm_byte, mm_keep, mm_dec, mm_fresh, hd_m, mf_tc, mf_ac, mf_aa, mf_md, mf_th, mf_us, mf_pk, mf_pb, mf_pf, mf_wt, mf_pw, mf_fl, mf_tw, mf_tp, mf_tn, mf_an, mf_co, mf_s1, mf_s2])
        exact sd_iret (v := mf_fl mo) C hr hlk h (sm_pr (sd_M k3 q) (mo := mm_tc mo 0) (v := (hf_fl (sS_u o)).toInt64) (o := o) (if_pos c30) (sm_tc _ hm) rfl (by decide +kernel) (fun e9 => by rw [e9]; show mf_fl mo = ((hf_fl (sS_u o)).toInt64).toInt32; rw [sd_back32, hm.2.2.fl])) d_M_told_68
    · exact absurd c22 (by decide)
  · exact absurd c7 (by decide)

set_option maxHeartbeats 4000000 in
set_option maxRecDepth 100000 in
theorem k_M_worth (l : Launch) (D : va_G) (k3 : ClassId × ClassId × ClassId) (sz : Nat) (q : Nat → Nat) (mo : sd_MS) (o : sd_S) (x : Int32) (ho : sS_ok o) (hm : sm_all mo o) : Met l y_M_worth (sd_ws y_M_worth c_M_worth 2 (some FieldType.long)) ({ frames := 1, cells := 0, slots := 0, locals := 22 }) (sd_Pc D (sd_t3 k3) [.ref (q 0), .int x] sz (sd_M k3 q mo)) (sd_Ql D (sd_t3 k3) (va_A (sd_M k3 q mo) sz) (fun r w => ∃ m9, w = sd_M k3 q m9 ∧ sm_all m9 (sp_worth o x).2.2 ∧ mf_tc m9 = sp_cd [xIA] (sp_worth o x).1 ∧ ((sp_worth o x).1 = "" → r = (sp_worth o x).2.1))) 0 0 (va_A (sd_M k3 q mo) sz) := by
  refine sd_met (cc := c_M_worth) (maxL := 2) (ret := some .long) (by decide) (Nat.le_of_ble_eq_true rfl) (fun p e s m below meth c C hr hlk hnm hsz h ls hl => ?_)
  generalize va_A (sd_M k3 q mo) sz = A at h ⊢
  have hl : lv_has ls 2 [(0, .ref (q 0)), (1, .int x)] := hl
  generalize hH : s.heap = H at h ⊢
  refine lv_aload_n C.1 C.2.1 d_M_worth_0 rfl (lv_at hl 0 rfl) ?_
  refine lv_iload_n C.1 C.2.1 d_M_worth_1 rfl (lv_at hl 1 rfl) ?_
  refine lv_iconst (v := 0) C.1 C.2.1 d_M_worth_2 (by decide) ?_
  refine lv_iconst (v := 5) C.1 C.2.1 d_M_worth_3 (by decide) ?_
  rcases Classical.em (sp_bad x 6) with hb | hb
  · have h := sd_world h (ws' := ([]) ++ ([]) ++ (sd_M k3 q mo)) (by simp only [List.append_assoc, List.nil_append, List.append_nil])
    refine sd_calli h (va_runS (As := [.int x, .int 0, .int 5]) (rest := [.ref (q 0)]) C (k_M_notT l D k3 H.size x 0 5 ((sp_k6 _).mpr hb)) (sd_cwS 3 C.2.2.2.2 tb_576 tb_577 tb_24 tb_578 rfl rfl (by decide +kernel) ⟨Nat.le_of_ble_eq_true rfl, Nat.le_of_ble_eq_true rfl⟩) (sd_preS h) rfl rfl hl.1 rfl (lv_room (Nat.le_of_ble_eq_true rfl)) d_M_worth_4 ⟨Nat.le_of_ble_eq_true rfl, Nat.le_of_ble_eq_true rfl⟩) (fun r w1 H locs hq h => ?_)
    obtain ⟨rfl, rfl⟩ := hq
    have h := sd_world h (ws' := sd_M k3 q mo) (by simp only [List.append_assoc, List.nil_append, List.append_nil])
    refine lv_if_eq (tgt := 14) C.1 C.2.1 d_M_worth_7 (by decide) (fun c7 => ?_) (fun c7 => ?_)
    · exact absurd c7 (by decide)
    · refine lv_iconst (v := 1) C.1 C.2.1 d_M_worth_10 (by decide) ?_
      refine lv_goto (tgt := 15) C.1 C.2.1 d_M_worth_11 (by decide) ?_
      refine sd_put C h 0 0 (v := .int 1) (ci := 3) (Cn := "StockDeskModel") (T := T_M) (N := 19) (ty0 := ty_M) (ws' := sd_Mx k3 q 1 (mf_ac mo) (mf_aa mo) (mf_md mo) (mf_th mo) (mf_us mo) (mf_pk mo) (mf_pb mo) (mf_pf mo) (mf_wt mo) (mf_pw mo) (mf_fl mo) (mf_tw mo) (mf_tp mo) (mf_tn mo) (mf_an mo) (mf_co mo) (mf_s1 mo) (mf_s2 mo)) rfl rfl (by decide) in_M tyok_M nm_M tb_510 rfl rfl rfl rfl (Nat.le_of_ble_eq_true rfl) rfl d_M_worth_15 (fun H locs h => ?_)
      refine lv_aload_n C.1 C.2.1 d_M_worth_18 rfl (lv_at hl 0 rfl) ?_
      refine sd_get C h 0 0 (v := .int 1) (ci := 3) (Cn := "StockDeskModel") (T := T_M) (N := 19) rfl rfl (by decide) in_M tb_510 rfl d_M_worth_19 ?_
      refine lv_if_eq (tgt := 29) C.1 C.2.1 d_M_worth_22 (by decide) (fun c22 => ?_) (fun c22 => ?_)
      · exact absurd c22 (by decide)
      · refine lv_lconst (v := 0) C.1 C.2.1 d_M_worth_25 (by decide) ?_
        refine lv_goto (tgt := 35) C.1 C.2.1 d_M_worth_26 (by decide) ?_
        have h := sd_world h (ws' := sd_M k3 q (mm_tc mo 1)) (by simp only [sd_M, mm_tc, mm_make, mm_drop, mm_kind, mm_answer, mm_way, mm_tell, mm_work, mm_byte, mm_keep, mm_dec, mm_fresh, hd_m, mf_tc, mf_ac, mf_aa, mf_md, mf_th, mf_us, mf_pk, mf_pb, mf_pf, mf_wt, mf_pw, mf_fl, mf_tw, mf_tp, mf_tn, mf_an, mf_co, mf_s1, mf_s2])
        exact sd_lret (v := 0) C hr hlk h (sm_px (sd_M k3 q) (mo := mm_tc mo 1) (c := 1) (o := o) (if_pos hb) (by decide) (sm_tc _ hm) rfl (by decide +kernel)) d_M_worth_35
  have h := sd_world h (ws' := ([]) ++ ([]) ++ (sd_M k3 q mo)) (by simp only [List.append_assoc, List.nil_append, List.append_nil])
  refine sd_calli h (va_runS (As := [.int x, .int 0, .int 5]) (rest := [.ref (q 0)]) C (k_M_notF l D k3 H.size x 0 5 (fun z => hb ((sp_k6 _).mp z))) (sd_cwS 3 C.2.2.2.2 tb_576 tb_577 tb_24 tb_578 rfl rfl (by decide +kernel) ⟨Nat.le_of_ble_eq_true rfl, Nat.le_of_ble_eq_true rfl⟩) (sd_preS h) rfl rfl hl.1 rfl (lv_room (Nat.le_of_ble_eq_true rfl)) d_M_worth_4 ⟨Nat.le_of_ble_eq_true rfl, Nat.le_of_ble_eq_true rfl⟩) (fun r w1 H locs hq h => ?_)
  obtain ⟨rfl, rfl⟩ := hq
  have h := sd_world h (ws' := sd_M k3 q mo) (by simp only [List.append_assoc, List.nil_append, List.append_nil])
  obtain ⟨pt, hpt, rfl⟩ := sp_in 6 rfl (by decide) hb
  refine lv_if_eq (tgt := 14) C.1 C.2.1 d_M_worth_7 (by decide) (fun c7 => ?_) (fun c7 => ?_)
  · refine lv_iconst (v := 0) C.1 C.2.1 d_M_worth_14 (by decide) ?_
    refine sd_put C h 0 0 (v := .int 0) (ci := 3) (Cn := "StockDeskModel") (T := T_M) (N := 19) (ty0 := ty_M) (ws' := sd_Mx k3 q 0 (mf_ac mo) (mf_aa mo) (mf_md mo) (mf_th mo) (mf_us mo) (mf_pk mo) (mf_pb mo) (mf_pf mo) (mf_wt mo) (mf_pw mo) (mf_fl mo) (mf_tw mo) (mf_tp mo) (mf_tn mo) (mf_an mo) (mf_co mo) (mf_s1 mo) (mf_s2 mo)) rfl rfl (by decide) in_M tyok_M nm_M tb_510 rfl rfl rfl rfl (Nat.le_of_ble_eq_true rfl) rfl d_M_worth_15 (fun H locs h => ?_)
    refine lv_aload_n C.1 C.2.1 d_M_worth_18 rfl (lv_at hl 0 rfl) ?_
    refine sd_get C h 0 0 (v := .int 0) (ci := 3) (Cn := "StockDeskModel") (T := T_M) (N := 19) rfl rfl (by decide) in_M tb_510 rfl d_M_worth_19 ?_
    refine lv_if_eq (tgt := 29) C.1 C.2.1 d_M_worth_22 (by decide) (fun c22 => ?_) (fun c22 => ?_)
    · refine lv_aload_n C.1 C.2.1 d_M_worth_29 rfl (lv_at hl 0 rfl) ?_
      refine sd_get C h 0 9 (v := .ref (q 8)) (ci := 3) (Cn := "StockDeskModel") (T := T_M) (N := 19) rfl rfl (by decide) in_M tb_519 rfl d_M_worth_30 ?_
      refine lv_iload_n C.1 C.2.1 d_M_worth_33 rfl (lv_at hl 1 rfl) ?_
      refine sd_lald C h 8 2 (i := pt) rfl rfl (by omega) (by decide) d_M_worth_34 ?_
      have h := sd_world h (ws' := sd_M k3 q (mm_tc mo 0)) (by simp only [sd_M, mm_tc, mm_make, mm_drop, mm_kind, mm_answer, mm_way, mm_tell, mm_work, mm_byte, mm_keep, mm_dec, mm_fresh, hd_m, mf_tc, mf_ac, mf_aa, mf_md, mf_th, mf_us, mf_pk, mf_pb, mf_pf, mf_wt, mf_pw, mf_fl, mf_tw, mf_tp, mf_tn, mf_an, mf_co, mf_s1, mf_s2])
      exact sd_lret (v := (mf_wt mo) pt) C hr hlk h (sm_pr (sd_M k3 q) (mo := mm_tc mo 0) (v := hf_wt (sS_u o) pt) (o := o) ((if_neg hb).trans (by rw [nI_clamp (show pt < 2 ^ 31 by omega)])) (sm_tc _ hm) rfl (by decide +kernel) (fun e9 => by rw [e9]; exact hm.2.2.wt pt hpt)) d_M_worth_35
    · exact absurd c22 (by decide)
  · exact absurd c7 (by decide)

set_option maxHeartbeats 4000000 in
set_option maxRecDepth 100000 in
theorem k_M_uses (l : Launch) (D : va_G) (k3 : ClassId × ClassId × ClassId) (sz : Nat) (q : Nat → Nat) (mo : sd_MS) (o : sd_S) (x : Int32) (y : Int32) (ho : sS_ok o) (hm : sm_all mo o) : Met l y_M_uses (sd_ws y_M_uses c_M_uses 3 (some FieldType.int)) ({ frames := 1, cells := 0, slots := 0, locals := 22 }) (sd_Pc D (sd_t3 k3) [.ref (q 0), .int x, .int y] sz (sd_M k3 q mo)) (sd_Qi D (sd_t3 k3) (va_A (sd_M k3 q mo) sz) (fun r w => ∃ m9, w = sd_M k3 q m9 ∧ sm_all m9 (sp_uses o x y).2.2 ∧ mf_tc m9 = sp_cd [xNS, xIA] (sp_uses o x y).1 ∧ ((sp_uses o x y).1 = "" → r = (sp_uses o x y).2.1.toInt32))) 0 0 (va_A (sd_M k3 q mo) sz) := by
  refine sd_met (cc := c_M_uses) (maxL := 3) (ret := some .int) (by decide) (Nat.le_of_ble_eq_true rfl) (fun p e s m below meth c C hr hlk hnm hsz h ls hl => ?_)
  generalize va_A (sd_M k3 q mo) sz = A at h ⊢
  have hl : lv_has ls 3 [(0, .ref (q 0)), (1, .int x), (2, .int y)] := hl
  generalize hH : s.heap = H at h ⊢
  refine lv_aload_n C.1 C.2.1 d_M_uses_0 rfl (lv_at hl 0 rfl) ?_
  refine lv_iload_n C.1 C.2.1 d_M_uses_1 rfl (lv_at hl 1 rfl) ?_
  refine lv_iconst (v := 0) C.1 C.2.1 d_M_uses_2 (by decide) ?_
  refine lv_iconst (v := 4) C.1 C.2.1 d_M_uses_3 (by decide) ?_
  rcases Classical.em (sp_bad x 5) with hb | hb
  · have h := sd_world h (ws' := ([]) ++ ([]) ++ (sd_M k3 q mo)) (by simp only [List.append_assoc, List.nil_append, List.append_nil])
    refine sd_calli h (va_runS (As := [.int x, .int 0, .int 4]) (rest := [.ref (q 0)]) C (k_M_notT l D k3 H.size x 0 4 ((sp_k5 _).mpr hb)) (sd_cwS 3 C.2.2.2.2 tb_576 tb_577 tb_24 tb_578 rfl rfl (by decide +kernel) ⟨Nat.le_of_ble_eq_true rfl, Nat.le_of_ble_eq_true rfl⟩) (sd_preS h) rfl rfl hl.1 rfl (lv_room (Nat.le_of_ble_eq_true rfl)) d_M_uses_4 ⟨Nat.le_of_ble_eq_true rfl, Nat.le_of_ble_eq_true rfl⟩) (fun r w1 H locs hq h => ?_)
    obtain ⟨rfl, rfl⟩ := hq
    have h := sd_world h (ws' := sd_M k3 q mo) (by simp only [List.append_assoc, List.nil_append, List.append_nil])
    refine lv_if_eq (tgt := 14) C.1 C.2.1 d_M_uses_7 (by decide) (fun c7 => ?_) (fun c7 => ?_)
    · exact absurd c7 (by decide)
    · refine lv_iconst (v := 2) C.1 C.2.1 d_M_uses_10 (by decide) ?_
      refine lv_goto (tgt := 28) C.1 C.2.1 d_M_uses_11 (by decide) ?_
      refine sd_put C h 0 0 (v := .int 2) (ci := 3) (Cn := "StockDeskModel") (T := T_M) (N := 19) (ty0 := ty_M) (ws' := sd_Mx k3 q 2 (mf_ac mo) (mf_aa mo) (mf_md mo) (mf_th mo) (mf_us mo) (mf_pk mo) (mf_pb mo) (mf_pf mo) (mf_wt mo) (mf_pw mo) (mf_fl mo) (mf_tw mo) (mf_tp mo) (mf_tn mo) (mf_an mo) (mf_co mo) (mf_s1 mo) (mf_s2 mo)) rfl rfl (by decide) in_M tyok_M nm_M tb_510 rfl rfl rfl rfl (Nat.le_of_ble_eq_true rfl) rfl d_M_uses_28 (fun H locs h => ?_)
      refine lv_aload_n C.1 C.2.1 d_M_uses_31 rfl (lv_at hl 0 rfl) ?_
      refine sd_get C h 0 0 (v := .int 2) (ci := 3) (Cn := "StockDeskModel") (T := T_M) (N := 19) rfl rfl (by decide) in_M tb_510 rfl d_M_uses_32 ?_
      refine lv_if_eq (tgt := 42) C.1 C.2.1 d_M_uses_35 (by decide) (fun c35 => ?_) (fun c35 => ?_)
      · exact absurd c35 (by decide)
      · refine lv_iconst (v := 0) C.1 C.2.1 d_M_uses_38 (by decide) ?_
        refine lv_goto (tgt := 53) C.1 C.2.1 d_M_uses_39 (by decide) ?_
        have h := sd_world h (ws' := sd_M k3 q (mm_tc mo 2)) (by simp only [sd_M, mm_tc, mm_make, mm_drop, mm_kind, mm_answer, mm_way, mm_tell, mm_work, mm_byte, mm_keep, mm_dec, mm_fresh, hd_m, mf_tc, mf_ac, mf_aa, mf_md, mf_th, mf_us, mf_pk, mf_pb, mf_pf, mf_wt, mf_pw, mf_fl, mf_tw, mf_tp, mf_tn, mf_an, mf_co, mf_s1, mf_s2])
        exact sd_iret (v := 0) C hr hlk h (sm_px (sd_M k3 q) (mo := mm_tc mo 2) (c := 2) (o := o) (if_pos hb) (by decide) (sm_tc _ hm) rfl (by decide +kernel)) d_M_uses_53
  have h := sd_world h (ws' := ([]) ++ ([]) ++ (sd_M k3 q mo)) (by simp only [List.append_assoc, List.nil_append, List.append_nil])
  refine sd_calli h (va_runS (As := [.int x, .int 0, .int 4]) (rest := [.ref (q 0)]) C (k_M_notF l D k3 H.size x 0 4 (fun z => hb ((sp_k5 _).mp z))) (sd_cwS 3 C.2.2.2.2 tb_576 tb_577 tb_24 tb_578 rfl rfl (by decide +kernel) ⟨Nat.le_of_ble_eq_true rfl, Nat.le_of_ble_eq_true rfl⟩) (sd_preS h) rfl rfl hl.1 rfl (lv_room (Nat.le_of_ble_eq_true rfl)) d_M_uses_4 ⟨Nat.le_of_ble_eq_true rfl, Nat.le_of_ble_eq_true rfl⟩) (fun r w1 H locs hq h => ?_)
  obtain ⟨rfl, rfl⟩ := hq
  have h := sd_world h (ws' := sd_M k3 q mo) (by simp only [List.append_assoc, List.nil_append, List.append_nil])
  obtain ⟨k, hk, rfl⟩ := sp_in 5 rfl (by decide) hb
  refine lv_if_eq (tgt := 14) C.1 C.2.1 d_M_uses_7 (by decide) (fun c7 => ?_) (fun c7 => ?_)
  · refine lv_aload_n C.1 C.2.1 d_M_uses_14 rfl (lv_at hl 0 rfl) ?_
    refine lv_iload_n C.1 C.2.1 d_M_uses_15 rfl (lv_at hl 1 rfl) ?_
    refine lv_iload_n C.1 C.2.1 d_M_uses_16 rfl (lv_at hl 2 rfl) ?_
    rcases Classical.em (¬ hd_has (sS_u o) k y) with ht | ht
    · have h := sd_world h (ws' := ([]) ++ (sd_M k3 q mo) ++ ([])) (by simp only [List.append_assoc, List.nil_append, List.append_nil])
      refine sd_calli h (va_runV (As := [.int (nI k), .int y]) (rest := [.ref (q 0)]) C (k_M_isThereF l D k3 H.size q mo (sS_u o) k y hm.2.2 hk ht) (sd_cwV 2 C.2.2.2.2 tb_596 tb_598 tb_17 tb_24 tb_599 rfl rfl (by decide +kernel) ⟨Nat.le_of_ble_eq_true rfl, Nat.le_of_ble_eq_true rfl⟩) (sd_preV h (q0 := 0) (T := T_M) (N := 19) rfl rfl) rfl rfl hl.1 rfl (lv_room (Nat.le_of_ble_eq_true rfl)) d_M_uses_17 ⟨Nat.le_of_ble_eq_true rfl, Nat.le_of_ble_eq_true rfl⟩) (fun r w1 H locs hq h => ?_)
      obtain ⟨rfl, rfl⟩ := hq
      have h := sd_world h (ws' := sd_M k3 q mo) (by simp only [List.append_assoc, List.nil_append, List.append_nil])
      refine lv_if_ne (tgt := 27) C.1 C.2.1 d_M_uses_20 (by decide) (fun c20 => ?_) (fun c20 => ?_)
      · exact absurd c20 (by decide)
      · refine lv_iconst (v := 1) C.1 C.2.1 d_M_uses_23 (by decide) ?_
        refine lv_goto (tgt := 28) C.1 C.2.1 d_M_uses_24 (by decide) ?_
        refine sd_put C h 0 0 (v := .int 1) (ci := 3) (Cn := "StockDeskModel") (T := T_M) (N := 19) (ty0 := ty_M) (ws' := sd_Mx k3 q 1 (mf_ac mo) (mf_aa mo) (mf_md mo) (mf_th mo) (mf_us mo) (mf_pk mo) (mf_pb mo) (mf_pf mo) (mf_wt mo) (mf_pw mo) (mf_fl mo) (mf_tw mo) (mf_tp mo) (mf_tn mo) (mf_an mo) (mf_co mo) (mf_s1 mo) (mf_s2 mo)) rfl rfl (by decide) in_M tyok_M nm_M tb_510 rfl rfl rfl rfl (Nat.le_of_ble_eq_true rfl) rfl d_M_uses_28 (fun H locs h => ?_)
        refine lv_aload_n C.1 C.2.1 d_M_uses_31 rfl (lv_at hl 0 rfl) ?_
        refine sd_get C h 0 0 (v := .int 1) (ci := 3) (Cn := "StockDeskModel") (T := T_M) (N := 19) rfl rfl (by decide) in_M tb_510 rfl d_M_uses_32 ?_
        refine lv_if_eq (tgt := 42) C.1 C.2.1 d_M_uses_35 (by decide) (fun c35 => ?_) (fun c35 => ?_)
        · exact absurd c35 (by decide)
        · refine lv_iconst (v := 0) C.1 C.2.1 d_M_uses_38 (by decide) ?_
          refine lv_goto (tgt := 53) C.1 C.2.1 d_M_uses_39 (by decide) ?_
          have h := sd_world h (ws' := sd_M k3 q (mm_tc mo 1)) (by simp only [sd_M, mm_tc, mm_make, mm_drop, mm_kind, mm_answer, mm_way, mm_tell, mm_work, mm_byte, mm_keep, mm_dec, mm_fresh, hd_m, mf_tc, mf_ac, mf_aa, mf_md, mf_th, mf_us, mf_pk, mf_pb, mf_pf, mf_wt, mf_pw, mf_fl, mf_tw, mf_tp, mf_tn, mf_an, mf_co, mf_s1, mf_s2])
          exact sd_iret (v := 0) C hr hlk h (sm_px (sd_M k3 q) (mo := mm_tc mo 1) (c := 1) (o := o) ((if_neg hb).trans (if_pos (by rw [nI_clamp (show k < 2 ^ 31 by omega)]; exact ht))) (by decide) (sm_tc _ hm) rfl (by decide +kernel)) d_M_uses_53
    have ht := Classical.not_not.mp ht
    obtain ⟨j, h1, h9, rfl⟩ := sp_hasj ht
    have hth : ¬ hf_th (sS_u o) (k * 9 + j - 1) = 0 := by have z := ht.2.2; rw [nI_clamp (show j < 2 ^ 31 by omega)] at z; exact z
    have h := sd_world h (ws' := ([]) ++ (sd_M k3 q mo) ++ ([])) (by simp only [List.append_assoc, List.nil_append, List.append_nil])
    refine sd_calli h (va_runV (As := [.int (nI k), .int (nI j)]) (rest := [.ref (q 0)]) C (k_M_isThereT l D k3 H.size q mo (sS_u o) k j hm.2.2 hk h1 h9 hth) (sd_cwV 2 C.2.2.2.2 tb_596 tb_598 tb_17 tb_24 tb_599 rfl rfl (by decide +kernel) ⟨Nat.le_of_ble_eq_true rfl, Nat.le_of_ble_eq_true rfl⟩) (sd_preV h (q0 := 0) (T := T_M) (N := 19) rfl rfl) rfl rfl hl.1 rfl (lv_room (Nat.le_of_ble_eq_true rfl)) d_M_uses_17 ⟨Nat.le_of_ble_eq_true rfl, Nat.le_of_ble_eq_true rfl⟩) (fun r w1 H locs hq h => ?_)
    obtain ⟨rfl, rfl⟩ := hq
    have h := sd_world h (ws' := sd_M k3 q mo) (by simp only [List.append_assoc, List.nil_append, List.append_nil])
    refine lv_if_ne (tgt := 27) C.1 C.2.1 d_M_uses_20 (by decide) (fun c20 => ?_) (fun c20 => ?_)
    · refine lv_iconst (v := 0) C.1 C.2.1 d_M_uses_27 (by decide) ?_
      refine sd_put C h 0 0 (v := .int 0) (ci := 3) (Cn := "StockDeskModel") (T := T_M) (N := 19) (ty0 := ty_M) (ws' := sd_Mx k3 q 0 (mf_ac mo) (mf_aa mo) (mf_md mo) (mf_th mo) (mf_us mo) (mf_pk mo) (mf_pb mo) (mf_pf mo) (mf_wt mo) (mf_pw mo) (mf_fl mo) (mf_tw mo) (mf_tp mo) (mf_tn mo) (mf_an mo) (mf_co mo) (mf_s1 mo) (mf_s2 mo)) rfl rfl (by decide) in_M tyok_M nm_M tb_510 rfl rfl rfl rfl (Nat.le_of_ble_eq_true rfl) rfl d_M_uses_28 (fun H locs h => ?_)
      refine lv_aload_n C.1 C.2.1 d_M_uses_31 rfl (lv_at hl 0 rfl) ?_
      refine sd_get C h 0 0 (v := .int 0) (ci := 3) (Cn := "StockDeskModel") (T := T_M) (N := 19) rfl rfl (by decide) in_M tb_510 rfl d_M_uses_32 ?_
      refine lv_if_eq (tgt := 42) C.1 C.2.1 d_M_uses_35 (by decide) (fun c35 => ?_) (fun c35 => ?_)
      · refine lv_aload_n C.1 C.2.1 d_M_uses_42 rfl (lv_at hl 0 rfl) ?_
        refine sd_get C h 0 5 (v := .ref (q 4)) (ci := 3) (Cn := "StockDeskModel") (T := T_M) (N := 19) rfl rfl (by decide) in_M tb_515 rfl d_M_uses_43 ?_
        refine lv_bipush (v := 10) C.1 C.2.1 d_M_uses_46 (by decide) ?_
        refine lv_iload_n C.1 C.2.1 d_M_uses_48 rfl (lv_at hl 1 rfl) ?_
        refine lv_imul C.1 C.2.1 d_M_uses_49 ?_
        refine lv_iload_n C.1 C.2.1 d_M_uses_50 rfl (lv_at hl 2 rfl) ?_
        refine lv_iadd C.1 C.2.1 d_M_uses_51 ?_
        refine sd_top (v := .int ((10 * (nI k)) + (nI j))) (v' := .int (nI (10 * k + j))) (congrArg Value.int (sm_ix k j)) ?_
        refine sd_iald C h 4 0 (i := (10 * k + j)) rfl rfl (by omega) (by decide) d_M_uses_52 ?_
        have h := sd_world h (ws' := sd_M k3 q (mm_tc mo 0)) (by simp only [sd_M, mm_tc, mm_make, mm_drop, mm_kind, mm_answer, mm_way, mm_tell, mm_work, mm_byte, mm_keep, mm_dec, mm_fresh, hd_m, mf_tc, mf_ac, mf_aa, mf_md, mf_th, mf_us, mf_pk, mf_pb, mf_pf, mf_wt, mf_pw, mf_fl, mf_tw, mf_tp, mf_tn, mf_an, mf_co, mf_s1, mf_s2])
        exact sd_iret (v := (mf_us mo) (10 * k + j)) C hr hlk h (sm_pr (sd_M k3 q) (mo := mm_tc mo 0) (v := (hf_us (sS_u o) (k * 9 + j - 1)).toInt64) (o := o) (((if_neg hb).trans (if_neg (by rw [nI_clamp (show k < 2 ^ 31 by omega)]; exact not_not_intro ht))).trans (by rw [nI_clamp (show k < 2 ^ 31 by omega), nI_clamp (show j < 2 ^ 31 by omega)])) (sm_tc _ hm) rfl (by decide +kernel) (fun e9 => by rw [e9]; show mf_us mo (10 * k + j) = ((hf_us (sS_u o) (k * 9 + j - 1)).toInt64).toInt32; rw [sd_back32, hm.2.2.us k j hk h1 h9])) d_M_uses_53
      · exact absurd c35 (by decide)
    · exact absurd c20 (by decide)
  · exact absurd c7 (by decide)

set_option maxHeartbeats 4000000 in
set_option maxRecDepth 100000 in
theorem k_M_numbers (l : Launch) (D : va_G) (k3 : ClassId × ClassId × ClassId) (sz : Nat) (q : Nat → Nat) (mo : sd_MS) (o : sd_S) (x : Int32) (y : Int32) (ho : sS_ok o) (hm : sm_all mo o) : Met l y_M_numbers (sd_ws y_M_numbers c_M_numbers 3 (some FieldType.int)) ({ frames := 1, cells := 0, slots := 0, locals := 23 }) (sd_Pc D (sd_t3 k3) [.ref (q 0), .int x, .int y] sz (sd_M k3 q mo)) (sd_Qi D (sd_t3 k3) (va_A (sd_M k3 q mo) sz) (fun r w => ∃ m9, w = sd_M k3 q m9 ∧ sm_all m9 (sp_numbers o x y).2.2 ∧ mf_tc m9 = sp_cd [xIA] (sp_numbers o x y).1 ∧ ((sp_numbers o x y).1 = "" → r = (sp_numbers o x y).2.1.toInt32))) 0 0 (va_A (sd_M k3 q mo) sz) := by
  refine sd_met (cc := c_M_numbers) (maxL := 3) (ret := some .int) (by decide) (Nat.le_of_ble_eq_true rfl) (fun p e s m below meth c C hr hlk hnm hsz h ls hl => ?_)
  generalize va_A (sd_M k3 q mo) sz = A at h ⊢
  have hl : lv_has ls 3 [(0, .ref (q 0)), (1, .int x), (2, .int y)] := hl
  generalize hH : s.heap = H at h ⊢
  refine lv_aload_n C.1 C.2.1 d_M_numbers_0 rfl (lv_at hl 0 rfl) ?_
  refine lv_iload_n C.1 C.2.1 d_M_numbers_1 rfl (lv_at hl 1 rfl) ?_
  refine lv_iconst (v := 0) C.1 C.2.1 d_M_numbers_2 (by decide) ?_
  refine lv_iconst (v := 4) C.1 C.2.1 d_M_numbers_3 (by decide) ?_
  rcases Classical.em (sp_bad x 5) with hb | hb
  · have h := sd_world h (ws' := ([]) ++ ([]) ++ (sd_M k3 q mo)) (by simp only [List.append_assoc, List.nil_append, List.append_nil])
    refine sd_calli h (va_runS (As := [.int x, .int 0, .int 4]) (rest := [.ref (q 0)]) C (k_M_notT l D k3 H.size x 0 4 ((sp_k5 _).mpr hb)) (sd_cwS 3 C.2.2.2.2 tb_576 tb_577 tb_24 tb_578 rfl rfl (by decide +kernel) ⟨Nat.le_of_ble_eq_true rfl, Nat.le_of_ble_eq_true rfl⟩) (sd_preS h) rfl rfl hl.1 rfl (lv_room (Nat.le_of_ble_eq_true rfl)) d_M_numbers_4 ⟨Nat.le_of_ble_eq_true rfl, Nat.le_of_ble_eq_true rfl⟩) (fun r w1 H locs hq h => ?_)
    obtain ⟨rfl, rfl⟩ := hq
    have h := sd_world h (ws' := sd_M k3 q mo) (by simp only [List.append_assoc, List.nil_append, List.append_nil])
    refine lv_if_ne (tgt := 19) C.1 C.2.1 d_M_numbers_7 (by decide) (fun c7 => ?_) (fun c7 => ?_)
    · refine lv_iconst (v := 1) C.1 C.2.1 d_M_numbers_19 (by decide) ?_
      refine lv_goto (tgt := 24) C.1 C.2.1 d_M_numbers_20 (by decide) ?_
      refine sd_put C h 0 0 (v := .int 1) (ci := 3) (Cn := "StockDeskModel") (T := T_M) (N := 19) (ty0 := ty_M) (ws' := sd_Mx k3 q 1 (mf_ac mo) (mf_aa mo) (mf_md mo) (mf_th mo) (mf_us mo) (mf_pk mo) (mf_pb mo) (mf_pf mo) (mf_wt mo) (mf_pw mo) (mf_fl mo) (mf_tw mo) (mf_tp mo) (mf_tn mo) (mf_an mo) (mf_co mo) (mf_s1 mo) (mf_s2 mo)) rfl rfl (by decide) in_M tyok_M nm_M tb_510 rfl rfl rfl rfl (Nat.le_of_ble_eq_true rfl) rfl d_M_numbers_24 (fun H locs h => ?_)
      refine lv_aload_n C.1 C.2.1 d_M_numbers_27 rfl (lv_at hl 0 rfl) ?_
      refine sd_get C h 0 0 (v := .int 1) (ci := 3) (Cn := "StockDeskModel") (T := T_M) (N := 19) rfl rfl (by decide) in_M tb_510 rfl d_M_numbers_28 ?_
      refine lv_if_eq (tgt := 38) C.1 C.2.1 d_M_numbers_31 (by decide) (fun c31 => ?_) (fun c31 => ?_)
      · exact absurd c31 (by decide)
      · refine lv_iconst (v := 0) C.1 C.2.1 d_M_numbers_34 (by decide) ?_
        refine lv_goto (tgt := 56) C.1 C.2.1 d_M_numbers_35 (by decide) ?_
        have h := sd_world h (ws' := sd_M k3 q (mm_tc mo 1)) (by simp only [sd_M, mm_tc, mm_make, mm_drop, mm_kind, mm_answer, mm_way, mm_tell, mm_work, mm_byte, mm_keep, mm_dec, mm_fresh, hd_m, mf_tc, mf_ac, mf_aa, mf_md, mf_th, mf_us, mf_pk, mf_pb, mf_pf, mf_wt, mf_pw, mf_fl, mf_tw, mf_tp, mf_tn, mf_an, mf_co, mf_s1, mf_s2])
        exact sd_iret (v := 0) C hr hlk h (sm_px (sd_M k3 q) (mo := mm_tc mo 1) (c := 1) (o := o) (if_pos hb) (by decide) (sm_tc _ hm) rfl (by decide +kernel)) d_M_numbers_56
    · exact absurd c7 (by decide)
  have h := sd_world h (ws' := ([]) ++ ([]) ++ (sd_M k3 q mo)) (by simp only [List.append_assoc, List.nil_append, List.append_nil])
  refine sd_calli h (va_runS (As := [.int x, .int 0, .int 4]) (rest := [.ref (q 0)]) C (k_M_notF l D k3 H.size x 0 4 (fun z => hb ((sp_k5 _).mp z))) (sd_cwS 3 C.2.2.2.2 tb_576 tb_577 tb_24 tb_578 rfl rfl (by decide +kernel) ⟨Nat.le_of_ble_eq_true rfl, Nat.le_of_ble_eq_true rfl⟩) (sd_preS h) rfl rfl hl.1 rfl (lv_room (Nat.le_of_ble_eq_true rfl)) d_M_numbers_4 ⟨Nat.le_of_ble_eq_true rfl, Nat.le_of_ble_eq_true rfl⟩) (fun r w1 H locs hq h => ?_)
  obtain ⟨rfl, rfl⟩ := hq
  have h := sd_world h (ws' := sd_M k3 q mo) (by simp only [List.append_assoc, List.nil_append, List.append_nil])
  obtain ⟨k, hk, rfl⟩ := sp_in 5 rfl (by decide) hb
  refine lv_if_ne (tgt := 19) C.1 C.2.1 d_M_numbers_7 (by decide) (fun c7 => ?_) (fun c7 => ?_)
  · exact absurd c7 (by decide)
  · refine lv_iload_n C.1 C.2.1 d_M_numbers_10 rfl (lv_at hl 2 rfl) ?_
    refine lv_iconst (v := 0) C.1 C.2.1 d_M_numbers_11 (by decide) ?_
    refine lv_iconst (v := 1) C.1 C.2.1 d_M_numbers_12 (by decide) ?_
    rcases Classical.em (sp_bad y 2) with hb2 | hb2
    · have h := sd_world h (ws' := ([]) ++ ([]) ++ (sd_M k3 q mo)) (by simp only [List.append_assoc, List.nil_append, List.append_nil])
      refine sd_calli h (va_runS (As := [.int y, .int 0, .int 1]) (rest := [.ref (q 0)]) C (k_M_notT l D k3 H.size y 0 1 ((sp_k2 _).mpr hb2)) (sd_cwS 3 C.2.2.2.2 tb_576 tb_577 tb_24 tb_578 rfl rfl (by decide +kernel) ⟨Nat.le_of_ble_eq_true rfl, Nat.le_of_ble_eq_true rfl⟩) (sd_preS h) rfl rfl hl.1 rfl (lv_room (Nat.le_of_ble_eq_true rfl)) d_M_numbers_13 ⟨Nat.le_of_ble_eq_true rfl, Nat.le_of_ble_eq_true rfl⟩) (fun r w1 H locs hq h => ?_)
      obtain ⟨rfl, rfl⟩ := hq
      have h := sd_world h (ws' := sd_M k3 q mo) (by simp only [List.append_assoc, List.nil_append, List.append_nil])
      refine lv_if_eq (tgt := 23) C.1 C.2.1 d_M_numbers_16 (by decide) (fun c16 => ?_) (fun c16 => ?_)
      · exact absurd c16 (by decide)
      · refine lv_iconst (v := 1) C.1 C.2.1 d_M_numbers_19 (by decide) ?_
        refine lv_goto (tgt := 24) C.1 C.2.1 d_M_numbers_20 (by decide) ?_
        refine sd_put C h 0 0 (v := .int 1) (ci := 3) (Cn := "StockDeskModel") (T := T_M) (N := 19) (ty0 := ty_M) (ws' := sd_Mx k3 q 1 (mf_ac mo) (mf_aa mo) (mf_md mo) (mf_th mo) (mf_us mo) (mf_pk mo) (mf_pb mo) (mf_pf mo) (mf_wt mo) (mf_pw mo) (mf_fl mo) (mf_tw mo) (mf_tp mo) (mf_tn mo) (mf_an mo) (mf_co mo) (mf_s1 mo) (mf_s2 mo)) rfl rfl (by decide) in_M tyok_M nm_M tb_510 rfl rfl rfl rfl (Nat.le_of_ble_eq_true rfl) rfl d_M_numbers_24 (fun H locs h => ?_)
        refine lv_aload_n C.1 C.2.1 d_M_numbers_27 rfl (lv_at hl 0 rfl) ?_
        refine sd_get C h 0 0 (v := .int 1) (ci := 3) (Cn := "StockDeskModel") (T := T_M) (N := 19) rfl rfl (by decide) in_M tb_510 rfl d_M_numbers_28 ?_
        refine lv_if_eq (tgt := 38) C.1 C.2.1 d_M_numbers_31 (by decide) (fun c31 => ?_) (fun c31 => ?_)
        · exact absurd c31 (by decide)
        · refine lv_iconst (v := 0) C.1 C.2.1 d_M_numbers_34 (by decide) ?_
          refine lv_goto (tgt := 56) C.1 C.2.1 d_M_numbers_35 (by decide) ?_
          have h := sd_world h (ws' := sd_M k3 q (mm_tc mo 1)) (by simp only [sd_M, mm_tc, mm_make, mm_drop, mm_kind, mm_answer, mm_way, mm_tell, mm_work, mm_byte, mm_keep, mm_dec, mm_fresh, hd_m, mf_tc, mf_ac, mf_aa, mf_md, mf_th, mf_us, mf_pk, mf_pb, mf_pf, mf_wt, mf_pw, mf_fl, mf_tw, mf_tp, mf_tn, mf_an, mf_co, mf_s1, mf_s2])
          exact sd_iret (v := 0) C hr hlk h (sm_px (sd_M k3 q) (mo := mm_tc mo 1) (c := 1) (o := o) ((if_neg hb).trans (if_pos hb2)) (by decide) (sm_tc _ hm) rfl (by decide +kernel)) d_M_numbers_56
    have h := sd_world h (ws' := ([]) ++ ([]) ++ (sd_M k3 q mo)) (by simp only [List.append_assoc, List.nil_append, List.append_nil])
    refine sd_calli h (va_runS (As := [.int y, .int 0, .int 1]) (rest := [.ref (q 0)]) C (k_M_notF l D k3 H.size y 0 1 (fun z => hb2 ((sp_k2 _).mp z))) (sd_cwS 3 C.2.2.2.2 tb_576 tb_577 tb_24 tb_578 rfl rfl (by decide +kernel) ⟨Nat.le_of_ble_eq_true rfl, Nat.le_of_ble_eq_true rfl⟩) (sd_preS h) rfl rfl hl.1 rfl (lv_room (Nat.le_of_ble_eq_true rfl)) d_M_numbers_13 ⟨Nat.le_of_ble_eq_true rfl, Nat.le_of_ble_eq_true rfl⟩) (fun r w1 H locs hq h => ?_)
    obtain ⟨rfl, rfl⟩ := hq
    have h := sd_world h (ws' := sd_M k3 q mo) (by simp only [List.append_assoc, List.nil_append, List.append_nil])
    refine lv_if_eq (tgt := 23) C.1 C.2.1 d_M_numbers_16 (by decide) (fun c16 => ?_) (fun c16 => ?_)
    · refine lv_iconst (v := 0) C.1 C.2.1 d_M_numbers_23 (by decide) ?_
      refine sd_put C h 0 0 (v := .int 0) (ci := 3) (Cn := "StockDeskModel") (T := T_M) (N := 19) (ty0 := ty_M) (ws' := sd_Mx k3 q 0 (mf_ac mo) (mf_aa mo) (mf_md mo) (mf_th mo) (mf_us mo) (mf_pk mo) (mf_pb mo) (mf_pf mo) (mf_wt mo) (mf_pw mo) (mf_fl mo) (mf_tw mo) (mf_tp mo) (mf_tn mo) (mf_an mo) (mf_co mo) (mf_s1 mo) (mf_s2 mo)) rfl rfl (by decide) in_M tyok_M nm_M tb_510 rfl rfl rfl rfl (Nat.le_of_ble_eq_true rfl) rfl d_M_numbers_24 (fun H locs h => ?_)
      refine lv_aload_n C.1 C.2.1 d_M_numbers_27 rfl (lv_at hl 0 rfl) ?_
      refine sd_get C h 0 0 (v := .int 0) (ci := 3) (Cn := "StockDeskModel") (T := T_M) (N := 19) rfl rfl (by decide) in_M tb_510 rfl d_M_numbers_28 ?_
      refine lv_if_eq (tgt := 38) C.1 C.2.1 d_M_numbers_31 (by decide) (fun c31 => ?_) (fun c31 => ?_)
      · refine lv_iload_n C.1 C.2.1 d_M_numbers_38 rfl (lv_at hl 2 rfl) ?_
        refine lv_if_ne (tgt := 51) C.1 C.2.1 d_M_numbers_39 (by decide) (fun c39 => ?_) (fun c39 => ?_)
        · refine lv_aload_n C.1 C.2.1 d_M_numbers_51 rfl (lv_at hl 0 rfl) ?_
          refine lv_iload_n C.1 C.2.1 d_M_numbers_52 rfl (lv_at hl 1 rfl) ?_
          have h := sd_world h (ws' := sd_M k3 q (mm_tc mo 0)) (by simp only [sd_M, mm_tc, mm_make, mm_drop, mm_kind, mm_answer, mm_way, mm_tell, mm_work, mm_byte, mm_keep, mm_dec, mm_fresh, hd_m, mf_tc, mf_ac, mf_aa, mf_md, mf_th, mf_us, mf_pk, mf_pb, mf_pf, mf_wt, mf_pw, mf_fl, mf_tw, mf_tp, mf_tn, mf_an, mf_co, mf_s1, mf_s2])
          have h := sd_world h (ws' := ([]) ++ (sd_M k3 q (mm_tc mo 0)) ++ ([])) (by simp only [List.append_assoc, List.nil_append, List.append_nil])
          refine sd_calli h (va_runV (As := [.int (nI k)]) (rest := []) C (k_M_thingsOf l D k3 H.size q (mm_tc mo 0) k hk) (sd_cwV 1 C.2.2.2.2 tb_655 tb_657 tb_19 tb_24 tb_658 rfl rfl (by decide +kernel) ⟨Nat.le_of_ble_eq_true rfl, Nat.le_of_ble_eq_true rfl⟩) (sd_preV h (q0 := 0) (T := T_M) (N := 19) rfl rfl) rfl rfl hl.1 rfl (lv_room (Nat.le_of_ble_eq_true rfl)) d_M_numbers_53 ⟨Nat.le_of_ble_eq_true rfl, Nat.le_of_ble_eq_true rfl⟩) (fun r w1 H locs hq h => ?_)
          obtain ⟨rfl, rfl⟩ := hq
          have h := sd_world h (ws' := sd_M k3 q (mm_tc mo 0)) (by simp only [List.append_assoc, List.nil_append, List.append_nil])
          exact sd_iret (v := nI (hd_cnt10 (mf_th (mm_tc mo 0)) k 9)) C hr hlk h (sm_pr (sd_M k3 q) (mo := mm_tc mo 0) (v := (nI (hd_cnt (hf_th (sS_u o)) k (sp_mn o k))).toInt64) (o := o) (((if_neg hb).trans ((if_neg hb2).trans (if_neg c39))).trans (by rw [nI_clamp (show k < 2 ^ 31 by omega)])) (sm_tc _ hm) rfl (by decide +kernel) (fun e9 => by rw [e9]; show nI (hd_cnt10 (mf_th (mm_tc mo 0)) k 9) = ((nI (hd_cnt (hf_th (sS_u o)) k (sp_mn o k))).toInt64).toInt32; rw [sd_back32, sm_cnt (sm_tc 0 hm) ho hk])) d_M_numbers_56
        · refine lv_aload_n C.1 C.2.1 d_M_numbers_42 rfl (lv_at hl 0 rfl) ?_
          refine sd_get C h 0 3 (v := .ref (q 2)) (ci := 3) (Cn := "StockDeskModel") (T := T_M) (N := 19) rfl rfl (by decide) in_M tb_513 rfl d_M_numbers_43 ?_
          refine lv_iload_n C.1 C.2.1 d_M_numbers_46 rfl (lv_at hl 1 rfl) ?_
          refine sd_iald C h 2 0 (i := k) rfl rfl (by omega) (by decide) d_M_numbers_47 ?_
          refine lv_goto (tgt := 56) C.1 C.2.1 d_M_numbers_48 (by decide) ?_
          have h := sd_world h (ws' := sd_M k3 q (mm_tc mo 0)) (by simp only [sd_M, mm_tc, mm_make, mm_drop, mm_kind, mm_answer, mm_way, mm_tell, mm_work, mm_byte, mm_keep, mm_dec, mm_fresh, hd_m, mf_tc, mf_ac, mf_aa, mf_md, mf_th, mf_us, mf_pk, mf_pb, mf_pf, mf_wt, mf_pw, mf_fl, mf_tw, mf_tp, mf_tn, mf_an, mf_co, mf_s1, mf_s2])
          exact sd_iret (v := (mf_md mo) k) C hr hlk h (sm_pr (sd_M k3 q) (mo := mm_tc mo 0) (v := (hf_md (sS_u o) k).toInt64) (o := o) (((if_neg hb).trans ((if_neg hb2).trans (if_pos c39))).trans (by rw [nI_clamp (show k < 2 ^ 31 by omega)])) (sm_tc _ hm) rfl (by decide +kernel) (fun e9 => by rw [e9]; show mf_md mo k = ((hf_md (sS_u o) k).toInt64).toInt32; rw [sd_back32, hm.2.2.md k hk])) d_M_numbers_56
      · exact absurd c31 (by decide)
    · exact absurd c16 (by decide)

set_option maxHeartbeats 4000000 in
set_option maxRecDepth 100000 in
theorem k_M_count (l : Launch) (D : va_G) (k3 : ClassId × ClassId × ClassId) (sz : Nat) (q : Nat → Nat) (mo : sd_MS) (o : sd_S) (x : Int32) (ho : sS_ok o) (hm : sm_all mo o) : Met l y_M_count (sd_ws y_M_count c_M_count 4 (some FieldType.int)) ({ frames := 1, cells := 0, slots := 0, locals := 23 }) (sd_Pc D (sd_t3 k3) [.ref (q 0), .int x] sz (sd_M k3 q mo)) (sd_Qi D (sd_t3 k3) (va_A (sd_M k3 q mo) sz) (fun r w => r = sp_count o x ∧ ∃ m9, w = sd_M k3 q m9 ∧ sm_all m9 o)) 0 0 (va_A (sd_M k3 q mo) sz) := by
  refine sd_met (cc := c_M_count) (maxL := 4) (ret := some .int) (by decide) (Nat.le_of_ble_eq_true rfl) (fun p e s m below meth c C hr hlk hnm hsz h ls hl => ?_)
  generalize va_A (sd_M k3 q mo) sz = A at h ⊢
  have hl : lv_has ls 4 [(0, .ref (q 0)), (1, .int x)] := hl
  generalize hH : s.heap = H at h ⊢
  refine lv_aload_n C.1 C.2.1 d_M_count_0 rfl (lv_at hl 0 rfl) ?_
  refine lv_iconst (v := 0) C.1 C.2.1 d_M_count_1 (by decide) ?_
  refine sd_put C h 0 0 (v := .int 0) (ci := 3) (Cn := "StockDeskModel") (T := T_M) (N := 19) (ty0 := ty_M) (ws' := sd_Mx k3 q 0 (mf_ac mo) (mf_aa mo) (mf_md mo) (mf_th mo) (mf_us mo) (mf_pk mo) (mf_pb mo) (mf_pf mo) (mf_wt mo) (mf_pw mo) (mf_fl mo) (mf_tw mo) (mf_tp mo) (mf_tn mo) (mf_an mo) (mf_co mo) (mf_s1 mo) (mf_s2 mo)) rfl rfl (by decide) in_M tyok_M nm_M tb_510 rfl rfl rfl rfl (Nat.le_of_ble_eq_true rfl) rfl d_M_count_2 (fun H locs h => ?_)
  have h := sd_world h (ws' := sd_M k3 q (mm_tc mo 0)) (by simp only [sd_M, mm_tc, mm_make, mm_drop, mm_kind, mm_answer, mm_way, mm_tell, mm_work, mm_byte, mm_keep, mm_dec, mm_fresh, hd_m, mf_tc, mf_ac, mf_aa, mf_md, mf_th, mf_us, mf_pk, mf_pb, mf_pf, mf_wt, mf_pw, mf_fl, mf_tw, mf_tp, mf_tn, mf_an, mf_co, mf_s1, mf_s2])
  refine lv_iconst (v := 0) C.1 C.2.1 d_M_count_5 (by decide) ?_
  refine lv_istore_n (lv' := [(2, .int 0), (0, .ref (q 0)), (1, .int x)]) C.1 C.2.1 d_M_count_6 rfl hl (by decide) rfl (fun ls hl => ?_)
  refine lv_iconst (v := 0) C.1 C.2.1 d_M_count_7 (by decide) ?_
  refine lv_istore_n (lv' := [(3, .int 0), (2, .int 0), (0, .ref (q 0)), (1, .int x)]) C.1 C.2.1 d_M_count_8 rfl hl (by decide) rfl (fun ls hl => ?_)
  have loop : ∀ (d i : Nat), i + d = 5 → ∀ (H : Heap) (locs : List Loc) (ls : Array Slot), sd_w D A s (sd_t3 k3) (sd_M k3 q (mm_tc mo 0)) H locs → lv_has ls 4 [(0, .ref (q 0)), (1, .int x), (2, .int (nI (hd_all10 (mf_th (mm_tc mo 0)) i))), (3, .int (nI i))] → W p l e ({ frames := 1, cells := 0, slots := 0, locals := 23 }) s m [.ref (q 0), .int x].toArray below meth c H locs 0 0 (MQ below (sd_Qi D (sd_t3 k3) (A) (fun r w => r = sp_count o x ∧ ∃ m9, w = sd_M k3 q m9 ∧ sm_all m9 o)) [.ref (q 0), .int x].toArray s 0 0 A) (F0 m 9 ls []) := by
    intro d
    induction d with
    | zero =>
      intro i hi H locs ls h hl
      have hi : 5 = i := by omega
      subst hi
      refine lv_iload_n C.1 C.2.1 d_M_count_9 rfl (lv_at hl 3 rfl) ?_
      refine lv_iconst (v := 5) C.1 C.2.1 d_M_count_10 (by decide) ?_
      refine lv_icmp_ge (tgt := 28) C.1 C.2.1 d_M_count_11 (by decide) (fun c11 => ?_) (fun c11 => ?_)
      · refine lv_iload_n C.1 C.2.1 d_M_count_28 rfl (lv_at hl 1 rfl) ?_
        refine lv_if_ne (tgt := 39) C.1 C.2.1 d_M_count_29 (by decide) (fun c29 => ?_) (fun c29 => ?_)
        · refine lv_iload_n C.1 C.2.1 d_M_count_39 rfl (lv_at hl 1 rfl) ?_
          refine lv_iconst (v := 1) C.1 C.2.1 d_M_count_40 (by decide) ?_
          refine lv_icmp_ne (tgt := 48) C.1 C.2.1 d_M_count_41 (by decide) (fun c41 => ?_) (fun c41 => ?_)
          · refine lv_iload_n C.1 C.2.1 d_M_count_48 rfl (lv_at hl 1 rfl) ?_
            refine lv_iconst (v := 2) C.1 C.2.1 d_M_count_49 (by decide) ?_
            refine lv_icmp_ne (tgt := 60) C.1 C.2.1 d_M_count_50 (by decide) (fun c50 => ?_) (fun c50 => ?_)
            · refine lv_iload_n C.1 C.2.1 d_M_count_60 rfl (lv_at hl 1 rfl) ?_
              refine lv_iconst (v := 3) C.1 C.2.1 d_M_count_61 (by decide) ?_
              refine lv_icmp_ne (tgt := 72) C.1 C.2.1 d_M_count_62 (by decide) (fun c62 => ?_) (fun c62 => ?_)
              · refine lv_iconst (v := -1) C.1 C.2.1 d_M_count_72 (by decide) ?_
                exact sd_iret (v := (-1)) C hr hlk h ⟨(rfl).trans (((if_neg c29).trans ((if_neg c41).trans ((if_neg c50).trans (if_neg c62))))).symm, mm_tc mo 0, rfl, sm_tc _ hm⟩ d_M_count_73
              · refine lv_aload_n C.1 C.2.1 d_M_count_65 rfl (lv_at hl 0 rfl) ?_
                refine sd_get C h 0 15 (v := .int (mf_an (mm_tc mo 0))) (ci := 3) (Cn := "StockDeskModel") (T := T_M) (N := 19) rfl rfl (by decide) in_M tb_525 rfl d_M_count_66 ?_
                refine lv_goto (tgt := 73) C.1 C.2.1 d_M_count_69 (by decide) ?_
                exact sd_iret (v := mf_an (mm_tc mo 0)) C hr hlk h ⟨(hm.2.2.an).trans (((if_neg c29).trans ((if_neg c41).trans ((if_neg c50).trans (if_pos c62))))).symm, mm_tc mo 0, rfl, sm_tc _ hm⟩ d_M_count_73
            · refine lv_aload_n C.1 C.2.1 d_M_count_53 rfl (lv_at hl 0 rfl) ?_
              refine sd_get C h 0 16 (v := .int (mf_co (mm_tc mo 0))) (ci := 3) (Cn := "StockDeskModel") (T := T_M) (N := 19) rfl rfl (by decide) in_M tb_526 rfl d_M_count_54 ?_
              refine lv_goto (tgt := 73) C.1 C.2.1 d_M_count_57 (by decide) ?_
              exact sd_iret (v := mf_co (mm_tc mo 0)) C hr hlk h ⟨(hm.2.2.co).trans (((if_neg c29).trans ((if_neg c41).trans (if_pos c50)))).symm, mm_tc mo 0, rfl, sm_tc _ hm⟩ d_M_count_73
          · refine lv_iload_n C.1 C.2.1 d_M_count_44 rfl (lv_at hl 2 rfl) ?_
            refine lv_goto (tgt := 73) C.1 C.2.1 d_M_count_45 (by decide) ?_
            exact sd_iret (v := nI (hd_all10 (mf_th (mm_tc mo 0)) 5)) C hr hlk h ⟨(congrArg nI (sm_allc (sm_tc 0 hm) ho 5 (Nat.le_refl 5))).trans (((if_neg c29).trans (if_pos c41))).symm, mm_tc mo 0, rfl, sm_tc _ hm⟩ d_M_count_73
        · refine lv_aload_n C.1 C.2.1 d_M_count_32 rfl (lv_at hl 0 rfl) ?_
          refine sd_get C h 0 1 (v := .int (mf_ac (mm_tc mo 0))) (ci := 3) (Cn := "StockDeskModel") (T := T_M) (N := 19) rfl rfl (by decide) in_M tb_511 rfl d_M_count_33 ?_
          refine lv_goto (tgt := 73) C.1 C.2.1 d_M_count_36 (by decide) ?_
          exact sd_iret (v := mf_ac (mm_tc mo 0)) C hr hlk h ⟨(hm.1).trans ((if_pos c29)).symm, mm_tc mo 0, rfl, sm_tc _ hm⟩ d_M_count_73
      · exact absurd (nI_le (a := 5) (b := 5) (by omega) (by decide)) c11
    | succ d ih =>
      intro i hi H locs ls h hl
      refine lv_iload_n C.1 C.2.1 d_M_count_9 rfl (lv_at hl 3 rfl) ?_
      refine lv_iconst (v := 5) C.1 C.2.1 d_M_count_10 (by decide) ?_
      refine lv_icmp_ge (tgt := 28) C.1 C.2.1 d_M_count_11 (by decide) (fun c11 => ?_) (fun c11 => ?_)
      · exact absurd c11 (nI_ge (a := i) (b := 5) (by omega) (by decide))
      · refine lv_iload_n C.1 C.2.1 d_M_count_14 rfl (lv_at hl 2 rfl) ?_
        refine lv_aload_n C.1 C.2.1 d_M_count_15 rfl (lv_at hl 0 rfl) ?_
        refine lv_iload_n C.1 C.2.1 d_M_count_16 rfl (lv_at hl 3 rfl) ?_
        have h := sd_world h (ws' := ([]) ++ (sd_M k3 q (mm_tc mo 0)) ++ ([])) (by simp only [List.append_assoc, List.nil_append, List.append_nil])
        refine sd_calli h (va_runV (As := [.int (nI i)]) (rest := [.int (nI (hd_all10 (mf_th (mm_tc mo 0)) i))]) C (k_M_thingsOf l D k3 H.size q (mm_tc mo 0) i (by omega : i < 5)) (sd_cwV 1 C.2.2.2.2 tb_655 tb_657 tb_19 tb_24 tb_658 rfl rfl (by decide +kernel) ⟨Nat.le_of_ble_eq_true rfl, Nat.le_of_ble_eq_true rfl⟩) (sd_preV h (q0 := 0) (T := T_M) (N := 19) rfl rfl) rfl rfl hl.1 rfl (lv_room (Nat.le_of_ble_eq_true rfl)) d_M_count_17 ⟨Nat.le_of_ble_eq_true rfl, Nat.le_of_ble_eq_true rfl⟩) (fun r w1 H locs hq h => ?_)
        obtain ⟨rfl, rfl⟩ := hq
        have h := sd_world h (ws' := sd_M k3 q (mm_tc mo 0)) (by simp only [List.append_assoc, List.nil_append, List.append_nil])
        refine lv_iadd C.1 C.2.1 d_M_count_20 ?_
        refine sd_top (v := .int ((nI (hd_all10 (mf_th (mm_tc mo 0)) i)) + (nI (hd_cnt10 (mf_th (mm_tc mo 0)) i 9)))) (v' := .int (nI (hd_all10 (mf_th (mm_tc mo 0)) i + hd_cnt10 (mf_th (mm_tc mo 0)) i 9))) (congrArg Value.int (nI_add _ _)) ?_
        refine lv_istore_n (lv' := [(2, .int (nI (hd_all10 (mf_th (mm_tc mo 0)) i + hd_cnt10 (mf_th (mm_tc mo 0)) i 9))), (0, .ref (q 0)), (1, .int x), (3, .int (nI i))]) C.1 C.2.1 d_M_count_21 rfl hl (by decide) rfl (fun ls hl => ?_)
        refine lv_iinc (v := nI (i + 1)) (lv' := [(3, .int (nI (i + 1))), (2, .int (nI (hd_all10 (mf_th (mm_tc mo 0)) i + hd_cnt10 (mf_th (mm_tc mo 0)) i 9))), (0, .ref (q 0)), (1, .int x)]) C.1 C.2.1 d_M_count_22 hl (k := 3) rfl (nI_1 i) (by decide) rfl (fun ls hl => ?_)
        refine lv_goto (tgt := 9) C.1 C.2.1 d_M_count_25 (by decide) ?_
        exact ih (i + 1) (by omega) _ _ _ h (lv_sub hl [2, 3, 1, 0] rfl)
  exact loop (5 - 0) 0 (by omega) _ _ _ h (lv_sub hl [2, 3, 1, 0] rfl)

set_option maxHeartbeats 4000000 in
set_option maxRecDepth 100000 in
theorem k_M_back (l : Launch) (D : va_G) (k3 : ClassId × ClassId × ClassId) (sz : Nat) (q : Nat → Nat) (mo : sd_MS) (o : sd_S) (ho : sS_ok o) (hm : sm_all mo o) : Met l y_M_back (sd_ws y_M_back c_M_back 2 (some FieldType.int)) ({ frames := 2, cells := 0, slots := 0, locals := 48 }) (sd_Pc D (sd_t3 k3) [.ref (q 0)] sz (sd_M k3 q mo)) (sd_Qi D (sd_t3 k3) (va_A (sd_M k3 q mo) sz) (fun r w => ∃ m9, w = sd_M k3 q m9 ∧ sm_all m9 (sp_back o).2.2 ∧ mf_tc m9 = sp_cd [xIS] (sp_back o).1 ∧ ((sp_back o).1 = "" → r = (sp_back o).2.1.toInt32))) 0 0 (va_A (sd_M k3 q mo) sz) := by
  refine sd_met (cc := c_M_back) (maxL := 2) (ret := some .int) (by decide) (Nat.le_of_ble_eq_true rfl) (fun p e s m below meth c C hr hlk hnm hsz h ls hl => ?_)
  generalize va_A (sd_M k3 q mo) sz = A at h ⊢
  have hl : lv_has ls 2 [(0, .ref (q 0))] := hl
  generalize hH : s.heap = H at h ⊢
  refine lv_aload_n C.1 C.2.1 d_M_back_0 rfl (lv_at hl 0 rfl) ?_
  refine lv_aload_n C.1 C.2.1 d_M_back_1 rfl (lv_at hl 0 rfl) ?_
  refine sd_get C h 0 1 (v := .int (mf_ac mo)) (ci := 3) (Cn := "StockDeskModel") (T := T_M) (N := 19) rfl rfl (by decide) in_M tb_511 rfl d_M_back_2 ?_
  refine lv_if_ne (tgt := 12) C.1 C.2.1 d_M_back_5 (by decide) (fun c5 => ?_) (fun c5 => ?_)
  · have h0 : ¬ o.1 = 0 := fun z => c5 (hm.1.trans (by rw [z]; rfl))
    obtain ⟨nn, hnn⟩ : ∃ nn, o.1 = nn + 1 := ⟨o.1 - 1, by omega⟩
    have ho1 := ho.1
    refine lv_iconst (v := 0) C.1 C.2.1 d_M_back_12 (by decide) ?_
    refine sd_put C h 0 0 (v := .int 0) (ci := 3) (Cn := "StockDeskModel") (T := T_M) (N := 19) (ty0 := ty_M) (ws' := sd_Mx k3 q 0 (mf_ac mo) (mf_aa mo) (mf_md mo) (mf_th mo) (mf_us mo) (mf_pk mo) (mf_pb mo) (mf_pf mo) (mf_wt mo) (mf_pw mo) (mf_fl mo) (mf_tw mo) (mf_tp mo) (mf_tn mo) (mf_an mo) (mf_co mo) (mf_s1 mo) (mf_s2 mo)) rfl rfl (by decide) in_M tyok_M nm_M tb_510 rfl rfl rfl rfl (Nat.le_of_ble_eq_true rfl) rfl d_M_back_13 (fun H locs h => ?_)
    refine lv_aload_n C.1 C.2.1 d_M_back_16 rfl (lv_at hl 0 rfl) ?_
    refine sd_get C h 0 0 (v := .int 0) (ci := 3) (Cn := "StockDeskModel") (T := T_M) (N := 19) rfl rfl (by decide) in_M tb_510 rfl d_M_back_17 ?_
    refine lv_if_eq (tgt := 25) C.1 C.2.1 d_M_back_20 (by decide) (fun c20 => ?_) (fun c20 => ?_)
    · refine lv_aload_n C.1 C.2.1 d_M_back_25 rfl (lv_at hl 0 rfl) ?_
      refine lv_dup C.1 C.2.1 d_M_back_26 rfl ?_
      refine sd_get C h 0 1 (v := .int (mf_ac mo)) (ci := 3) (Cn := "StockDeskModel") (T := T_M) (N := 19) rfl rfl (by decide) in_M tb_511 rfl d_M_back_27 ?_
      refine lv_iconst (v := 1) C.1 C.2.1 d_M_back_30 (by decide) ?_
      refine lv_isub C.1 C.2.1 d_M_back_31 ?_
      refine sd_top (v := .int ((mf_ac mo) - 1)) (v' := .int (nI nn)) (congrArg Value.int (by show (mf_ac mo) - 1 = nI nn; rw [hm.1, hnn]; exact nI_pred nn)) ?_
      refine sd_put C h 0 1 (v := .int (nI nn)) (ci := 3) (Cn := "StockDeskModel") (T := T_M) (N := 19) (ty0 := ty_M) (ws' := sd_Mx k3 q 0 (nI nn) (mf_aa mo) (mf_md mo) (mf_th mo) (mf_us mo) (mf_pk mo) (mf_pb mo) (mf_pf mo) (mf_wt mo) (mf_pw mo) (mf_fl mo) (mf_tw mo) (mf_tp mo) (mf_tn mo) (mf_an mo) (mf_co mo) (mf_s1 mo) (mf_s2 mo)) rfl rfl (by decide) in_M tyok_M nm_M tb_511 rfl rfl rfl rfl (Nat.le_of_ble_eq_true rfl) rfl d_M_back_32 (fun H locs h => ?_)
      refine lv_aload_n C.1 C.2.1 d_M_back_35 rfl (lv_at hl 0 rfl) ?_
      have h := sd_world h (ws' := sd_M k3 q (mm_dec mo nn)) (by simp only [sd_M, mm_tc, mm_make, mm_drop, mm_kind, mm_answer, mm_way, mm_tell, mm_work, mm_byte, mm_keep, mm_dec, mm_fresh, hd_m, mf_tc, mf_ac, mf_aa, mf_md, mf_th, mf_us, mf_pk, mf_pb, mf_pf, mf_wt, mf_pw, mf_fl, mf_tw, mf_tp, mf_tn, mf_an, mf_co, mf_s1, mf_s2])
      have h := sd_world h (ws' := ([]) ++ (sd_M k3 q (mm_dec mo nn)) ++ ([])) (by simp only [List.append_assoc, List.nil_append, List.append_nil])
      refine sd_callv h (va_runV (As := []) (rest := []) C (k_M_fresh l D k3 H.size q (mm_dec mo nn) ) (sd_cwV 0 C.2.2.2.2 tb_506 tb_508 tb_13 tb_24 tb_509 rfl rfl (by decide +kernel) ⟨Nat.le_of_ble_eq_true rfl, Nat.le_of_ble_eq_true rfl⟩) (sd_preV h (q0 := 0) (T := T_M) (N := 19) rfl rfl) rfl rfl hl.1 rfl (lv_room (Nat.le_of_ble_eq_true rfl)) d_M_back_36 ⟨Nat.le_of_ble_eq_true rfl, Nat.le_of_ble_eq_true rfl⟩) (fun w1 H locs hq h => ?_)
      obtain rfl := hq
      have h := sd_world h (ws' := sd_M k3 q (mm_fresh (mm_dec mo nn))) (by simp only [List.append_assoc, List.nil_append, List.append_nil])
      refine lv_iconst (v := 0) C.1 C.2.1 d_M_back_39 (by decide) ?_
      refine lv_istore_n (lv' := [(1, .int 0), (0, .ref (q 0))]) C.1 C.2.1 d_M_back_40 rfl hl (by decide) rfl (fun ls hl => ?_)
      have loop : ∀ (d i : Nat), i + d = nn → ∀ (H : Heap) (locs : List Loc) (ls : Array Slot), sd_w D A s (sd_t3 k3) (sd_M k3 q (mm_run (mm_fresh (mm_dec mo nn)) (mf_aa mo) i)) H locs → lv_has ls 2 [(0, .ref (q 0)), (1, .int (nI i))] → W p l e ({ frames := 2, cells := 0, slots := 0, locals := 48 }) s m [.ref (q 0)].toArray below meth c H locs 0 0 (MQ below (sd_Qi D (sd_t3 k3) (A) (fun r w => ∃ m9, w = sd_M k3 q m9 ∧ sm_all m9 (sp_back o).2.2 ∧ mf_tc m9 = sp_cd [xIS] (sp_back o).1 ∧ ((sp_back o).1 = "" → r = (sp_back o).2.1.toInt32))) [.ref (q 0)].toArray s 0 0 A) (F0 m 41 ls []) := by
        intro d
        induction d with
        | zero =>
          intro i hi H locs ls h hl
          have hi : nn = i := by omega
          subst hi
          refine lv_iload_n C.1 C.2.1 d_M_back_41 rfl (lv_at hl 1 rfl) ?_
          refine lv_aload_n C.1 C.2.1 d_M_back_42 rfl (lv_at hl 0 rfl) ?_
          refine sd_get C h 0 1 (v := .int (mf_ac (mm_run (mm_fresh (mm_dec mo nn)) (mf_aa mo) nn))) (ci := 3) (Cn := "StockDeskModel") (T := T_M) (N := 19) rfl rfl (by decide) in_M tb_511 rfl d_M_back_43 ?_
          refine sd_top (v := .int (mf_ac (mm_run (mm_fresh (mm_dec mo nn)) (mf_aa mo) nn))) (v' := .int (nI nn)) (congrArg Value.int ((mm_run_keeps (mm_fresh (mm_dec mo nn)) (mf_aa mo) nn).2.1)) ?_
          refine lv_icmp_ge (tgt := 97) C.1 C.2.1 d_M_back_46 (by decide) (fun c46 => ?_) (fun c46 => ?_)
          · refine lv_aload_n C.1 C.2.1 d_M_back_97 rfl (lv_at hl 0 rfl) ?_
            refine sd_get C h 0 1 (v := .int (mf_ac (mm_run (mm_fresh (mm_dec mo nn)) (mf_aa mo) nn))) (ci := 3) (Cn := "StockDeskModel") (T := T_M) (N := 19) rfl rfl (by decide) in_M tb_511 rfl d_M_back_98 ?_
            refine sd_top (v := .int (mf_ac (mm_run (mm_fresh (mm_dec mo nn)) (mf_aa mo) nn))) (v' := .int (nI nn)) (congrArg Value.int ((mm_run_keeps (mm_fresh (mm_dec mo nn)) (mf_aa mo) nn).2.1)) ?_
            exact sd_iret (v := nI nn) C hr hlk h (sm_pr (sd_M k3 q) (mo := mm_run (mm_fresh (mm_dec mo nn)) (mf_aa mo) nn) (v := (nI nn).toInt64) (o := (nn, o.2)) ((if_neg h0).trans (by simp only [sS_pop, hnn, Nat.add_sub_cancel])) ⟨(mm_run_keeps (mm_fresh (mm_dec mo nn)) (mf_aa mo) nn).2.1, fun j hj => by rw [(mm_run_keeps (mm_fresh (mm_dec mo nn)) (mf_aa mo) nn).2.2]; exact hm.2.1 j (show j < o.1 by have hj : j < nn := hj; omega), sm_run (sm_rel_0 _) ho hm.2.1 (show nn ≤ o.1 by omega)⟩ (mm_run_keeps (mm_fresh (mm_dec mo nn)) (mf_aa mo) nn).1 (by decide +kernel) (fun e9 => by rw [e9]; exact (sd_back32 _).symm)) d_M_back_101
          · exact absurd (nI_le (a := nn) (b := nn) (by omega) (by omega)) c46
        | succ d ih =>
          intro i hi H locs ls h hl
          refine lv_iload_n C.1 C.2.1 d_M_back_41 rfl (lv_at hl 1 rfl) ?_
          refine lv_aload_n C.1 C.2.1 d_M_back_42 rfl (lv_at hl 0 rfl) ?_
          refine sd_get C h 0 1 (v := .int (mf_ac (mm_run (mm_fresh (mm_dec mo nn)) (mf_aa mo) i))) (ci := 3) (Cn := "StockDeskModel") (T := T_M) (N := 19) rfl rfl (by decide) in_M tb_511 rfl d_M_back_43 ?_
          refine sd_top (v := .int (mf_ac (mm_run (mm_fresh (mm_dec mo nn)) (mf_aa mo) i))) (v' := .int (nI nn)) (congrArg Value.int ((mm_run_keeps (mm_fresh (mm_dec mo nn)) (mf_aa mo) i).2.1)) ?_
          refine lv_icmp_ge (tgt := 97) C.1 C.2.1 d_M_back_46 (by decide) (fun c46 => ?_) (fun c46 => ?_)
          · exact absurd c46 (nI_ge (a := i) (b := nn) (by omega) (by omega))
          · refine lv_aload_n C.1 C.2.1 d_M_back_49 rfl (lv_at hl 0 rfl) ?_
            refine lv_aload_n C.1 C.2.1 d_M_back_50 rfl (lv_at hl 0 rfl) ?_
            refine sd_get C h 0 2 (v := .ref (q 1)) (ci := 3) (Cn := "StockDeskModel") (T := T_M) (N := 19) rfl rfl (by decide) in_M tb_512 rfl d_M_back_51 ?_
            refine lv_iconst (v := 4) C.1 C.2.1 d_M_back_54 (by decide) ?_
            refine lv_iload_n C.1 C.2.1 d_M_back_55 rfl (lv_at hl 1 rfl) ?_
            refine lv_imul C.1 C.2.1 d_M_back_56 ?_
            refine sd_top (v := .int (4 * (nI i))) (v' := .int (nI (4 * i))) (congrArg Value.int (sm_i4 i)) ?_
            refine sd_iald C h 1 0 (i := (4 * i)) rfl rfl (by omega) (by decide) d_M_back_57 ?_
            refine sd_top (v := .int ((mf_aa (mm_run (mm_fresh (mm_dec mo nn)) (mf_aa mo) i)) (4 * i))) (v' := .int (mf_aa mo (4 * i))) (congrArg Value.int (congrFun (mm_run_keeps (mm_fresh (mm_dec mo nn)) (mf_aa mo) i).2.2 _)) ?_
            refine lv_aload_n C.1 C.2.1 d_M_back_58 rfl (lv_at hl 0 rfl) ?_
            refine sd_get C h 0 2 (v := .ref (q 1)) (ci := 3) (Cn := "StockDeskModel") (T := T_M) (N := 19) rfl rfl (by decide) in_M tb_512 rfl d_M_back_59 ?_
            refine lv_iconst (v := 4) C.1 C.2.1 d_M_back_62 (by decide) ?_
            refine lv_iload_n C.1 C.2.1 d_M_back_63 rfl (lv_at hl 1 rfl) ?_
            refine lv_imul C.1 C.2.1 d_M_back_64 ?_
            refine lv_iconst (v := 1) C.1 C.2.1 d_M_back_65 (by decide) ?_
            refine lv_iadd C.1 C.2.1 d_M_back_66 ?_
            refine sd_top (v := .int ((4 * (nI i)) + 1)) (v' := .int (nI (4 * i + 1))) (congrArg Value.int (sm_i41 i)) ?_
            refine sd_iald C h 1 0 (i := (4 * i + 1)) rfl rfl (by omega) (by decide) d_M_back_67 ?_
            refine sd_top (v := .int ((mf_aa (mm_run (mm_fresh (mm_dec mo nn)) (mf_aa mo) i)) (4 * i + 1))) (v' := .int (mf_aa mo (4 * i + 1))) (congrArg Value.int (congrFun (mm_run_keeps (mm_fresh (mm_dec mo nn)) (mf_aa mo) i).2.2 _)) ?_
            refine lv_aload_n C.1 C.2.1 d_M_back_68 rfl (lv_at hl 0 rfl) ?_
            refine sd_get C h 0 2 (v := .ref (q 1)) (ci := 3) (Cn := "StockDeskModel") (T := T_M) (N := 19) rfl rfl (by decide) in_M tb_512 rfl d_M_back_69 ?_
            refine lv_iconst (v := 4) C.1 C.2.1 d_M_back_72 (by decide) ?_
            refine lv_iload_n C.1 C.2.1 d_M_back_73 rfl (lv_at hl 1 rfl) ?_
            refine lv_imul C.1 C.2.1 d_M_back_74 ?_
            refine lv_iconst (v := 2) C.1 C.2.1 d_M_back_75 (by decide) ?_
            refine lv_iadd C.1 C.2.1 d_M_back_76 ?_
            refine sd_top (v := .int ((4 * (nI i)) + 2)) (v' := .int (nI (4 * i + 2))) (congrArg Value.int (sm_i42 i)) ?_
            refine sd_iald C h 1 0 (i := (4 * i + 2)) rfl rfl (by omega) (by decide) d_M_back_77 ?_
            refine sd_top (v := .int ((mf_aa (mm_run (mm_fresh (mm_dec mo nn)) (mf_aa mo) i)) (4 * i + 2))) (v' := .int (mf_aa mo (4 * i + 2))) (congrArg Value.int (congrFun (mm_run_keeps (mm_fresh (mm_dec mo nn)) (mf_aa mo) i).2.2 _)) ?_
            refine lv_aload_n C.1 C.2.1 d_M_back_78 rfl (lv_at hl 0 rfl) ?_
            refine sd_get C h 0 2 (v := .ref (q 1)) (ci := 3) (Cn := "StockDeskModel") (T := T_M) (N := 19) rfl rfl (by decide) in_M tb_512 rfl d_M_back_79 ?_
            refine lv_iconst (v := 4) C.1 C.2.1 d_M_back_82 (by decide) ?_
            refine lv_iload_n C.1 C.2.1 d_M_back_83 rfl (lv_at hl 1 rfl) ?_
            refine lv_imul C.1 C.2.1 d_M_back_84 ?_
            refine lv_iconst (v := 3) C.1 C.2.1 d_M_back_85 (by decide) ?_
            refine lv_iadd C.1 C.2.1 d_M_back_86 ?_
            refine sd_top (v := .int ((4 * (nI i)) + 3)) (v' := .int (nI (4 * i + 3))) (congrArg Value.int (sm_i43 i)) ?_
            refine sd_iald C h 1 0 (i := (4 * i + 3)) rfl rfl (by omega) (by decide) d_M_back_87 ?_
            refine sd_top (v := .int ((mf_aa (mm_run (mm_fresh (mm_dec mo nn)) (mf_aa mo) i)) (4 * i + 3))) (v' := .int (mf_aa mo (4 * i + 3))) (congrArg Value.int (congrFun (mm_run_keeps (mm_fresh (mm_dec mo nn)) (mf_aa mo) i).2.2 _)) ?_
            have h := sd_world h (ws' := ([]) ++ (sd_M k3 q (mm_run (mm_fresh (mm_dec mo nn)) (mf_aa mo) i)) ++ ([])) (by simp only [List.append_assoc, List.nil_append, List.append_nil])
            refine sd_callv h (va_runV (As := [.int (mf_aa mo (4 * i)), .int (mf_aa mo (4 * i + 1)), .int (mf_aa mo (4 * i + 2)), .int (mf_aa mo (4 * i + 3))]) (rest := []) C (k_M_does l D k3 H.size q (mm_run (mm_fresh (mm_dec mo nn)) (mf_aa mo) i) (sd_run o.2.1 o.2.2.1 o.2.2.2.1 o.2.2.2.2 i) (mf_aa mo (4 * i)) (mf_aa mo (4 * i + 1)) (mf_aa mo (4 * i + 2)) (mf_aa mo (4 * i + 3)) (sm_run (sm_rel_0 _) ho hm.2.1 (show i ≤ o.1 by omega)) (by obtain ⟨g0, g1, g2, g3⟩ := hm.2.1 i (by omega); rw [g0, g1, g2]; exact ho.2 i (by omega))) (sd_cwV 4 C.2.2.2.2 tb_583 tb_585 tb_15 tb_24 tb_586 rfl rfl (by decide +kernel) ⟨Nat.le_of_ble_eq_true rfl, Nat.le_of_ble_eq_true rfl⟩) (sd_preV h (q0 := 0) (T := T_M) (N := 19) rfl rfl) rfl rfl hl.1 rfl (lv_room (Nat.le_of_ble_eq_true rfl)) d_M_back_88 ⟨Nat.le_of_ble_eq_true rfl, Nat.le_of_ble_eq_true rfl⟩) (fun w1 H locs hq h => ?_)
            obtain rfl := hq
            have h := sd_world h (ws' := sd_M k3 q (mm_do (mm_run (mm_fresh (mm_dec mo nn)) (mf_aa mo) i) (mf_aa mo (4 * i)) (mf_aa mo (4 * i + 1)) (mf_aa mo (4 * i + 2)) (mf_aa mo (4 * i + 3)))) (by simp only [List.append_assoc, List.nil_append, List.append_nil])
            refine lv_iinc (v := nI (i + 1)) (lv' := [(1, .int (nI (i + 1))), (0, .ref (q 0))]) C.1 C.2.1 d_M_back_91 hl (k := 1) rfl (nI_1 i) (by decide) rfl (fun ls hl => ?_)
            refine lv_goto (tgt := 41) C.1 C.2.1 d_M_back_94 (by decide) ?_
            exact ih (i + 1) (by omega) _ _ _ h (lv_sub hl [1, 0] rfl)
      exact loop (nn - 0) 0 (by omega) _ _ _ h (lv_sub hl [1, 0] rfl)
    · exact absurd c20 (by decide)
  · have h0 : o.1 = 0 := sd_inj (by have := ho.1; omega) (by decide) (hm.1.symm.trans c5)
    refine lv_iconst (v := 1) C.1 C.2.1 d_M_back_8 (by decide) ?_
    refine lv_goto (tgt := 13) C.1 C.2.1 d_M_back_9 (by decide) ?_
    refine sd_put C h 0 0 (v := .int 1) (ci := 3) (Cn := "StockDeskModel") (T := T_M) (N := 19) (ty0 := ty_M) (ws' := sd_Mx k3 q 1 (mf_ac mo) (mf_aa mo) (mf_md mo) (mf_th mo) (mf_us mo) (mf_pk mo) (mf_pb mo) (mf_pf mo) (mf_wt mo) (mf_pw mo) (mf_fl mo) (mf_tw mo) (mf_tp mo) (mf_tn mo) (mf_an mo) (mf_co mo) (mf_s1 mo) (mf_s2 mo)) rfl rfl (by decide) in_M tyok_M nm_M tb_510 rfl rfl rfl rfl (Nat.le_of_ble_eq_true rfl) rfl d_M_back_13 (fun H locs h => ?_)
    refine lv_aload_n C.1 C.2.1 d_M_back_16 rfl (lv_at hl 0 rfl) ?_
    refine sd_get C h 0 0 (v := .int 1) (ci := 3) (Cn := "StockDeskModel") (T := T_M) (N := 19) rfl rfl (by decide) in_M tb_510 rfl d_M_back_17 ?_
    refine lv_if_eq (tgt := 25) C.1 C.2.1 d_M_back_20 (by decide) (fun c20 => ?_) (fun c20 => ?_)
    · exact absurd c20 (by decide)
    · refine lv_iconst (v := 0) C.1 C.2.1 d_M_back_23 (by decide) ?_
      have h := sd_world h (ws' := sd_M k3 q (mm_tc mo 1)) (by simp only [sd_M, mm_tc, mm_make, mm_drop, mm_kind, mm_answer, mm_way, mm_tell, mm_work, mm_byte, mm_keep, mm_dec, mm_fresh, hd_m, mf_tc, mf_ac, mf_aa, mf_md, mf_th, mf_us, mf_pk, mf_pb, mf_pf, mf_wt, mf_pw, mf_fl, mf_tw, mf_tp, mf_tn, mf_an, mf_co, mf_s1, mf_s2])
      exact sd_iret (v := 0) C hr hlk h (sm_px (sd_M k3 q) (mo := mm_tc mo 1) (c := 1) (o := o) (if_pos h0) (by decide) (sm_tc _ hm) rfl (by decide +kernel)) d_M_back_24
