set_option maxHeartbeats 4000000 in
set_option maxRecDepth 100000 in
theorem k_A_size (l : Launch) (D : va_G) (k3 : ClassId × ClassId × ClassId) (sz : Nat) (q : Nat → Nat) (n : Int32) (f0 : Nat → Int32) (f1 : Nat → Int32) (f2 : Nat → Int32) (f3 : Nat → Int32) : Met l y_A_size (sd_ws y_A_size c_A_size 1 (some FieldType.int)) ({ frames := 0, cells := 0, slots := 0, locals := 0 }) (sd_Pc D (sd_t3 k3) [.ref (q 0)] sz (sd_A k3 q n f0 f1 f2 f3)) (sd_Qi D (sd_t3 k3) (va_A (sd_A k3 q n f0 f1 f2 f3) sz) (fun r w => r = n ∧ w = sd_A k3 q n f0 f1 f2 f3)) 0 0 (va_A (sd_A k3 q n f0 f1 f2 f3) sz) := by
  refine sd_met (cc := c_A_size) (maxL := 1) (ret := some .int) (by decide) (Nat.le_of_ble_eq_true rfl) (fun p e s m below meth c C hr hlk hnm hsz h ls hl => ?_)
  generalize va_A (sd_A k3 q n f0 f1 f2 f3) sz = A at h ⊢
  have hl : lv_has ls 1 [(0, .ref (q 0))] := hl
  generalize hH : s.heap = H at h ⊢
  refine lv_aload_n C.1 C.2.1 d_A_size_0 rfl (lv_at hl 0 rfl) ?_
  refine sd_get C h 0 4 (v := .int n) (ci := 0) (Cn := "StockDesk$ActRow") (T := T_A) (N := 5) rfl rfl (by decide) in_A tb_50 rfl d_A_size_1 ?_
  exact sd_iret (v := n) C hr hlk h ⟨rfl, rfl⟩ d_A_size_4

set_option maxHeartbeats 4000000 in
set_option maxRecDepth 100000 in
theorem k_A_keep (l : Launch) (D : va_G) (k3 : ClassId × ClassId × ClassId) (sz : Nat) (q : Nat → Nat) (nn : Nat) (f0 : Nat → Int32) (f1 : Nat → Int32) (f2 : Nat → Int32) (f3 : Nat → Int32) (a : Int32) (x : Int32) (y : Int32) (z : Int32) (hi : nn < 60) : Met l y_A_keep (sd_ws y_A_keep c_A_keep 5 none) ({ frames := 0, cells := 0, slots := 0, locals := 0 }) (sd_Pc D (sd_t3 k3) [.ref (q 0), .int a, .int x, .int y, .int z] sz (sd_A k3 q (nI nn) f0 f1 f2 f3)) (sd_Qv D (sd_t3 k3) (va_A (sd_A k3 q (nI nn) f0 f1 f2 f3) sz) (fun w => w = sd_A k3 q (nI (nn + 1)) (upd f0 nn a) (upd f1 nn x) (upd f2 nn y) (upd f3 nn z))) 0 0 (va_A (sd_A k3 q (nI nn) f0 f1 f2 f3) sz) := by
  refine sd_met (cc := c_A_keep) (maxL := 5) (ret := none) (by decide) (Nat.le_of_ble_eq_true rfl) (fun p e s m below meth c C hr hlk hnm hsz h ls hl => ?_)
  generalize va_A (sd_A k3 q (nI nn) f0 f1 f2 f3) sz = A at h ⊢
  have hl : lv_has ls 5 [(0, .ref (q 0)), (1, .int a), (2, .int x), (3, .int y), (4, .int z)] := hl
  generalize hH : s.heap = H at h ⊢
  refine lv_aload_n C.1 C.2.1 d_A_keep_0 rfl (lv_at hl 0 rfl) ?_
  refine sd_get C h 0 4 (v := .int (nI nn)) (ci := 0) (Cn := "StockDesk$ActRow") (T := T_A) (N := 5) rfl rfl (by decide) in_A tb_50 rfl d_A_keep_1 ?_
  refine lv_bipush (v := 60) C.1 C.2.1 d_A_keep_4 (by decide) ?_
  refine lv_icmp_lt (tgt := 10) C.1 C.2.1 d_A_keep_6 (by decide) (fun c6 => ?_) (fun c6 => ?_)
  · refine lv_aload_n C.1 C.2.1 d_A_keep_10 rfl (lv_at hl 0 rfl) ?_
    refine sd_get C h 0 0 (v := .ref (q 1)) (ci := 0) (Cn := "StockDesk$ActRow") (T := T_A) (N := 5) rfl rfl (by decide) in_A tb_46 rfl d_A_keep_11 ?_
    refine lv_aload_n C.1 C.2.1 d_A_keep_14 rfl (lv_at hl 0 rfl) ?_
    refine sd_get C h 0 4 (v := .int (nI nn)) (ci := 0) (Cn := "StockDesk$ActRow") (T := T_A) (N := 5) rfl rfl (by decide) in_A tb_50 rfl d_A_keep_15 ?_
    refine lv_iload_n C.1 C.2.1 d_A_keep_18 rfl (lv_at hl 1 rfl) ?_
    refine sd_iast C h 1 0 (i := nn) (ws' := sd_A k3 q (nI nn) (upd f0 nn a) f1 f2 f3) rfl rfl (by omega) (by decide) rfl d_A_keep_19 (fun H locs h => ?_)
    refine lv_aload_n C.1 C.2.1 d_A_keep_20 rfl (lv_at hl 0 rfl) ?_
    refine sd_get C h 0 1 (v := .ref (q 2)) (ci := 0) (Cn := "StockDesk$ActRow") (T := T_A) (N := 5) rfl rfl (by decide) in_A tb_47 rfl d_A_keep_21 ?_
    refine lv_aload_n C.1 C.2.1 d_A_keep_24 rfl (lv_at hl 0 rfl) ?_
    refine sd_get C h 0 4 (v := .int (nI nn)) (ci := 0) (Cn := "StockDesk$ActRow") (T := T_A) (N := 5) rfl rfl (by decide) in_A tb_50 rfl d_A_keep_25 ?_
    refine lv_iload_n C.1 C.2.1 d_A_keep_28 rfl (lv_at hl 2 rfl) ?_
    refine sd_iast C h 2 0 (i := nn) (ws' := sd_A k3 q (nI nn) (upd f0 nn a) (upd f1 nn x) f2 f3) rfl rfl (by omega) (by decide) rfl d_A_keep_29 (fun H locs h => ?_)
    refine lv_aload_n C.1 C.2.1 d_A_keep_30 rfl (lv_at hl 0 rfl) ?_
    refine sd_get C h 0 2 (v := .ref (q 3)) (ci := 0) (Cn := "StockDesk$ActRow") (T := T_A) (N := 5) rfl rfl (by decide) in_A tb_48 rfl d_A_keep_31 ?_
    refine lv_aload_n C.1 C.2.1 d_A_keep_34 rfl (lv_at hl 0 rfl) ?_
    refine sd_get C h 0 4 (v := .int (nI nn)) (ci := 0) (Cn := "StockDesk$ActRow") (T := T_A) (N := 5) rfl rfl (by decide) in_A tb_50 rfl d_A_keep_35 ?_
    refine lv_iload_n C.1 C.2.1 d_A_keep_38 rfl (lv_at hl 3 rfl) ?_
    refine sd_iast C h 3 0 (i := nn) (ws' := sd_A k3 q (nI nn) (upd f0 nn a) (upd f1 nn x) (upd f2 nn y) f3) rfl rfl (by omega) (by decide) rfl d_A_keep_39 (fun H locs h => ?_)
    refine lv_aload_n C.1 C.2.1 d_A_keep_40 rfl (lv_at hl 0 rfl) ?_
    refine sd_get C h 0 3 (v := .ref (q 4)) (ci := 0) (Cn := "StockDesk$ActRow") (T := T_A) (N := 5) rfl rfl (by decide) in_A tb_49 rfl d_A_keep_41 ?_
    refine lv_aload_n C.1 C.2.1 d_A_keep_44 rfl (lv_at hl 0 rfl) ?_
    refine sd_get C h 0 4 (v := .int (nI nn)) (ci := 0) (Cn := "StockDesk$ActRow") (T := T_A) (N := 5) rfl rfl (by decide) in_A tb_50 rfl d_A_keep_45 ?_
    refine lv_iload C.1 C.2.1 d_A_keep_48 (lv_at hl 4 rfl) ?_
    refine sd_iast C h 4 0 (i := nn) (ws' := sd_A k3 q (nI nn) (upd f0 nn a) (upd f1 nn x) (upd f2 nn y) (upd f3 nn z)) rfl rfl (by omega) (by decide) rfl d_A_keep_50 (fun H locs h => ?_)
    refine lv_aload_n C.1 C.2.1 d_A_keep_51 rfl (lv_at hl 0 rfl) ?_
    refine lv_dup C.1 C.2.1 d_A_keep_52 rfl ?_
    refine sd_get C h 0 4 (v := .int (nI nn)) (ci := 0) (Cn := "StockDesk$ActRow") (T := T_A) (N := 5) rfl rfl (by decide) in_A tb_50 rfl d_A_keep_53 ?_
    refine lv_iconst (v := 1) C.1 C.2.1 d_A_keep_56 (by decide) ?_
    refine lv_iadd C.1 C.2.1 d_A_keep_57 ?_
    refine sd_top (v := .int ((nI nn) + 1)) (v' := .int (nI (nn + 1))) (congrArg Value.int (nI_1 nn)) ?_
    refine sd_put C h 0 4 (v := .int (nI (nn + 1))) (ci := 0) (Cn := "StockDesk$ActRow") (T := T_A) (N := 5) (ty0 := ty_A) (ws' := sd_A k3 q (nI (nn + 1)) (upd f0 nn a) (upd f1 nn x) (upd f2 nn y) (upd f3 nn z)) rfl rfl (by decide) in_A tyok_A nm_A tb_50 rfl rfl rfl rfl (Nat.le_of_ble_eq_true rfl) rfl d_A_keep_58 (fun H locs h => ?_)
    exact sd_vret C hr hlk h rfl d_A_keep_61
  · exact absurd (nI_lt (a := nn) (b := 60) (by omega) (by decide)) c6

set_option maxHeartbeats 4000000 in
set_option maxRecDepth 100000 in
theorem k_A_removeLatest (l : Launch) (D : va_G) (k3 : ClassId × ClassId × ClassId) (sz : Nat) (q : Nat → Nat) (nn : Nat) (f0 : Nat → Int32) (f1 : Nat → Int32) (f2 : Nat → Int32) (f3 : Nat → Int32) (hi : nn < 60) : Met l y_A_removeLatest (sd_ws y_A_removeLatest c_A_removeLatest 1 none) ({ frames := 0, cells := 0, slots := 0, locals := 0 }) (sd_Pc D (sd_t3 k3) [.ref (q 0)] sz (sd_A k3 q (nI (nn + 1)) f0 f1 f2 f3)) (sd_Qv D (sd_t3 k3) (va_A (sd_A k3 q (nI (nn + 1)) f0 f1 f2 f3) sz) (fun w => w = sd_A k3 q (nI nn) f0 f1 f2 f3)) 0 0 (va_A (sd_A k3 q (nI (nn + 1)) f0 f1 f2 f3) sz) := by
  refine sd_met (cc := c_A_removeLatest) (maxL := 1) (ret := none) (by decide) (Nat.le_of_ble_eq_true rfl) (fun p e s m below meth c C hr hlk hnm hsz h ls hl => ?_)
  generalize va_A (sd_A k3 q (nI (nn + 1)) f0 f1 f2 f3) sz = A at h ⊢
  have hl : lv_has ls 1 [(0, .ref (q 0))] := hl
  generalize hH : s.heap = H at h ⊢
  refine lv_aload_n C.1 C.2.1 d_A_removeLatest_0 rfl (lv_at hl 0 rfl) ?_
  refine sd_get C h 0 4 (v := .int (nI (nn + 1))) (ci := 0) (Cn := "StockDesk$ActRow") (T := T_A) (N := 5) rfl rfl (by decide) in_A tb_50 rfl d_A_removeLatest_1 ?_
  refine lv_if_le (tgt := 17) C.1 C.2.1 d_A_removeLatest_4 (by decide) (fun c4 => ?_) (fun c4 => ?_)
  · exact absurd c4 (nI_nle (by omega) (by omega))
  · refine lv_aload_n C.1 C.2.1 d_A_removeLatest_7 rfl (lv_at hl 0 rfl) ?_
    refine lv_dup C.1 C.2.1 d_A_removeLatest_8 rfl ?_
    refine sd_get C h 0 4 (v := .int (nI (nn + 1))) (ci := 0) (Cn := "StockDesk$ActRow") (T := T_A) (N := 5) rfl rfl (by decide) in_A tb_50 rfl d_A_removeLatest_9 ?_
    refine lv_iconst (v := 1) C.1 C.2.1 d_A_removeLatest_12 (by decide) ?_
    refine lv_isub C.1 C.2.1 d_A_removeLatest_13 ?_
    refine sd_top (v := .int ((nI (nn + 1)) - 1)) (v' := .int (nI nn)) (congrArg Value.int (nI_pred nn)) ?_
    refine sd_put C h 0 4 (v := .int (nI nn)) (ci := 0) (Cn := "StockDesk$ActRow") (T := T_A) (N := 5) (ty0 := ty_A) (ws' := sd_A k3 q (nI nn) f0 f1 f2 f3) rfl rfl (by decide) in_A tyok_A nm_A tb_50 rfl rfl rfl rfl (Nat.le_of_ble_eq_true rfl) rfl d_A_removeLatest_14 (fun H locs h => ?_)
    exact sd_vret C hr hlk h rfl d_A_removeLatest_17

set_option maxHeartbeats 4000000 in
set_option maxRecDepth 100000 in
theorem k_A_doAllOn (l : Launch) (D : va_G) (k3 : ClassId × ClassId × ClassId) (sz : Nat) (q : Nat → Nat) (nn : Nat) (f0 : Nat → Int32) (f1 : Nat → Int32) (f2 : Nat → Int32) (f3 : Nat → Int32) (qh : Nat → Nat) (u : sd_HS) (hi : nn ≤ 60) (hok : ∀ j, j < nn → sd_ok (sd_run f0 f1 f2 f3 j) (f0 j) (f1 j) (f2 j)) : Met l y_A_doAllOn (sd_ws y_A_doAllOn c_A_doAllOn 3 none) ({ frames := 3, cells := 0, slots := 0, locals := 72 }) (sd_Pc D (sd_t3 k3) [.ref (q 0), .ref (qh 0)] sz (sd_A k3 q (nI nn) f0 f1 f2 f3 ++ sd_H k3 qh u)) (sd_Qv D (sd_t3 k3) (va_A (sd_A k3 q (nI nn) f0 f1 f2 f3 ++ sd_H k3 qh u) sz) (fun w => w = sd_A k3 q (nI nn) f0 f1 f2 f3 ++ sd_H k3 qh (sd_run f0 f1 f2 f3 nn))) 0 0 (va_A (sd_A k3 q (nI nn) f0 f1 f2 f3 ++ sd_H k3 qh u) sz) := by
  refine sd_met (cc := c_A_doAllOn) (maxL := 3) (ret := none) (by decide) (Nat.le_of_ble_eq_true rfl) (fun p e s m below meth c C hr hlk hnm hsz h ls hl => ?_)
  generalize va_A (sd_A k3 q (nI nn) f0 f1 f2 f3 ++ sd_H k3 qh u) sz = A at h ⊢
  have hl : lv_has ls 3 [(0, .ref (q 0)), (1, .ref (qh 0))] := hl
  generalize hH : s.heap = H at h ⊢
  refine lv_aload_n C.1 C.2.1 d_A_doAllOn_0 rfl (lv_at hl 1 rfl) ?_
  have h := sd_world h (ws' := (sd_A k3 q (nI nn) f0 f1 f2 f3) ++ (sd_H k3 qh u) ++ ([])) (by simp only [List.append_assoc, List.nil_append, List.append_nil])
  refine sd_callv h (va_runV (As := []) (rest := []) C (k_H_clear l D k3 H.size qh u ) (sd_cwV 0 C.2.2.2.2 tb_439 tb_70 tb_71 tb_23 tb_72 rfl rfl (by decide +kernel) ⟨Nat.le_of_ble_eq_true rfl, Nat.le_of_ble_eq_true rfl⟩) (sd_preV h (q0 := 5) (T := T_H) (N := 16) rfl rfl) rfl rfl hl.1 rfl (lv_room (Nat.le_of_ble_eq_true rfl)) d_A_doAllOn_1 ⟨Nat.le_of_ble_eq_true rfl, Nat.le_of_ble_eq_true rfl⟩) (fun w1 H locs hq h => ?_)
  obtain rfl := hq
  have h := sd_world h (ws' := sd_A k3 q (nI nn) f0 f1 f2 f3 ++ sd_H k3 qh sd_h0) (by simp only [List.append_assoc, List.nil_append, List.append_nil])
  refine lv_iconst (v := 0) C.1 C.2.1 d_A_doAllOn_4 (by decide) ?_
  refine lv_istore_n (lv' := [(2, .int 0), (0, .ref (q 0)), (1, .ref (qh 0))]) C.1 C.2.1 d_A_doAllOn_5 rfl hl (by decide) rfl (fun ls hl => ?_)
  have loop : ∀ (d i : Nat), i + d = nn → ∀ (H : Heap) (locs : List Loc) (ls : Array Slot), sd_w D A s (sd_t3 k3) (sd_A k3 q (nI nn) f0 f1 f2 f3 ++ sd_H k3 qh (sd_run f0 f1 f2 f3 i)) H locs → lv_has ls 3 [(0, .ref (q 0)), (1, .ref (qh 0)), (2, .int (nI i))] → W p l e ({ frames := 3, cells := 0, slots := 0, locals := 72 }) s m [.ref (q 0), .ref (qh 0)].toArray below meth c H locs 0 0 (MQ below (sd_Qv D (sd_t3 k3) (A) (fun w => w = sd_A k3 q (nI nn) f0 f1 f2 f3 ++ sd_H k3 qh (sd_run f0 f1 f2 f3 nn))) [.ref (q 0), .ref (qh 0)].toArray s 0 0 A) (F0 m 6 ls []) := by
    intro d
    induction d with
    | zero =>
      intro i hi H locs ls h hl
      have hi : nn = i := by omega
      subst hi
      refine lv_iload_n C.1 C.2.1 d_A_doAllOn_6 rfl (lv_at hl 2 rfl) ?_
      refine lv_aload_n C.1 C.2.1 d_A_doAllOn_7 rfl (lv_at hl 0 rfl) ?_
      refine sd_get C h 0 4 (v := .int (nI nn)) (ci := 0) (Cn := "StockDesk$ActRow") (T := T_A) (N := 5) rfl rfl (by decide) in_A tb_50 rfl d_A_doAllOn_8 ?_
      refine lv_icmp_ge (tgt := 49) C.1 C.2.1 d_A_doAllOn_11 (by decide) (fun c11 => ?_) (fun c11 => ?_)
      · exact sd_vret C hr hlk h rfl d_A_doAllOn_49
      · exact absurd (nI_le (a := nn) (b := nn) (by omega) (by omega)) c11
    | succ d ih =>
      intro i hi H locs ls h hl
      refine lv_iload_n C.1 C.2.1 d_A_doAllOn_6 rfl (lv_at hl 2 rfl) ?_
      refine lv_aload_n C.1 C.2.1 d_A_doAllOn_7 rfl (lv_at hl 0 rfl) ?_
      refine sd_get C h 0 4 (v := .int (nI nn)) (ci := 0) (Cn := "StockDesk$ActRow") (T := T_A) (N := 5) rfl rfl (by decide) in_A tb_50 rfl d_A_doAllOn_8 ?_
      refine lv_icmp_ge (tgt := 49) C.1 C.2.1 d_A_doAllOn_11 (by decide) (fun c11 => ?_) (fun c11 => ?_)
      · exact absurd c11 (nI_ge (a := i) (b := nn) (by omega) (by omega))
      · refine lv_aload_n C.1 C.2.1 d_A_doAllOn_14 rfl (lv_at hl 1 rfl) ?_
        refine lv_aload_n C.1 C.2.1 d_A_doAllOn_15 rfl (lv_at hl 0 rfl) ?_
        refine sd_get C h 0 0 (v := .ref (q 1)) (ci := 0) (Cn := "StockDesk$ActRow") (T := T_A) (N := 5) rfl rfl (by decide) in_A tb_46 rfl d_A_doAllOn_16 ?_
        refine lv_iload_n C.1 C.2.1 d_A_doAllOn_19 rfl (lv_at hl 2 rfl) ?_
        refine sd_iald C h 1 0 (i := i) rfl rfl (by omega) (by decide) d_A_doAllOn_20 ?_
        refine lv_aload_n C.1 C.2.1 d_A_doAllOn_21 rfl (lv_at hl 0 rfl) ?_
        refine sd_get C h 0 1 (v := .ref (q 2)) (ci := 0) (Cn := "StockDesk$ActRow") (T := T_A) (N := 5) rfl rfl (by decide) in_A tb_47 rfl d_A_doAllOn_22 ?_
        refine lv_iload_n C.1 C.2.1 d_A_doAllOn_25 rfl (lv_at hl 2 rfl) ?_
        refine sd_iald C h 2 0 (i := i) rfl rfl (by omega) (by decide) d_A_doAllOn_26 ?_
        refine lv_aload_n C.1 C.2.1 d_A_doAllOn_27 rfl (lv_at hl 0 rfl) ?_
        refine sd_get C h 0 2 (v := .ref (q 3)) (ci := 0) (Cn := "StockDesk$ActRow") (T := T_A) (N := 5) rfl rfl (by decide) in_A tb_48 rfl d_A_doAllOn_28 ?_
        refine lv_iload_n C.1 C.2.1 d_A_doAllOn_31 rfl (lv_at hl 2 rfl) ?_
        refine sd_iald C h 3 0 (i := i) rfl rfl (by omega) (by decide) d_A_doAllOn_32 ?_
        refine lv_aload_n C.1 C.2.1 d_A_doAllOn_33 rfl (lv_at hl 0 rfl) ?_
        refine sd_get C h 0 3 (v := .ref (q 4)) (ci := 0) (Cn := "StockDesk$ActRow") (T := T_A) (N := 5) rfl rfl (by decide) in_A tb_49 rfl d_A_doAllOn_34 ?_
        refine lv_iload_n C.1 C.2.1 d_A_doAllOn_37 rfl (lv_at hl 2 rfl) ?_
        refine sd_iald C h 4 0 (i := i) rfl rfl (by omega) (by decide) d_A_doAllOn_38 ?_
        have h := sd_world h (ws' := (sd_A k3 q (nI nn) f0 f1 f2 f3) ++ (sd_H k3 qh (sd_run f0 f1 f2 f3 i)) ++ ([])) (by simp only [List.append_assoc, List.nil_append, List.append_nil])
        refine sd_calll h (va_runV (As := [.int (f0 i), .int (f1 i), .int (f2 i), .int (f3 i)]) (rest := []) C (k_H_perform l D k3 H.size qh (sd_run f0 f1 f2 f3 i) (f0 i) (f1 i) (f2 i) (f3 i) (hok i (by omega))) (sd_cwV 4 C.2.2.2.2 tb_440 tb_294 tb_295 tb_23 tb_296 rfl rfl (by decide +kernel) ⟨Nat.le_of_ble_eq_true rfl, Nat.le_of_ble_eq_true rfl⟩) (sd_preV h (q0 := 5) (T := T_H) (N := 16) rfl rfl) rfl rfl hl.1 rfl (lv_room (Nat.le_of_ble_eq_true rfl)) d_A_doAllOn_39 ⟨Nat.le_of_ble_eq_true rfl, Nat.le_of_ble_eq_true rfl⟩) (fun r w1 H locs hq h => ?_)
        obtain ⟨rfl, rfl⟩ := hq
        have h := sd_world h (ws' := sd_A k3 q (nI nn) f0 f1 f2 f3 ++ sd_H k3 qh (sd_do (sd_run f0 f1 f2 f3 i) (f0 i) (f1 i) (f2 i) (f3 i))) (by simp only [List.append_assoc, List.nil_append, List.append_nil])
        refine lv_pop2_2 C.1 C.2.1 d_A_doAllOn_42 rfl ?_
        refine lv_iinc (v := nI (i + 1)) (lv' := [(2, .int (nI (i + 1))), (0, .ref (q 0)), (1, .ref (qh 0))]) C.1 C.2.1 d_A_doAllOn_43 hl (k := 2) rfl (nI_1 i) (by decide) rfl (fun ls hl => ?_)
        refine lv_goto (tgt := 6) C.1 C.2.1 d_A_doAllOn_46 (by decide) ?_
        exact ih (i + 1) (by omega) _ _ _ h (lv_sub hl [1, 2, 0] rfl)
  exact loop (nn - 0) 0 (by omega) _ _ _ h (lv_sub hl [1, 2, 0] rfl)

set_option maxHeartbeats 4000000 in
set_option maxRecDepth 100000 in
theorem k_A_init (l : Launch) (D : va_G) (k3 : ClassId × ClassId × ClassId) (sz : Nat) (h0 : Nat) : Met l y_A_init (sd_ws y_A_init c_A_init 1 none) ({ frames := 1, cells := 4, slots := 240, locals := 12 }) (sd_Pc D (sd_t3 k3) [.ref h0] sz ([(h0, .inr (0, [.null, .null, .null, .null, .int 0]))])) (sd_Qv D (sd_t3 k3) (va_A ([(h0, .inr (0, [.null, .null, .null, .null, .int 0]))]) sz) (fun w => ∃ q : Nat → Nat, q 0 = h0 ∧ w = sd_A k3 q 0 (fun _ => 0) (fun _ => 0) (fun _ => 0) (fun _ => 0))) 4 240 (va_A ([(h0, .inr (0, [.null, .null, .null, .null, .int 0]))]) sz) := by
  refine sd_met (cc := c_A_init) (maxL := 1) (ret := none) (by decide) (Nat.le_of_ble_eq_true rfl) (fun p e s m below meth c C hr hlk hnm hsz h ls hl => ?_)
  generalize va_A ([(h0, .inr (0, [.null, .null, .null, .null, .int 0]))]) sz = A at h ⊢
  have hl : lv_has ls 1 [(0, .ref h0)] := hl
  generalize hH : s.heap = H at h ⊢
  refine lv_aload_n C.1 C.2.1 d_A_init_0 rfl (lv_at hl 0 rfl) ?_
  refine W.objInit C.1 C.2.1 C.2.2.2.1 (C.2.2.2.2 _ (List.mem_cons_of_mem _ tb_45)) (C.2.2.2.2 _ (List.mem_cons_of_mem _ tb_38)) (C.2.2.2.2 _ (List.mem_cons_of_mem _ tb_39)) rfl (by rw [C.2.2.1]; exact hl.1) rfl d_A_init_1 (Nat.le_of_ble_eq_true rfl) (Nat.le_of_ble_eq_true rfl) ?_
  refine W.eq (g2 := F0 m 4 ls []) rfl ?_
  refine lv_aload_n C.1 C.2.1 d_A_init_4 rfl (lv_at hl 0 rfl) ?_
  refine lv_bipush (v := 60) C.1 C.2.1 d_A_init_5 (by decide) ?_
  refine sd_newa C h 0 (ty := .int) (a0 := (60, .inl (fun _ => 0))) (N' := 60) rfl rfl (fun _ => rfl) tb_62 (fun _ => rfl) (by decide) (by decide) (by decide) (Nat.le_of_ble_eq_true rfl) (Nat.le_of_ble_eq_true rfl) d_A_init_7 (fun q7 H h => ?_)
  refine W.widen (k := 1) (n := 60) (by decide) (by decide) ?_
  refine sd_putF C h hnm 0 0 (v := .ref q7) (ci := 0) (Cn := "StockDesk$ActRow") (T := T_A) (N := 5) (ty0 := ty_A) (ws' := [(h0, .inr (0, [.ref q7, .null, .null, .null, .int 0]))] ++ [(q7, .inl (k3.1, 60, .inl (fun _ => 0)))]) rfl rfl (by decide) in_A tyok_A nm_A tb_46 rfl rfl rfl rfl rfl (Nat.le_of_ble_eq_true rfl) rfl d_A_init_9 (fun H locs h => ?_)
  refine lv_aload_n C.1 C.2.1 d_A_init_12 rfl (lv_at hl 0 rfl) ?_
  refine lv_bipush (v := 60) C.1 C.2.1 d_A_init_13 (by decide) ?_
  refine sd_newa C h 0 (ty := .int) (a0 := (60, .inl (fun _ => 0))) (N' := 60) rfl rfl (fun _ => rfl) tb_62 (fun _ => rfl) (by decide) (by decide) (by decide) (Nat.le_of_ble_eq_true rfl) (Nat.le_of_ble_eq_true rfl) d_A_init_15 (fun q15 H h => ?_)
  refine W.widen (k := 2) (n := 120) (by decide) (by decide) ?_
  refine sd_putF C h hnm 0 1 (v := .ref q15) (ci := 0) (Cn := "StockDesk$ActRow") (T := T_A) (N := 5) (ty0 := ty_A) (ws' := [(h0, .inr (0, [.ref q7, .ref q15, .null, .null, .int 0]))] ++ [(q7, .inl (k3.1, 60, .inl (fun _ => 0)))] ++ [(q15, .inl (k3.1, 60, .inl (fun _ => 0)))]) rfl rfl (by decide) in_A tyok_A nm_A tb_47 rfl rfl rfl rfl rfl (Nat.le_of_ble_eq_true rfl) rfl d_A_init_17 (fun H locs h => ?_)
  refine lv_aload_n C.1 C.2.1 d_A_init_20 rfl (lv_at hl 0 rfl) ?_
  refine lv_bipush (v := 60) C.1 C.2.1 d_A_init_21 (by decide) ?_
  refine sd_newa C h 0 (ty := .int) (a0 := (60, .inl (fun _ => 0))) (N' := 60) rfl rfl (fun _ => rfl) tb_62 (fun _ => rfl) (by decide) (by decide) (by decide) (Nat.le_of_ble_eq_true rfl) (Nat.le_of_ble_eq_true rfl) d_A_init_23 (fun q23 H h => ?_)
  refine W.widen (k := 3) (n := 180) (by decide) (by decide) ?_
  refine sd_putF C h hnm 0 2 (v := .ref q23) (ci := 0) (Cn := "StockDesk$ActRow") (T := T_A) (N := 5) (ty0 := ty_A) (ws' := [(h0, .inr (0, [.ref q7, .ref q15, .ref q23, .null, .int 0]))] ++ [(q7, .inl (k3.1, 60, .inl (fun _ => 0)))] ++ [(q15, .inl (k3.1, 60, .inl (fun _ => 0)))] ++ [(q23, .inl (k3.1, 60, .inl (fun _ => 0)))]) rfl rfl (by decide) in_A tyok_A nm_A tb_48 rfl rfl rfl rfl rfl (Nat.le_of_ble_eq_true rfl) rfl d_A_init_25 (fun H locs h => ?_)
  refine lv_aload_n C.1 C.2.1 d_A_init_28 rfl (lv_at hl 0 rfl) ?_
  refine lv_bipush (v := 60) C.1 C.2.1 d_A_init_29 (by decide) ?_
  refine sd_newa C h 0 (ty := .int) (a0 := (60, .inl (fun _ => 0))) (N' := 60) rfl rfl (fun _ => rfl) tb_62 (fun _ => rfl) (by decide) (by decide) (by decide) (Nat.le_of_ble_eq_true rfl) (Nat.le_of_ble_eq_true rfl) d_A_init_31 (fun q31 H h => ?_)
  refine W.widen (k := 4) (n := 240) (by decide) (by decide) ?_
  refine sd_putF C h hnm 0 3 (v := .ref q31) (ci := 0) (Cn := "StockDesk$ActRow") (T := T_A) (N := 5) (ty0 := ty_A) (ws' := [(h0, .inr (0, [.ref q7, .ref q15, .ref q23, .ref q31, .int 0]))] ++ [(q7, .inl (k3.1, 60, .inl (fun _ => 0)))] ++ [(q15, .inl (k3.1, 60, .inl (fun _ => 0)))] ++ [(q23, .inl (k3.1, 60, .inl (fun _ => 0)))] ++ [(q31, .inl (k3.1, 60, .inl (fun _ => 0)))]) rfl rfl (by decide) in_A tyok_A nm_A tb_49 rfl rfl rfl rfl rfl (Nat.le_of_ble_eq_true rfl) rfl d_A_init_33 (fun H locs h => ?_)
  exact sd_vret C hr hlk h ⟨sd_q5 h0 q7 q15 q23 q31, rfl, rfl⟩ d_A_init_36
