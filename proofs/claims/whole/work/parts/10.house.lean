/-! what the acts do to a house -/
theorem sd_slot {k j : Nat} (hj : 1 ≤ j) : nI k * 9 + nI j - 1 = nI (k * 9 + j - 1) := by
  have h9 : (9 : Int32) = nI 9 := rfl
  have h1 : (1 : Int32) = nI 1 := rfl
  rw [h9, h1, pk_mul, nI_add, pk_sub (by omega)]
def hd_make (u : sd_HS) (k n : Nat) : sd_HS := (upd (hf_md u) k (hf_md u k + 1), upd (hf_th u) (k * 9 + (n + 1) - 1) 1, hf_us u, hf_pk u, hf_pb u, hf_pf u, hf_pw u, hf_wt u, hf_fl u, hf_tw u, hf_tp u, hf_tn u, hf_an u, hf_co u, hf_s1 u, hf_s2 u)
def hd_drop (u : sd_HS) (k j : Nat) : sd_HS := (hf_md u, upd (hf_th u) (k * 9 + j - 1) 0, hf_us u, hf_pk u, hf_pb u, hf_pf u, hf_pw u, hf_wt u, hf_fl u, hf_tw u, hf_tp u, hf_tn u, hf_an u, hf_co u, hf_s1 u, hf_s2 u)
def hd_kind (u : sd_HS) (p : Nat) (x : Int32) : sd_HS := (hf_md u, hf_th u, hf_us u, upd (hf_pk u) p x, hf_pb u, hf_pf u, hf_pw u, hf_wt u, hf_fl u, hf_tw u, hf_tp u, hf_tn u, hf_an u, hf_co u, hf_s1 u, hf_s2 u)
def hd_answer (u : sd_HS) (p : Nat) (b f : Int32) : sd_HS := (hf_md u, hf_th u, hf_us u, hf_pk u, upd (hf_pb u) p b, upd (hf_pf u) p f, hf_pw u, hf_wt u, hf_fl u, hf_tw u, hf_tp u, hf_tn u, hf_an u, hf_co u, hf_s1 u, hf_s2 u)
def hd_way (u : sd_HS) (p : Nat) (x : Int32) : sd_HS := (hf_md u, hf_th u, hf_us u, hf_pk u, hf_pb u, hf_pf u, upd (hf_pw u) p x, hf_wt u, hf_fl u, hf_tw u, hf_tp u, hf_tn u, hf_an u, hf_co u, hf_s1 u, hf_s2 u)
def hd_tell (u : sd_HS) (p : Nat) (y : Int32) : sd_HS := (hf_md u, hf_th u, hf_us u, hf_pk u, hf_pb u, hf_pf u, hf_pw u, hf_wt u, hf_fl u + 1, hf_pw u p, nI p, y, hf_an u, hf_co u, hf_s1 u, hf_s2 u)
def hd_work (u : sd_HS) (p k j : Nat) (a : Int32) : sd_HS := (hf_md u, hf_th u, upd (hf_us u) (k * 9 + j - 1) (hf_us u (k * 9 + j - 1) + 1), hf_pk u, hf_pb u, hf_pf u, hf_pw u, vp_updL (hf_wt u) p (hf_wt u p + a.toInt64), hf_fl u, hf_tw u, hf_tp u, hf_tn u, hf_an u + 1, hf_co u, hf_s1 u, hf_s2 u)
def hd_ans (u : sd_HS) (p : Nat) (y a : Int32) : Int64 := (hf_pb u p).toInt64 + (hf_pf u p).toInt64 * a.toInt64 + y.toInt64 + hf_wt u p
def hd_m (x : Int32) : Int32 := x - x / 65521 * 65521
def hd_byte (u : sd_HS) (b : Int32) : sd_HS := (hf_md u, hf_th u, hf_us u, hf_pk u, hf_pb u, hf_pf u, hf_pw u, hf_wt u, hf_fl u, hf_tw u, hf_tp u, hf_tn u, hf_an u, hf_co u + 1, hd_m (hf_s1 u + b), hd_m (hf_s2 u + hd_m (hf_s1 u + b)))
abbrev hd_has (u : sd_HS) (k : Nat) (y : Int32) : Prop := ¬ y < 1 ∧ ¬ (9 : Int32) < y ∧ ¬ hf_th u (k * 9 + y.toNatClampNeg - 1) = 0
/-- how many of the first n things of a kind are there -/
def hd_cnt (f : Nat → Int32) (k : Nat) : Nat → Nat
  | 0 => 0
  | n + 1 => hd_cnt f k n + (if f (k * 9 + (n + 1) - 1) = 0 then 0 else 1)
theorem hd_cnt_le (f : Nat → Int32) (k n : Nat) : hd_cnt f k n ≤ n := by
  induction n with
  | zero => exact Nat.le_refl 0
  | succ n ih => simp only [hd_cnt]; split <;> omega
theorem sd_rng {y : Int32} (h1 : ¬ y < 1) (h9 : ¬ (9 : Int32) < y) : ∃ j, 1 ≤ j ∧ j ≤ 9 ∧ y = nI j := by
  have h0 : ¬ y < 0 := fun h => h1 (by rw [Int32.lt_iff_toInt_lt] at h ⊢; have : (0 : Int32).toInt = 0 := rfl; have : (1 : Int32).toInt = 1 := rfl; omega)
  obtain ⟨j, hj, e⟩ := nI_of h0
  subst e
  refine ⟨j, ?_, ?_, rfl⟩
  · rcases Nat.lt_or_ge j 1 with h | h
    · exact absurd ((nI_ltI (a := j) (b := 1) hj (by decide)).mpr h) h1
    · exact h
  · rcases Nat.lt_or_ge 9 j with h | h
    · exact absurd ((nI_ltI (a := 9) (b := j) (by decide) hj).mpr h) h9
    · exact h
set_option maxHeartbeats 4000000 in
set_option maxRecDepth 100000 in
theorem k_H_slotOf (l : Launch) (D : va_G) (k3 : ClassId × ClassId × ClassId) (sz : Nat) (k : Nat) (j : Nat) (hj : 1 ≤ j) : Met l y_H_slotOf (sd_ws y_H_slotOf c_H_slotOf 2 (some FieldType.int)) ({ frames := 0, cells := 0, slots := 0, locals := 0 }) (sd_Pc D (sd_t3 k3) [.int (nI k), .int (nI j)] sz ([])) (sd_Qi D (sd_t3 k3) (va_A ([]) sz) (fun r w => r = nI (k * 9 + j - 1) ∧ w = [])) 0 0 (va_A ([]) sz) := by
  refine sd_met (cc := c_H_slotOf) (maxL := 2) (ret := some .int) (by decide) (Nat.le_of_ble_eq_true rfl) (fun p e s m below meth c C hr hlk hnm hsz h ls hl => ?_)
  generalize va_A ([]) sz = A at h ⊢
  have hl : lv_has ls 2 [(0, .int (nI k)), (1, .int (nI j))] := hl
  generalize hH : s.heap = H at h ⊢
  refine lv_iload_n C.1 C.2.1 d_H_slotOf_0 rfl (lv_at hl 0 rfl) ?_
  refine lv_bipush (v := 9) C.1 C.2.1 d_H_slotOf_1 (by decide) ?_
  refine lv_imul C.1 C.2.1 d_H_slotOf_3 ?_
  refine lv_iload_n C.1 C.2.1 d_H_slotOf_4 rfl (lv_at hl 1 rfl) ?_
  refine lv_iadd C.1 C.2.1 d_H_slotOf_5 ?_
  refine lv_iconst (v := 1) C.1 C.2.1 d_H_slotOf_6 (by decide) ?_
  refine lv_isub C.1 C.2.1 d_H_slotOf_7 ?_
  exact sd_iret (v := (((nI k) * 9) + (nI j)) - 1) C hr hlk h ⟨sd_slot hj, rfl⟩ d_H_slotOf_8

set_option maxHeartbeats 4000000 in
set_option maxRecDepth 100000 in
theorem k_H_kindOf (l : Launch) (D : va_G) (k3 : ClassId × ClassId × ClassId) (sz : Nat) (q : Nat → Nat) (u : sd_HS) (pt : Nat) (hp : pt < 6) : Met l y_H_kindOf (sd_ws y_H_kindOf c_H_kindOf 2 (some FieldType.int)) ({ frames := 0, cells := 0, slots := 0, locals := 0 }) (sd_Pc D (sd_t3 k3) [.ref (q 0), .int (nI pt)] sz (sd_H k3 q u)) (sd_Qi D (sd_t3 k3) (va_A (sd_H k3 q u) sz) (fun r w => r = hf_pk u pt ∧ w = sd_H k3 q u)) 0 0 (va_A (sd_H k3 q u) sz) := by
  refine sd_met (cc := c_H_kindOf) (maxL := 2) (ret := some .int) (by decide) (Nat.le_of_ble_eq_true rfl) (fun p e s m below meth c C hr hlk hnm hsz h ls hl => ?_)
  generalize va_A (sd_H k3 q u) sz = A at h ⊢
  have hl : lv_has ls 2 [(0, .ref (q 0)), (1, .int (nI pt))] := hl
  generalize hH : s.heap = H at h ⊢
  refine lv_aload_n C.1 C.2.1 d_H_kindOf_0 rfl (lv_at hl 0 rfl) ?_
  refine sd_get C h 0 3 (v := .ref (q 4)) (ci := 1) (Cn := "StockDesk$House") (T := T_H) (N := 16) rfl rfl (by decide) in_H tb_84 rfl d_H_kindOf_1 ?_
  refine lv_iload_n C.1 C.2.1 d_H_kindOf_4 rfl (lv_at hl 1 rfl) ?_
  refine sd_iald C h 4 0 (i := pt) rfl rfl (by omega) (by decide) d_H_kindOf_5 ?_
  exact sd_iret (v := (hf_pk u) pt) C hr hlk h ⟨rfl, rfl⟩ d_H_kindOf_6

set_option maxHeartbeats 4000000 in
set_option maxRecDepth 100000 in
theorem k_H_worthOf (l : Launch) (D : va_G) (k3 : ClassId × ClassId × ClassId) (sz : Nat) (q : Nat → Nat) (u : sd_HS) (pt : Nat) (hp : pt < 6) : Met l y_H_worthOf (sd_ws y_H_worthOf c_H_worthOf 2 (some FieldType.long)) ({ frames := 0, cells := 0, slots := 0, locals := 0 }) (sd_Pc D (sd_t3 k3) [.ref (q 0), .int (nI pt)] sz (sd_H k3 q u)) (sd_Ql D (sd_t3 k3) (va_A (sd_H k3 q u) sz) (fun r w => r = hf_wt u pt ∧ w = sd_H k3 q u)) 0 0 (va_A (sd_H k3 q u) sz) := by
  refine sd_met (cc := c_H_worthOf) (maxL := 2) (ret := some .long) (by decide) (Nat.le_of_ble_eq_true rfl) (fun p e s m below meth c C hr hlk hnm hsz h ls hl => ?_)
  generalize va_A (sd_H k3 q u) sz = A at h ⊢
  have hl : lv_has ls 2 [(0, .ref (q 0)), (1, .int (nI pt))] := hl
  generalize hH : s.heap = H at h ⊢
  refine lv_aload_n C.1 C.2.1 d_H_worthOf_0 rfl (lv_at hl 0 rfl) ?_
  refine sd_get C h 0 7 (v := .ref (q 8)) (ci := 1) (Cn := "StockDesk$House") (T := T_H) (N := 16) rfl rfl (by decide) in_H tb_88 rfl d_H_worthOf_1 ?_
  refine lv_iload_n C.1 C.2.1 d_H_worthOf_4 rfl (lv_at hl 1 rfl) ?_
  refine sd_lald C h 8 2 (i := pt) rfl rfl (by omega) (by decide) d_H_worthOf_5 ?_
  exact sd_lret (v := (hf_wt u) pt) C hr hlk h ⟨rfl, rfl⟩ d_H_worthOf_6

set_option maxHeartbeats 4000000 in
set_option maxRecDepth 100000 in
theorem k_H_madeOf (l : Launch) (D : va_G) (k3 : ClassId × ClassId × ClassId) (sz : Nat) (q : Nat → Nat) (u : sd_HS) (k : Nat) (hk : k < 5) : Met l y_H_madeOf (sd_ws y_H_madeOf c_H_madeOf 2 (some FieldType.int)) ({ frames := 0, cells := 0, slots := 0, locals := 0 }) (sd_Pc D (sd_t3 k3) [.ref (q 0), .int (nI k)] sz (sd_H k3 q u)) (sd_Qi D (sd_t3 k3) (va_A (sd_H k3 q u) sz) (fun r w => r = hf_md u k ∧ w = sd_H k3 q u)) 0 0 (va_A (sd_H k3 q u) sz) := by
  refine sd_met (cc := c_H_madeOf) (maxL := 2) (ret := some .int) (by decide) (Nat.le_of_ble_eq_true rfl) (fun p e s m below meth c C hr hlk hnm hsz h ls hl => ?_)
  generalize va_A (sd_H k3 q u) sz = A at h ⊢
  have hl : lv_has ls 2 [(0, .ref (q 0)), (1, .int (nI k))] := hl
  generalize hH : s.heap = H at h ⊢
  refine lv_aload_n C.1 C.2.1 d_H_madeOf_0 rfl (lv_at hl 0 rfl) ?_
  refine sd_get C h 0 0 (v := .ref (q 1)) (ci := 1) (Cn := "StockDesk$House") (T := T_H) (N := 16) rfl rfl (by decide) in_H tb_81 rfl d_H_madeOf_1 ?_
  refine lv_iload_n C.1 C.2.1 d_H_madeOf_4 rfl (lv_at hl 1 rfl) ?_
  refine sd_iald C h 1 0 (i := k) rfl rfl (by omega) (by decide) d_H_madeOf_5 ?_
  exact sd_iret (v := (hf_md u) k) C hr hlk h ⟨rfl, rfl⟩ d_H_madeOf_6

set_option maxHeartbeats 4000000 in
set_option maxRecDepth 100000 in
theorem k_H_usesOf (l : Launch) (D : va_G) (k3 : ClassId × ClassId × ClassId) (sz : Nat) (q : Nat → Nat) (u : sd_HS) (k : Nat) (j : Nat) (hk : k < 5) (h1 : 1 ≤ j) (h9 : j ≤ 9) : Met l y_H_usesOf (sd_ws y_H_usesOf c_H_usesOf 3 (some FieldType.int)) ({ frames := 1, cells := 0, slots := 0, locals := 21 }) (sd_Pc D (sd_t3 k3) [.ref (q 0), .int (nI k), .int (nI j)] sz (sd_H k3 q u)) (sd_Qi D (sd_t3 k3) (va_A (sd_H k3 q u) sz) (fun r w => r = hf_us u (k * 9 + j - 1) ∧ w = sd_H k3 q u)) 0 0 (va_A (sd_H k3 q u) sz) := by
  refine sd_met (cc := c_H_usesOf) (maxL := 3) (ret := some .int) (by decide) (Nat.le_of_ble_eq_true rfl) (fun p e s m below meth c C hr hlk hnm hsz h ls hl => ?_)
  generalize va_A (sd_H k3 q u) sz = A at h ⊢
  have hl : lv_has ls 3 [(0, .ref (q 0)), (1, .int (nI k)), (2, .int (nI j))] := hl
  generalize hH : s.heap = H at h ⊢
  refine lv_aload_n C.1 C.2.1 d_H_usesOf_0 rfl (lv_at hl 0 rfl) ?_
  refine sd_get C h 0 2 (v := .ref (q 3)) (ci := 1) (Cn := "StockDesk$House") (T := T_H) (N := 16) rfl rfl (by decide) in_H tb_83 rfl d_H_usesOf_1 ?_
  refine lv_iload_n C.1 C.2.1 d_H_usesOf_4 rfl (lv_at hl 1 rfl) ?_
  refine lv_iload_n C.1 C.2.1 d_H_usesOf_5 rfl (lv_at hl 2 rfl) ?_
  have h := sd_world h (ws' := ([]) ++ ([]) ++ (sd_H k3 q u)) (by simp only [List.append_assoc, List.nil_append, List.append_nil])
  refine sd_calli h (va_runS (As := [.int (nI k), .int (nI j)]) (rest := [.ref (q 3)]) C (k_H_slotOf l D k3 H.size k j h1) (sd_cwS 2 C.2.2.2.2 tb_173 tb_174 tb_23 tb_175 rfl rfl (by decide +kernel) ⟨Nat.le_of_ble_eq_true rfl, Nat.le_of_ble_eq_true rfl⟩) (sd_preS h) rfl rfl hl.1 rfl (lv_room (Nat.le_of_ble_eq_true rfl)) d_H_usesOf_6 ⟨Nat.le_of_ble_eq_true rfl, Nat.le_of_ble_eq_true rfl⟩) (fun r w1 H locs hq h => ?_)
  obtain ⟨rfl, rfl⟩ := hq
  have h := sd_world h (ws' := sd_H k3 q u) (by simp only [List.append_assoc, List.nil_append, List.append_nil])
  refine sd_iald C h 3 0 (i := (k * 9 + j - 1)) rfl rfl (by omega) (by decide) d_H_usesOf_9 ?_
  exact sd_iret (v := (hf_us u) (k * 9 + j - 1)) C hr hlk h ⟨rfl, rfl⟩ d_H_usesOf_10

set_option maxHeartbeats 4000000 in
set_option maxRecDepth 100000 in
theorem k_H_isFailing (l : Launch) (D : va_G) (k3 : ClassId × ClassId × ClassId) (sz : Nat) (q : Nat → Nat) (u : sd_HS) (pt : Nat) (hp : pt < 6) : Met l y_H_isFailing (sd_ws y_H_isFailing c_H_isFailing 2 (some FieldType.boolean)) ({ frames := 0, cells := 0, slots := 0, locals := 0 }) (sd_Pc D (sd_t3 k3) [.ref (q 0), .int (nI pt)] sz (sd_H k3 q u)) (sd_Qi D (sd_t3 k3) (va_A (sd_H k3 q u) sz) (fun r w => r = (if hf_pw u pt = 0 then 0 else 1) ∧ w = sd_H k3 q u)) 0 0 (va_A (sd_H k3 q u) sz) := by
  refine sd_met (cc := c_H_isFailing) (maxL := 2) (ret := some .boolean) (by decide) (Nat.le_of_ble_eq_true rfl) (fun p e s m below meth c C hr hlk hnm hsz h ls hl => ?_)
  generalize va_A (sd_H k3 q u) sz = A at h ⊢
  have hl : lv_has ls 2 [(0, .ref (q 0)), (1, .int (nI pt))] := hl
  generalize hH : s.heap = H at h ⊢
  refine lv_aload_n C.1 C.2.1 d_H_isFailing_0 rfl (lv_at hl 0 rfl) ?_
  refine sd_get C h 0 6 (v := .ref (q 7)) (ci := 1) (Cn := "StockDesk$House") (T := T_H) (N := 16) rfl rfl (by decide) in_H tb_87 rfl d_H_isFailing_1 ?_
  refine lv_iload_n C.1 C.2.1 d_H_isFailing_4 rfl (lv_at hl 1 rfl) ?_
  refine sd_iald C h 7 0 (i := pt) rfl rfl (by omega) (by decide) d_H_isFailing_5 ?_
  refine lv_if_eq (tgt := 13) C.1 C.2.1 d_H_isFailing_6 (by decide) (fun c6 => ?_) (fun c6 => ?_)
  · refine lv_iconst (v := 0) C.1 C.2.1 d_H_isFailing_13 (by decide) ?_
    exact sd_zret (v := 0) C hr rfl hlk h ⟨(if_pos c6).symm, rfl⟩ d_H_isFailing_14
  · refine lv_iconst (v := 1) C.1 C.2.1 d_H_isFailing_9 (by decide) ?_
    refine lv_goto (tgt := 14) C.1 C.2.1 d_H_isFailing_10 (by decide) ?_
    exact sd_zret (v := 1) C hr rfl hlk h ⟨(if_neg c6).symm, rfl⟩ d_H_isFailing_14

set_option maxHeartbeats 4000000 in
set_option maxRecDepth 100000 in
theorem k_H_hasThing (l : Launch) (D : va_G) (k3 : ClassId × ClassId × ClassId) (sz : Nat) (q : Nat → Nat) (u : sd_HS) (k : Nat) (y : Int32) (hk : k < 5) : Met l y_H_hasThing (sd_ws y_H_hasThing c_H_hasThing 3 (some FieldType.boolean)) ({ frames := 1, cells := 0, slots := 0, locals := 21 }) (sd_Pc D (sd_t3 k3) [.ref (q 0), .int (nI k), .int y] sz (sd_H k3 q u)) (sd_Qi D (sd_t3 k3) (va_A (sd_H k3 q u) sz) (fun r w => ((r = 1 ∧ hd_has u k y) ∨ (r = 0 ∧ ¬ hd_has u k y)) ∧ w = sd_H k3 q u)) 0 0 (va_A (sd_H k3 q u) sz) := by
  refine sd_met (cc := c_H_hasThing) (maxL := 3) (ret := some .boolean) (by decide) (Nat.le_of_ble_eq_true rfl) (fun p e s m below meth c C hr hlk hnm hsz h ls hl => ?_)
  generalize va_A (sd_H k3 q u) sz = A at h ⊢
  have hl : lv_has ls 3 [(0, .ref (q 0)), (1, .int (nI k)), (2, .int y)] := hl
  generalize hH : s.heap = H at h ⊢
  refine lv_iload_n C.1 C.2.1 d_H_hasThing_0 rfl (lv_at hl 2 rfl) ?_
  refine lv_iconst (v := 1) C.1 C.2.1 d_H_hasThing_1 (by decide) ?_
  refine lv_icmp_lt (tgt := 28) C.1 C.2.1 d_H_hasThing_2 (by decide) (fun c2 => ?_) (fun c2 => ?_)
  · refine lv_iconst (v := 0) C.1 C.2.1 d_H_hasThing_28 (by decide) ?_
    exact sd_zret (v := 0) C hr rfl hlk h ⟨Or.inr ⟨rfl, fun z => z.1 c2⟩, rfl⟩ d_H_hasThing_29
  · refine lv_iload_n C.1 C.2.1 d_H_hasThing_5 rfl (lv_at hl 2 rfl) ?_
    refine lv_bipush (v := 9) C.1 C.2.1 d_H_hasThing_6 (by decide) ?_
    refine lv_icmp_gt (tgt := 28) C.1 C.2.1 d_H_hasThing_8 (by decide) (fun c8 => ?_) (fun c8 => ?_)
    · refine lv_iconst (v := 0) C.1 C.2.1 d_H_hasThing_28 (by decide) ?_
      exact sd_zret (v := 0) C hr rfl hlk h ⟨Or.inr ⟨rfl, fun z => z.2.1 c8⟩, rfl⟩ d_H_hasThing_29
    · obtain ⟨j, h1, h9, rfl⟩ := sd_rng c2 c8
      refine lv_aload_n C.1 C.2.1 d_H_hasThing_11 rfl (lv_at hl 0 rfl) ?_
      refine sd_get C h 0 1 (v := .ref (q 2)) (ci := 1) (Cn := "StockDesk$House") (T := T_H) (N := 16) rfl rfl (by decide) in_H tb_82 rfl d_H_hasThing_12 ?_
      refine lv_iload_n C.1 C.2.1 d_H_hasThing_15 rfl (lv_at hl 1 rfl) ?_
      refine lv_iload_n C.1 C.2.1 d_H_hasThing_16 rfl (lv_at hl 2 rfl) ?_
      have h := sd_world h (ws' := ([]) ++ ([]) ++ (sd_H k3 q u)) (by simp only [List.append_assoc, List.nil_append, List.append_nil])
      refine sd_calli h (va_runS (As := [.int (nI k), .int (nI j)]) (rest := [.ref (q 2)]) C (k_H_slotOf l D k3 H.size k j h1) (sd_cwS 2 C.2.2.2.2 tb_173 tb_174 tb_23 tb_175 rfl rfl (by decide +kernel) ⟨Nat.le_of_ble_eq_true rfl, Nat.le_of_ble_eq_true rfl⟩) (sd_preS h) rfl rfl hl.1 rfl (lv_room (Nat.le_of_ble_eq_true rfl)) d_H_hasThing_17 ⟨Nat.le_of_ble_eq_true rfl, Nat.le_of_ble_eq_true rfl⟩) (fun r w1 H locs hq h => ?_)
      obtain ⟨rfl, rfl⟩ := hq
      have h := sd_world h (ws' := sd_H k3 q u) (by simp only [List.append_assoc, List.nil_append, List.append_nil])
      refine sd_zald C h 2 1 (i := (k * 9 + j - 1)) rfl rfl (by omega) (by decide) d_H_hasThing_20 ?_
      refine lv_if_eq (tgt := 28) C.1 C.2.1 d_H_hasThing_21 (by decide) (fun c21 => ?_) (fun c21 => ?_)
      · refine lv_iconst (v := 0) C.1 C.2.1 d_H_hasThing_28 (by decide) ?_
        exact sd_zret (v := 0) C hr rfl hlk h ⟨Or.inr ⟨rfl, fun z => z.2.2 (by rw [nI_clamp (by omega)]; exact c21)⟩, rfl⟩ d_H_hasThing_29
      · refine lv_iconst (v := 1) C.1 C.2.1 d_H_hasThing_24 (by decide) ?_
        refine lv_goto (tgt := 29) C.1 C.2.1 d_H_hasThing_25 (by decide) ?_
        exact sd_zret (v := 1) C hr rfl hlk h ⟨Or.inl ⟨rfl, c2, c8, by rw [nI_clamp (by omega)]; exact c21⟩, rfl⟩ d_H_hasThing_29

set_option maxHeartbeats 4000000 in
set_option maxRecDepth 100000 in
theorem k_H_bothSums (l : Launch) (D : va_G) (k3 : ClassId × ClassId × ClassId) (sz : Nat) (q : Nat → Nat) (u : sd_HS) : Met l y_H_bothSums (sd_ws y_H_bothSums c_H_bothSums 1 (some FieldType.long)) ({ frames := 0, cells := 0, slots := 0, locals := 0 }) (sd_Pc D (sd_t3 k3) [.ref (q 0)] sz (sd_H k3 q u)) (sd_Ql D (sd_t3 k3) (va_A (sd_H k3 q u) sz) (fun r w => r = (hf_s2 u).toInt64 * 65536 + (hf_s1 u).toInt64 ∧ w = sd_H k3 q u)) 0 0 (va_A (sd_H k3 q u) sz) := by
  refine sd_met (cc := c_H_bothSums) (maxL := 1) (ret := some .long) (by decide) (Nat.le_of_ble_eq_true rfl) (fun p e s m below meth c C hr hlk hnm hsz h ls hl => ?_)
  generalize va_A (sd_H k3 q u) sz = A at h ⊢
  have hl : lv_has ls 1 [(0, .ref (q 0))] := hl
  generalize hH : s.heap = H at h ⊢
  refine lv_aload_n C.1 C.2.1 d_H_bothSums_0 rfl (lv_at hl 0 rfl) ?_
  refine sd_get C h 0 15 (v := .int (hf_s2 u)) (ci := 1) (Cn := "StockDesk$House") (T := T_H) (N := 16) rfl rfl (by decide) in_H tb_102 rfl d_H_bothSums_1 ?_
  refine lv_i2l (v := (hf_s2 u).toInt64) C.1 C.2.1 d_H_bothSums_4 rfl ?_
  refine lv_ldc2 (v := 65536) C.1 C.2.1 C.2.2.2.1 (C.2.2.2.2 _ (List.mem_cons_of_mem _ tb_156)) d_H_bothSums_5 ?_
  refine lv_lmul C.1 C.2.1 d_H_bothSums_8 ?_
  refine lv_aload_n C.1 C.2.1 d_H_bothSums_9 rfl (lv_at hl 0 rfl) ?_
  refine sd_get C h 0 14 (v := .int (hf_s1 u)) (ci := 1) (Cn := "StockDesk$House") (T := T_H) (N := 16) rfl rfl (by decide) in_H tb_101 rfl d_H_bothSums_10 ?_
  refine lv_i2l (v := (hf_s1 u).toInt64) C.1 C.2.1 d_H_bothSums_13 rfl ?_
  refine lv_ladd C.1 C.2.1 d_H_bothSums_14 ?_
  exact sd_lret (v := (((hf_s2 u).toInt64) * 65536) + ((hf_s1 u).toInt64)) C hr hlk h ⟨rfl, rfl⟩ d_H_bothSums_15

set_option maxHeartbeats 4000000 in
set_option maxRecDepth 100000 in
theorem k_H_answerOf (l : Launch) (D : va_G) (k3 : ClassId × ClassId × ClassId) (sz : Nat) (q : Nat → Nat) (u : sd_HS) (pt : Nat) (y : Int32) (a : Int32) (hp : pt < 6) : Met l y_H_answerOf (sd_ws y_H_answerOf c_H_answerOf 4 (some FieldType.long)) ({ frames := 0, cells := 0, slots := 0, locals := 0 }) (sd_Pc D (sd_t3 k3) [.ref (q 0), .int (nI pt), .int y, .int a] sz (sd_H k3 q u)) (sd_Ql D (sd_t3 k3) (va_A (sd_H k3 q u) sz) (fun r w => r = hd_ans u pt y a ∧ w = sd_H k3 q u)) 0 0 (va_A (sd_H k3 q u) sz) := by
  refine sd_met (cc := c_H_answerOf) (maxL := 4) (ret := some .long) (by decide) (Nat.le_of_ble_eq_true rfl) (fun p e s m below meth c C hr hlk hnm hsz h ls hl => ?_)
  generalize va_A (sd_H k3 q u) sz = A at h ⊢
  have hl : lv_has ls 4 [(0, .ref (q 0)), (1, .int (nI pt)), (2, .int y), (3, .int a)] := hl
  generalize hH : s.heap = H at h ⊢
  refine lv_aload_n C.1 C.2.1 d_H_answerOf_0 rfl (lv_at hl 0 rfl) ?_
  refine sd_get C h 0 4 (v := .ref (q 5)) (ci := 1) (Cn := "StockDesk$House") (T := T_H) (N := 16) rfl rfl (by decide) in_H tb_85 rfl d_H_answerOf_1 ?_
  refine lv_iload_n C.1 C.2.1 d_H_answerOf_4 rfl (lv_at hl 1 rfl) ?_
  refine sd_iald C h 5 0 (i := pt) rfl rfl (by omega) (by decide) d_H_answerOf_5 ?_
  refine lv_i2l (v := ((hf_pb u) pt).toInt64) C.1 C.2.1 d_H_answerOf_6 rfl ?_
  refine lv_aload_n C.1 C.2.1 d_H_answerOf_7 rfl (lv_at hl 0 rfl) ?_
  refine sd_get C h 0 5 (v := .ref (q 6)) (ci := 1) (Cn := "StockDesk$House") (T := T_H) (N := 16) rfl rfl (by decide) in_H tb_86 rfl d_H_answerOf_8 ?_
  refine lv_iload_n C.1 C.2.1 d_H_answerOf_11 rfl (lv_at hl 1 rfl) ?_
  refine sd_iald C h 6 0 (i := pt) rfl rfl (by omega) (by decide) d_H_answerOf_12 ?_
  refine lv_i2l (v := ((hf_pf u) pt).toInt64) C.1 C.2.1 d_H_answerOf_13 rfl ?_
  refine lv_iload_n C.1 C.2.1 d_H_answerOf_14 rfl (lv_at hl 3 rfl) ?_
  refine lv_i2l (v := a.toInt64) C.1 C.2.1 d_H_answerOf_15 rfl ?_
  refine lv_lmul C.1 C.2.1 d_H_answerOf_16 ?_
  refine lv_ladd C.1 C.2.1 d_H_answerOf_17 ?_
  refine lv_iload_n C.1 C.2.1 d_H_answerOf_18 rfl (lv_at hl 2 rfl) ?_
  refine lv_i2l (v := y.toInt64) C.1 C.2.1 d_H_answerOf_19 rfl ?_
  refine lv_ladd C.1 C.2.1 d_H_answerOf_20 ?_
  refine lv_aload_n C.1 C.2.1 d_H_answerOf_21 rfl (lv_at hl 0 rfl) ?_
  refine sd_get C h 0 7 (v := .ref (q 8)) (ci := 1) (Cn := "StockDesk$House") (T := T_H) (N := 16) rfl rfl (by decide) in_H tb_88 rfl d_H_answerOf_22 ?_
  refine lv_iload_n C.1 C.2.1 d_H_answerOf_25 rfl (lv_at hl 1 rfl) ?_
  refine sd_lald C h 8 2 (i := pt) rfl rfl (by omega) (by decide) d_H_answerOf_26 ?_
  refine lv_ladd C.1 C.2.1 d_H_answerOf_27 ?_
  exact sd_lret (v := (((((hf_pb u) pt).toInt64) + ((((hf_pf u) pt).toInt64) * a.toInt64)) + y.toInt64) + ((hf_wt u) pt)) C hr hlk h ⟨rfl, rfl⟩ d_H_answerOf_28

set_option maxHeartbeats 4000000 in
set_option maxRecDepth 100000 in
theorem k_H_setKind (l : Launch) (D : va_G) (k3 : ClassId × ClassId × ClassId) (sz : Nat) (q : Nat → Nat) (u : sd_HS) (pt : Nat) (x : Int32) (hp : pt < 6) : Met l y_H_setKind (sd_ws y_H_setKind c_H_setKind 4 (some FieldType.int)) ({ frames := 0, cells := 0, slots := 0, locals := 0 }) (sd_Pc D (sd_t3 k3) [.ref (q 0), .int (nI pt), .int x] sz (sd_H k3 q u)) (sd_Qi D (sd_t3 k3) (va_A (sd_H k3 q u) sz) (fun r w => r = hf_pk u pt ∧ w = sd_H k3 q (hd_kind u pt x))) 0 0 (va_A (sd_H k3 q u) sz) := by
  refine sd_met (cc := c_H_setKind) (maxL := 4) (ret := some .int) (by decide) (Nat.le_of_ble_eq_true rfl) (fun p e s m below meth c C hr hlk hnm hsz h ls hl => ?_)
  generalize va_A (sd_H k3 q u) sz = A at h ⊢
  have hl : lv_has ls 4 [(0, .ref (q 0)), (1, .int (nI pt)), (2, .int x)] := hl
  generalize hH : s.heap = H at h ⊢
  refine lv_aload_n C.1 C.2.1 d_H_setKind_0 rfl (lv_at hl 0 rfl) ?_
  refine sd_get C h 0 3 (v := .ref (q 4)) (ci := 1) (Cn := "StockDesk$House") (T := T_H) (N := 16) rfl rfl (by decide) in_H tb_84 rfl d_H_setKind_1 ?_
  refine lv_iload_n C.1 C.2.1 d_H_setKind_4 rfl (lv_at hl 1 rfl) ?_
  refine sd_iald C h 4 0 (i := pt) rfl rfl (by omega) (by decide) d_H_setKind_5 ?_
  refine lv_istore_n (lv' := [(3, .int ((hf_pk u) pt)), (0, .ref (q 0)), (1, .int (nI pt)), (2, .int x)]) C.1 C.2.1 d_H_setKind_6 rfl hl (by decide) rfl (fun ls hl => ?_)
  refine lv_aload_n C.1 C.2.1 d_H_setKind_7 rfl (lv_at hl 1 rfl) ?_
  refine sd_get C h 0 3 (v := .ref (q 4)) (ci := 1) (Cn := "StockDesk$House") (T := T_H) (N := 16) rfl rfl (by decide) in_H tb_84 rfl d_H_setKind_8 ?_
  refine lv_iload_n C.1 C.2.1 d_H_setKind_11 rfl (lv_at hl 2 rfl) ?_
  refine lv_iload_n C.1 C.2.1 d_H_setKind_12 rfl (lv_at hl 3 rfl) ?_
  refine sd_iast C h 4 0 (i := pt) (ws' := sd_Hx k3 q (hf_md u) (hf_th u) (hf_us u) (upd (hf_pk u) pt x) (hf_pb u) (hf_pf u) (hf_pw u) (hf_wt u) (hf_fl u) (hf_tw u) (hf_tp u) (hf_tn u) (hf_an u) (hf_co u) (hf_s1 u) (hf_s2 u)) rfl rfl (by omega) (by decide) rfl d_H_setKind_13 (fun H locs h => ?_)
  refine lv_iload_n C.1 C.2.1 d_H_setKind_14 rfl (lv_at hl 0 rfl) ?_
  have h := sd_world h (ws' := sd_H k3 q (hd_kind u pt x)) (by simp only [sd_H, hd_make, hd_drop, hd_kind, hd_answer, hd_way, hd_tell, hd_work, hd_byte, hd_m, hd_ans, hf_md, hf_th, hf_us, hf_pk, hf_pb, hf_pf, hf_pw, hf_wt, hf_fl, hf_tw, hf_tp, hf_tn, hf_an, hf_co, hf_s1, hf_s2])
  exact sd_iret (v := (hf_pk u) pt) C hr hlk h ⟨rfl, rfl⟩ d_H_setKind_15

set_option maxHeartbeats 4000000 in
set_option maxRecDepth 100000 in
theorem k_H_setAnswer (l : Launch) (D : va_G) (k3 : ClassId × ClassId × ClassId) (sz : Nat) (q : Nat → Nat) (u : sd_HS) (pt : Nat) (b : Int32) (f : Int32) (hp : pt < 6) : Met l y_H_setAnswer (sd_ws y_H_setAnswer c_H_setAnswer 4 (some FieldType.int)) ({ frames := 0, cells := 0, slots := 0, locals := 0 }) (sd_Pc D (sd_t3 k3) [.ref (q 0), .int (nI pt), .int b, .int f] sz (sd_H k3 q u)) (sd_Qi D (sd_t3 k3) (va_A (sd_H k3 q u) sz) (fun r w => r = 0 ∧ w = sd_H k3 q (hd_answer u pt b f))) 0 0 (va_A (sd_H k3 q u) sz) := by
  refine sd_met (cc := c_H_setAnswer) (maxL := 4) (ret := some .int) (by decide) (Nat.le_of_ble_eq_true rfl) (fun p e s m below meth c C hr hlk hnm hsz h ls hl => ?_)
  generalize va_A (sd_H k3 q u) sz = A at h ⊢
  have hl : lv_has ls 4 [(0, .ref (q 0)), (1, .int (nI pt)), (2, .int b), (3, .int f)] := hl
  generalize hH : s.heap = H at h ⊢
  refine lv_aload_n C.1 C.2.1 d_H_setAnswer_0 rfl (lv_at hl 0 rfl) ?_
  refine sd_get C h 0 4 (v := .ref (q 5)) (ci := 1) (Cn := "StockDesk$House") (T := T_H) (N := 16) rfl rfl (by decide) in_H tb_85 rfl d_H_setAnswer_1 ?_
  refine lv_iload_n C.1 C.2.1 d_H_setAnswer_4 rfl (lv_at hl 1 rfl) ?_
  refine lv_iload_n C.1 C.2.1 d_H_setAnswer_5 rfl (lv_at hl 2 rfl) ?_
  refine sd_iast C h 5 0 (i := pt) (ws' := sd_Hx k3 q (hf_md u) (hf_th u) (hf_us u) (hf_pk u) (upd (hf_pb u) pt b) (hf_pf u) (hf_pw u) (hf_wt u) (hf_fl u) (hf_tw u) (hf_tp u) (hf_tn u) (hf_an u) (hf_co u) (hf_s1 u) (hf_s2 u)) rfl rfl (by omega) (by decide) rfl d_H_setAnswer_6 (fun H locs h => ?_)
  refine lv_aload_n C.1 C.2.1 d_H_setAnswer_7 rfl (lv_at hl 0 rfl) ?_
  refine sd_get C h 0 5 (v := .ref (q 6)) (ci := 1) (Cn := "StockDesk$House") (T := T_H) (N := 16) rfl rfl (by decide) in_H tb_86 rfl d_H_setAnswer_8 ?_
  refine lv_iload_n C.1 C.2.1 d_H_setAnswer_11 rfl (lv_at hl 1 rfl) ?_
  refine lv_iload_n C.1 C.2.1 d_H_setAnswer_12 rfl (lv_at hl 3 rfl) ?_
  refine sd_iast C h 6 0 (i := pt) (ws' := sd_Hx k3 q (hf_md u) (hf_th u) (hf_us u) (hf_pk u) (upd (hf_pb u) pt b) (upd (hf_pf u) pt f) (hf_pw u) (hf_wt u) (hf_fl u) (hf_tw u) (hf_tp u) (hf_tn u) (hf_an u) (hf_co u) (hf_s1 u) (hf_s2 u)) rfl rfl (by omega) (by decide) rfl d_H_setAnswer_13 (fun H locs h => ?_)
  refine lv_iconst (v := 0) C.1 C.2.1 d_H_setAnswer_14 (by decide) ?_
  have h := sd_world h (ws' := sd_H k3 q (hd_answer u pt b f)) (by simp only [sd_H, hd_make, hd_drop, hd_kind, hd_answer, hd_way, hd_tell, hd_work, hd_byte, hd_m, hd_ans, hf_md, hf_th, hf_us, hf_pk, hf_pb, hf_pf, hf_pw, hf_wt, hf_fl, hf_tw, hf_tp, hf_tn, hf_an, hf_co, hf_s1, hf_s2])
  exact sd_iret (v := 0) C hr hlk h ⟨rfl, rfl⟩ d_H_setAnswer_15

set_option maxHeartbeats 4000000 in
set_option maxRecDepth 100000 in
theorem k_H_setWay (l : Launch) (D : va_G) (k3 : ClassId × ClassId × ClassId) (sz : Nat) (q : Nat → Nat) (u : sd_HS) (pt : Nat) (x : Int32) (hp : pt < 6) : Met l y_H_setWay (sd_ws y_H_setWay c_H_setWay 4 (some FieldType.int)) ({ frames := 0, cells := 0, slots := 0, locals := 0 }) (sd_Pc D (sd_t3 k3) [.ref (q 0), .int (nI pt), .int x] sz (sd_H k3 q u)) (sd_Qi D (sd_t3 k3) (va_A (sd_H k3 q u) sz) (fun r w => r = hf_pw u pt ∧ w = sd_H k3 q (hd_way u pt x))) 0 0 (va_A (sd_H k3 q u) sz) := by
  refine sd_met (cc := c_H_setWay) (maxL := 4) (ret := some .int) (by decide) (Nat.le_of_ble_eq_true rfl) (fun p e s m below meth c C hr hlk hnm hsz h ls hl => ?_)
  generalize va_A (sd_H k3 q u) sz = A at h ⊢
  have hl : lv_has ls 4 [(0, .ref (q 0)), (1, .int (nI pt)), (2, .int x)] := hl
  generalize hH : s.heap = H at h ⊢
  refine lv_aload_n C.1 C.2.1 d_H_setWay_0 rfl (lv_at hl 0 rfl) ?_
  refine sd_get C h 0 6 (v := .ref (q 7)) (ci := 1) (Cn := "StockDesk$House") (T := T_H) (N := 16) rfl rfl (by decide) in_H tb_87 rfl d_H_setWay_1 ?_
  refine lv_iload_n C.1 C.2.1 d_H_setWay_4 rfl (lv_at hl 1 rfl) ?_
  refine sd_iald C h 7 0 (i := pt) rfl rfl (by omega) (by decide) d_H_setWay_5 ?_
  refine lv_istore_n (lv' := [(3, .int ((hf_pw u) pt)), (0, .ref (q 0)), (1, .int (nI pt)), (2, .int x)]) C.1 C.2.1 d_H_setWay_6 rfl hl (by decide) rfl (fun ls hl => ?_)
  refine lv_aload_n C.1 C.2.1 d_H_setWay_7 rfl (lv_at hl 1 rfl) ?_
  refine sd_get C h 0 6 (v := .ref (q 7)) (ci := 1) (Cn := "StockDesk$House") (T := T_H) (N := 16) rfl rfl (by decide) in_H tb_87 rfl d_H_setWay_8 ?_
  refine lv_iload_n C.1 C.2.1 d_H_setWay_11 rfl (lv_at hl 2 rfl) ?_
  refine lv_iload_n C.1 C.2.1 d_H_setWay_12 rfl (lv_at hl 3 rfl) ?_
  refine sd_iast C h 7 0 (i := pt) (ws' := sd_Hx k3 q (hf_md u) (hf_th u) (hf_us u) (hf_pk u) (hf_pb u) (hf_pf u) (upd (hf_pw u) pt x) (hf_wt u) (hf_fl u) (hf_tw u) (hf_tp u) (hf_tn u) (hf_an u) (hf_co u) (hf_s1 u) (hf_s2 u)) rfl rfl (by omega) (by decide) rfl d_H_setWay_13 (fun H locs h => ?_)
  refine lv_iload_n C.1 C.2.1 d_H_setWay_14 rfl (lv_at hl 0 rfl) ?_
  have h := sd_world h (ws' := sd_H k3 q (hd_way u pt x)) (by simp only [sd_H, hd_make, hd_drop, hd_kind, hd_answer, hd_way, hd_tell, hd_work, hd_byte, hd_m, hd_ans, hf_md, hf_th, hf_us, hf_pk, hf_pb, hf_pf, hf_pw, hf_wt, hf_fl, hf_tw, hf_tp, hf_tn, hf_an, hf_co, hf_s1, hf_s2])
  exact sd_iret (v := (hf_pw u) pt) C hr hlk h ⟨rfl, rfl⟩ d_H_setWay_15

set_option maxHeartbeats 4000000 in
set_option maxRecDepth 100000 in
theorem k_H_tellFailure (l : Launch) (D : va_G) (k3 : ClassId × ClassId × ClassId) (sz : Nat) (q : Nat → Nat) (u : sd_HS) (pt : Nat) (y : Int32) (hp : pt < 6) : Met l y_H_tellFailure (sd_ws y_H_tellFailure c_H_tellFailure 3 none) ({ frames := 0, cells := 0, slots := 0, locals := 0 }) (sd_Pc D (sd_t3 k3) [.ref (q 0), .int (nI pt), .int y] sz (sd_H k3 q u)) (sd_Qv D (sd_t3 k3) (va_A (sd_H k3 q u) sz) (fun w => w = sd_H k3 q (hd_tell u pt y))) 0 0 (va_A (sd_H k3 q u) sz) := by
  refine sd_met (cc := c_H_tellFailure) (maxL := 3) (ret := none) (by decide) (Nat.le_of_ble_eq_true rfl) (fun p e s m below meth c C hr hlk hnm hsz h ls hl => ?_)
  generalize va_A (sd_H k3 q u) sz = A at h ⊢
  have hl : lv_has ls 3 [(0, .ref (q 0)), (1, .int (nI pt)), (2, .int y)] := hl
  generalize hH : s.heap = H at h ⊢
  refine lv_aload_n C.1 C.2.1 d_H_tellFailure_0 rfl (lv_at hl 0 rfl) ?_
  refine lv_dup C.1 C.2.1 d_H_tellFailure_1 rfl ?_
  refine sd_get C h 0 8 (v := .int (hf_fl u)) (ci := 1) (Cn := "StockDesk$House") (T := T_H) (N := 16) rfl rfl (by decide) in_H tb_89 rfl d_H_tellFailure_2 ?_
  refine lv_iconst (v := 1) C.1 C.2.1 d_H_tellFailure_5 (by decide) ?_
  refine lv_iadd C.1 C.2.1 d_H_tellFailure_6 ?_
  refine sd_put C h 0 8 (v := .int ((hf_fl u) + 1)) (ci := 1) (Cn := "StockDesk$House") (T := T_H) (N := 16) (ty0 := ty_H) (ws' := sd_Hx k3 q (hf_md u) (hf_th u) (hf_us u) (hf_pk u) (hf_pb u) (hf_pf u) (hf_pw u) (hf_wt u) ((hf_fl u) + 1) (hf_tw u) (hf_tp u) (hf_tn u) (hf_an u) (hf_co u) (hf_s1 u) (hf_s2 u)) rfl rfl (by decide) in_H tyok_H nm_H tb_89 rfl rfl rfl rfl (Nat.le_of_ble_eq_true rfl) rfl d_H_tellFailure_7 (fun H locs h => ?_)
  refine lv_aload_n C.1 C.2.1 d_H_tellFailure_10 rfl (lv_at hl 0 rfl) ?_
  refine lv_aload_n C.1 C.2.1 d_H_tellFailure_11 rfl (lv_at hl 0 rfl) ?_
  refine sd_get C h 0 6 (v := .ref (q 7)) (ci := 1) (Cn := "StockDesk$House") (T := T_H) (N := 16) rfl rfl (by decide) in_H tb_87 rfl d_H_tellFailure_12 ?_
  refine lv_iload_n C.1 C.2.1 d_H_tellFailure_15 rfl (lv_at hl 1 rfl) ?_
  refine sd_iald C h 7 0 (i := pt) rfl rfl (by omega) (by decide) d_H_tellFailure_16 ?_
  refine sd_put C h 0 9 (v := .int ((hf_pw u) pt)) (ci := 1) (Cn := "StockDesk$House") (T := T_H) (N := 16) (ty0 := ty_H) (ws' := sd_Hx k3 q (hf_md u) (hf_th u) (hf_us u) (hf_pk u) (hf_pb u) (hf_pf u) (hf_pw u) (hf_wt u) ((hf_fl u) + 1) ((hf_pw u) pt) (hf_tp u) (hf_tn u) (hf_an u) (hf_co u) (hf_s1 u) (hf_s2 u)) rfl rfl (by decide) in_H tyok_H nm_H tb_91 rfl rfl rfl rfl (Nat.le_of_ble_eq_true rfl) rfl d_H_tellFailure_17 (fun H locs h => ?_)
  refine lv_aload_n C.1 C.2.1 d_H_tellFailure_20 rfl (lv_at hl 0 rfl) ?_
  refine lv_iload_n C.1 C.2.1 d_H_tellFailure_21 rfl (lv_at hl 1 rfl) ?_
  refine sd_put C h 0 10 (v := .int (nI pt)) (ci := 1) (Cn := "StockDesk$House") (T := T_H) (N := 16) (ty0 := ty_H) (ws' := sd_Hx k3 q (hf_md u) (hf_th u) (hf_us u) (hf_pk u) (hf_pb u) (hf_pf u) (hf_pw u) (hf_wt u) ((hf_fl u) + 1) ((hf_pw u) pt) (nI pt) (hf_tn u) (hf_an u) (hf_co u) (hf_s1 u) (hf_s2 u)) rfl rfl (by decide) in_H tyok_H nm_H tb_93 rfl rfl rfl rfl (Nat.le_of_ble_eq_true rfl) rfl d_H_tellFailure_22 (fun H locs h => ?_)
  refine lv_aload_n C.1 C.2.1 d_H_tellFailure_25 rfl (lv_at hl 0 rfl) ?_
  refine lv_iload_n C.1 C.2.1 d_H_tellFailure_26 rfl (lv_at hl 2 rfl) ?_
  refine sd_put C h 0 11 (v := .int y) (ci := 1) (Cn := "StockDesk$House") (T := T_H) (N := 16) (ty0 := ty_H) (ws' := sd_Hx k3 q (hf_md u) (hf_th u) (hf_us u) (hf_pk u) (hf_pb u) (hf_pf u) (hf_pw u) (hf_wt u) ((hf_fl u) + 1) ((hf_pw u) pt) (nI pt) y (hf_an u) (hf_co u) (hf_s1 u) (hf_s2 u)) rfl rfl (by decide) in_H tyok_H nm_H tb_95 rfl rfl rfl rfl (Nat.le_of_ble_eq_true rfl) rfl d_H_tellFailure_27 (fun H locs h => ?_)
  have h := sd_world h (ws' := sd_H k3 q (hd_tell u pt y)) (by simp only [sd_H, hd_make, hd_drop, hd_kind, hd_answer, hd_way, hd_tell, hd_work, hd_byte, hd_m, hd_ans, hf_md, hf_th, hf_us, hf_pk, hf_pb, hf_pf, hf_pw, hf_wt, hf_fl, hf_tw, hf_tp, hf_tn, hf_an, hf_co, hf_s1, hf_s2])
  exact sd_vret C hr hlk h rfl d_H_tellFailure_30

set_option maxHeartbeats 4000000 in
set_option maxRecDepth 100000 in
theorem k_H_addByte (l : Launch) (D : va_G) (k3 : ClassId × ClassId × ClassId) (sz : Nat) (q : Nat → Nat) (u : sd_HS) (b : Int32) : Met l y_H_addByte (sd_ws y_H_addByte c_H_addByte 2 (some FieldType.int)) ({ frames := 0, cells := 0, slots := 0, locals := 0 }) (sd_Pc D (sd_t3 k3) [.ref (q 0), .int b] sz (sd_H k3 q u)) (sd_Qi D (sd_t3 k3) (va_A (sd_H k3 q u) sz) (fun r w => r = hf_co u + 1 ∧ w = sd_H k3 q (hd_byte u b))) 0 0 (va_A (sd_H k3 q u) sz) := by
  refine sd_met (cc := c_H_addByte) (maxL := 2) (ret := some .int) (by decide) (Nat.le_of_ble_eq_true rfl) (fun p e s m below meth c C hr hlk hnm hsz h ls hl => ?_)
  generalize va_A (sd_H k3 q u) sz = A at h ⊢
  have hl : lv_has ls 2 [(0, .ref (q 0)), (1, .int b)] := hl
  generalize hH : s.heap = H at h ⊢
  refine lv_aload_n C.1 C.2.1 d_H_addByte_0 rfl (lv_at hl 0 rfl) ?_
  refine lv_aload_n C.1 C.2.1 d_H_addByte_1 rfl (lv_at hl 0 rfl) ?_
  refine sd_get C h 0 14 (v := .int (hf_s1 u)) (ci := 1) (Cn := "StockDesk$House") (T := T_H) (N := 16) rfl rfl (by decide) in_H tb_101 rfl d_H_addByte_2 ?_
  refine lv_iload_n C.1 C.2.1 d_H_addByte_5 rfl (lv_at hl 1 rfl) ?_
  refine lv_iadd C.1 C.2.1 d_H_addByte_6 ?_
  refine lv_ldc (v := 65521) C.1 C.2.1 C.2.2.2.1 (C.2.2.2.2 _ (List.mem_cons_of_mem _ tb_337)) d_H_addByte_7 ?_
  refine lv_irem C.1 C.2.1 d_H_addByte_9 (by decide) ?_
  refine sd_put C h 0 14 (v := .int (((hf_s1 u) + b) - ((hf_s1 u) + b) / 65521 * 65521)) (ci := 1) (Cn := "StockDesk$House") (T := T_H) (N := 16) (ty0 := ty_H) (ws' := sd_Hx k3 q (hf_md u) (hf_th u) (hf_us u) (hf_pk u) (hf_pb u) (hf_pf u) (hf_pw u) (hf_wt u) (hf_fl u) (hf_tw u) (hf_tp u) (hf_tn u) (hf_an u) (hf_co u) (((hf_s1 u) + b) - ((hf_s1 u) + b) / 65521 * 65521) (hf_s2 u)) rfl rfl (by decide) in_H tyok_H nm_H tb_101 rfl rfl rfl rfl (Nat.le_of_ble_eq_true rfl) rfl d_H_addByte_10 (fun H locs h => ?_)
  refine lv_aload_n C.1 C.2.1 d_H_addByte_13 rfl (lv_at hl 0 rfl) ?_
  refine lv_aload_n C.1 C.2.1 d_H_addByte_14 rfl (lv_at hl 0 rfl) ?_
  refine sd_get C h 0 15 (v := .int (hf_s2 u)) (ci := 1) (Cn := "StockDesk$House") (T := T_H) (N := 16) rfl rfl (by decide) in_H tb_102 rfl d_H_addByte_15 ?_
  refine lv_aload_n C.1 C.2.1 d_H_addByte_18 rfl (lv_at hl 0 rfl) ?_
  refine sd_get C h 0 14 (v := .int (((hf_s1 u) + b) - ((hf_s1 u) + b) / 65521 * 65521)) (ci := 1) (Cn := "StockDesk$House") (T := T_H) (N := 16) rfl rfl (by decide) in_H tb_101 rfl d_H_addByte_19 ?_
  refine lv_iadd C.1 C.2.1 d_H_addByte_22 ?_
  refine lv_ldc (v := 65521) C.1 C.2.1 C.2.2.2.1 (C.2.2.2.2 _ (List.mem_cons_of_mem _ tb_337)) d_H_addByte_23 ?_
  refine lv_irem C.1 C.2.1 d_H_addByte_25 (by decide) ?_
  refine sd_put C h 0 15 (v := .int (((hf_s2 u) + (((hf_s1 u) + b) - ((hf_s1 u) + b) / 65521 * 65521)) - ((hf_s2 u) + (((hf_s1 u) + b) - ((hf_s1 u) + b) / 65521 * 65521)) / 65521 * 65521)) (ci := 1) (Cn := "StockDesk$House") (T := T_H) (N := 16) (ty0 := ty_H) (ws' := sd_Hx k3 q (hf_md u) (hf_th u) (hf_us u) (hf_pk u) (hf_pb u) (hf_pf u) (hf_pw u) (hf_wt u) (hf_fl u) (hf_tw u) (hf_tp u) (hf_tn u) (hf_an u) (hf_co u) (((hf_s1 u) + b) - ((hf_s1 u) + b) / 65521 * 65521) (((hf_s2 u) + (((hf_s1 u) + b) - ((hf_s1 u) + b) / 65521 * 65521)) - ((hf_s2 u) + (((hf_s1 u) + b) - ((hf_s1 u) + b) / 65521 * 65521)) / 65521 * 65521)) rfl rfl (by decide) in_H tyok_H nm_H tb_102 rfl rfl rfl rfl (Nat.le_of_ble_eq_true rfl) rfl d_H_addByte_26 (fun H locs h => ?_)
  refine lv_aload_n C.1 C.2.1 d_H_addByte_29 rfl (lv_at hl 0 rfl) ?_
  refine lv_dup C.1 C.2.1 d_H_addByte_30 rfl ?_
  refine sd_get C h 0 13 (v := .int (hf_co u)) (ci := 1) (Cn := "StockDesk$House") (T := T_H) (N := 16) rfl rfl (by decide) in_H tb_99 rfl d_H_addByte_31 ?_
  refine lv_iconst (v := 1) C.1 C.2.1 d_H_addByte_34 (by decide) ?_
  refine lv_iadd C.1 C.2.1 d_H_addByte_35 ?_
  refine sd_put C h 0 13 (v := .int ((hf_co u) + 1)) (ci := 1) (Cn := "StockDesk$House") (T := T_H) (N := 16) (ty0 := ty_H) (ws' := sd_Hx k3 q (hf_md u) (hf_th u) (hf_us u) (hf_pk u) (hf_pb u) (hf_pf u) (hf_pw u) (hf_wt u) (hf_fl u) (hf_tw u) (hf_tp u) (hf_tn u) (hf_an u) ((hf_co u) + 1) (((hf_s1 u) + b) - ((hf_s1 u) + b) / 65521 * 65521) (((hf_s2 u) + (((hf_s1 u) + b) - ((hf_s1 u) + b) / 65521 * 65521)) - ((hf_s2 u) + (((hf_s1 u) + b) - ((hf_s1 u) + b) / 65521 * 65521)) / 65521 * 65521)) rfl rfl (by decide) in_H tyok_H nm_H tb_99 rfl rfl rfl rfl (Nat.le_of_ble_eq_true rfl) rfl d_H_addByte_36 (fun H locs h => ?_)
  refine lv_aload_n C.1 C.2.1 d_H_addByte_39 rfl (lv_at hl 0 rfl) ?_
  refine sd_get C h 0 13 (v := .int ((hf_co u) + 1)) (ci := 1) (Cn := "StockDesk$House") (T := T_H) (N := 16) rfl rfl (by decide) in_H tb_99 rfl d_H_addByte_40 ?_
  have h := sd_world h (ws' := sd_H k3 q (hd_byte u b)) (by simp only [sd_H, hd_make, hd_drop, hd_kind, hd_answer, hd_way, hd_tell, hd_work, hd_byte, hd_m, hd_ans, hf_md, hf_th, hf_us, hf_pk, hf_pb, hf_pf, hf_pw, hf_wt, hf_fl, hf_tw, hf_tp, hf_tn, hf_an, hf_co, hf_s1, hf_s2])
  exact sd_iret (v := (hf_co u) + 1) C hr hlk h ⟨rfl, rfl⟩ d_H_addByte_43

set_option maxHeartbeats 4000000 in
set_option maxRecDepth 100000 in
theorem k_H_removeThing (l : Launch) (D : va_G) (k3 : ClassId × ClassId × ClassId) (sz : Nat) (q : Nat → Nat) (u : sd_HS) (k : Nat) (j : Nat) (hk : k < 5) (h1 : 1 ≤ j) (h9 : j ≤ 9) : Met l y_H_removeThing (sd_ws y_H_removeThing c_H_removeThing 3 (some FieldType.int)) ({ frames := 1, cells := 0, slots := 0, locals := 21 }) (sd_Pc D (sd_t3 k3) [.ref (q 0), .int (nI k), .int (nI j)] sz (sd_H k3 q u)) (sd_Qi D (sd_t3 k3) (va_A (sd_H k3 q u) sz) (fun r w => r = hf_us u (k * 9 + j - 1) ∧ w = sd_H k3 q (hd_drop u k j))) 0 0 (va_A (sd_H k3 q u) sz) := by
  refine sd_met (cc := c_H_removeThing) (maxL := 3) (ret := some .int) (by decide) (Nat.le_of_ble_eq_true rfl) (fun p e s m below meth c C hr hlk hnm hsz h ls hl => ?_)
  generalize va_A (sd_H k3 q u) sz = A at h ⊢
  have hl : lv_has ls 3 [(0, .ref (q 0)), (1, .int (nI k)), (2, .int (nI j))] := hl
  generalize hH : s.heap = H at h ⊢
  refine lv_aload_n C.1 C.2.1 d_H_removeThing_0 rfl (lv_at hl 0 rfl) ?_
  refine sd_get C h 0 1 (v := .ref (q 2)) (ci := 1) (Cn := "StockDesk$House") (T := T_H) (N := 16) rfl rfl (by decide) in_H tb_82 rfl d_H_removeThing_1 ?_
  refine lv_iload_n C.1 C.2.1 d_H_removeThing_4 rfl (lv_at hl 1 rfl) ?_
  refine lv_iload_n C.1 C.2.1 d_H_removeThing_5 rfl (lv_at hl 2 rfl) ?_
  have h := sd_world h (ws' := ([]) ++ ([]) ++ (sd_H k3 q u)) (by simp only [List.append_assoc, List.nil_append, List.append_nil])
  refine sd_calli h (va_runS (As := [.int (nI k), .int (nI j)]) (rest := [.ref (q 2)]) C (k_H_slotOf l D k3 H.size k j h1) (sd_cwS 2 C.2.2.2.2 tb_173 tb_174 tb_23 tb_175 rfl rfl (by decide +kernel) ⟨Nat.le_of_ble_eq_true rfl, Nat.le_of_ble_eq_true rfl⟩) (sd_preS h) rfl rfl hl.1 rfl (lv_room (Nat.le_of_ble_eq_true rfl)) d_H_removeThing_6 ⟨Nat.le_of_ble_eq_true rfl, Nat.le_of_ble_eq_true rfl⟩) (fun r w1 H locs hq h => ?_)
  obtain ⟨rfl, rfl⟩ := hq
  have h := sd_world h (ws' := sd_H k3 q u) (by simp only [List.append_assoc, List.nil_append, List.append_nil])
  refine lv_iconst (v := 0) C.1 C.2.1 d_H_removeThing_9 (by decide) ?_
  refine sd_zast C h 2 1 (i := (k * 9 + j - 1)) (ws' := sd_Hx k3 q (hf_md u) (upd (hf_th u) (k * 9 + j - 1) 0) (hf_us u) (hf_pk u) (hf_pb u) (hf_pf u) (hf_pw u) (hf_wt u) (hf_fl u) (hf_tw u) (hf_tp u) (hf_tn u) (hf_an u) (hf_co u) (hf_s1 u) (hf_s2 u)) rfl rfl (by omega) (by decide) rfl rfl d_H_removeThing_10 (fun H locs h => ?_)
  refine lv_aload_n C.1 C.2.1 d_H_removeThing_11 rfl (lv_at hl 0 rfl) ?_
  refine sd_get C h 0 2 (v := .ref (q 3)) (ci := 1) (Cn := "StockDesk$House") (T := T_H) (N := 16) rfl rfl (by decide) in_H tb_83 rfl d_H_removeThing_12 ?_
  refine lv_iload_n C.1 C.2.1 d_H_removeThing_15 rfl (lv_at hl 1 rfl) ?_
  refine lv_iload_n C.1 C.2.1 d_H_removeThing_16 rfl (lv_at hl 2 rfl) ?_
  have h := sd_world h (ws' := ([]) ++ ([]) ++ (sd_Hx k3 q (hf_md u) (upd (hf_th u) (k * 9 + j - 1) 0) (hf_us u) (hf_pk u) (hf_pb u) (hf_pf u) (hf_pw u) (hf_wt u) (hf_fl u) (hf_tw u) (hf_tp u) (hf_tn u) (hf_an u) (hf_co u) (hf_s1 u) (hf_s2 u))) (by simp only [List.append_assoc, List.nil_append, List.append_nil])
  refine sd_calli h (va_runS (As := [.int (nI k), .int (nI j)]) (rest := [.ref (q 3)]) C (k_H_slotOf l D k3 H.size k j h1) (sd_cwS 2 C.2.2.2.2 tb_173 tb_174 tb_23 tb_175 rfl rfl (by decide +kernel) ⟨Nat.le_of_ble_eq_true rfl, Nat.le_of_ble_eq_true rfl⟩) (sd_preS h) rfl rfl hl.1 rfl (lv_room (Nat.le_of_ble_eq_true rfl)) d_H_removeThing_17 ⟨Nat.le_of_ble_eq_true rfl, Nat.le_of_ble_eq_true rfl⟩) (fun r w1 H locs hq h => ?_)
  obtain ⟨rfl, rfl⟩ := hq
  have h := sd_world h (ws' := sd_Hx k3 q (hf_md u) (upd (hf_th u) (k * 9 + j - 1) 0) (hf_us u) (hf_pk u) (hf_pb u) (hf_pf u) (hf_pw u) (hf_wt u) (hf_fl u) (hf_tw u) (hf_tp u) (hf_tn u) (hf_an u) (hf_co u) (hf_s1 u) (hf_s2 u)) (by simp only [List.append_assoc, List.nil_append, List.append_nil])
  refine sd_iald C h 3 0 (i := (k * 9 + j - 1)) rfl rfl (by omega) (by decide) d_H_removeThing_20 ?_
  have h := sd_world h (ws' := sd_H k3 q (hd_drop u k j)) (by simp only [sd_H, hd_make, hd_drop, hd_kind, hd_answer, hd_way, hd_tell, hd_work, hd_byte, hd_m, hd_ans, hf_md, hf_th, hf_us, hf_pk, hf_pb, hf_pf, hf_pw, hf_wt, hf_fl, hf_tw, hf_tp, hf_tn, hf_an, hf_co, hf_s1, hf_s2])
  exact sd_iret (v := (hf_us u) (k * 9 + j - 1)) C hr hlk h ⟨rfl, rfl⟩ d_H_removeThing_21

set_option maxHeartbeats 4000000 in
set_option maxRecDepth 100000 in
theorem k_H_addThing (l : Launch) (D : va_G) (k3 : ClassId × ClassId × ClassId) (sz : Nat) (q : Nat → Nat) (u : sd_HS) (k : Nat) (n : Nat) (hk : k < 5) (hn : n < 9) (hm : hf_md u k = nI n) : Met l y_H_addThing (sd_ws y_H_addThing c_H_addThing 2 (some FieldType.int)) ({ frames := 1, cells := 0, slots := 0, locals := 21 }) (sd_Pc D (sd_t3 k3) [.ref (q 0), .int (nI k)] sz (sd_H k3 q u)) (sd_Qi D (sd_t3 k3) (va_A (sd_H k3 q u) sz) (fun r w => r = nI (n + 1) ∧ w = sd_H k3 q (hd_make u k n))) 0 0 (va_A (sd_H k3 q u) sz) := by
  refine sd_met (cc := c_H_addThing) (maxL := 2) (ret := some .int) (by decide) (Nat.le_of_ble_eq_true rfl) (fun p e s m below meth c C hr hlk hnm hsz h ls hl => ?_)
  generalize va_A (sd_H k3 q u) sz = A at h ⊢
  have hl : lv_has ls 2 [(0, .ref (q 0)), (1, .int (nI k))] := hl
  generalize hH : s.heap = H at h ⊢
  refine lv_aload_n C.1 C.2.1 d_H_addThing_0 rfl (lv_at hl 0 rfl) ?_
  refine sd_get C h 0 0 (v := .ref (q 1)) (ci := 1) (Cn := "StockDesk$House") (T := T_H) (N := 16) rfl rfl (by decide) in_H tb_81 rfl d_H_addThing_1 ?_
  refine lv_iload_n C.1 C.2.1 d_H_addThing_4 rfl (lv_at hl 1 rfl) ?_
  refine lv_dup2_11 C.1 C.2.1 d_H_addThing_5 rfl rfl ?_
  refine sd_iald C h 1 0 (i := k) rfl rfl (by omega) (by decide) d_H_addThing_6 ?_
  refine lv_iconst (v := 1) C.1 C.2.1 d_H_addThing_7 (by decide) ?_
  refine lv_iadd C.1 C.2.1 d_H_addThing_8 ?_
  refine sd_iast C h 1 0 (i := k) (ws' := sd_Hx k3 q (upd (hf_md u) k (((hf_md u) k) + 1)) (hf_th u) (hf_us u) (hf_pk u) (hf_pb u) (hf_pf u) (hf_pw u) (hf_wt u) (hf_fl u) (hf_tw u) (hf_tp u) (hf_tn u) (hf_an u) (hf_co u) (hf_s1 u) (hf_s2 u)) rfl rfl (by omega) (by decide) rfl d_H_addThing_9 (fun H locs h => ?_)
  refine lv_aload_n C.1 C.2.1 d_H_addThing_10 rfl (lv_at hl 0 rfl) ?_
  refine sd_get C h 0 1 (v := .ref (q 2)) (ci := 1) (Cn := "StockDesk$House") (T := T_H) (N := 16) rfl rfl (by decide) in_H tb_82 rfl d_H_addThing_11 ?_
  refine lv_iload_n C.1 C.2.1 d_H_addThing_14 rfl (lv_at hl 1 rfl) ?_
  refine lv_aload_n C.1 C.2.1 d_H_addThing_15 rfl (lv_at hl 0 rfl) ?_
  refine sd_get C h 0 0 (v := .ref (q 1)) (ci := 1) (Cn := "StockDesk$House") (T := T_H) (N := 16) rfl rfl (by decide) in_H tb_81 rfl d_H_addThing_16 ?_
  refine lv_iload_n C.1 C.2.1 d_H_addThing_19 rfl (lv_at hl 1 rfl) ?_
  refine sd_iald C h 1 0 (i := k) rfl rfl (by omega) (by decide) d_H_addThing_20 ?_
  refine sd_top (v := .int ((upd (hf_md u) k (((hf_md u) k) + 1)) k)) (v' := .int (nI (n + 1))) (congrArg Value.int (by show (upd (hf_md u) k (((hf_md u) k) + 1)) k = nI (n + 1); rw [pk_us, hm]; exact nI_1 n)) ?_
  have h := sd_world h (ws' := ([]) ++ ([]) ++ (sd_Hx k3 q (upd (hf_md u) k (((hf_md u) k) + 1)) (hf_th u) (hf_us u) (hf_pk u) (hf_pb u) (hf_pf u) (hf_pw u) (hf_wt u) (hf_fl u) (hf_tw u) (hf_tp u) (hf_tn u) (hf_an u) (hf_co u) (hf_s1 u) (hf_s2 u))) (by simp only [List.append_assoc, List.nil_append, List.append_nil])
  refine sd_calli h (va_runS (As := [.int (nI k), .int (nI (n + 1))]) (rest := [.ref (q 2)]) C (k_H_slotOf l D k3 H.size k (n + 1) (by omega : 1 ≤ n + 1)) (sd_cwS 2 C.2.2.2.2 tb_173 tb_174 tb_23 tb_175 rfl rfl (by decide +kernel) ⟨Nat.le_of_ble_eq_true rfl, Nat.le_of_ble_eq_true rfl⟩) (sd_preS h) rfl rfl hl.1 rfl (lv_room (Nat.le_of_ble_eq_true rfl)) d_H_addThing_21 ⟨Nat.le_of_ble_eq_true rfl, Nat.le_of_ble_eq_true rfl⟩) (fun r w1 H locs hq h => ?_)
  obtain ⟨rfl, rfl⟩ := hq
  have h := sd_world h (ws' := sd_Hx k3 q (upd (hf_md u) k (((hf_md u) k) + 1)) (hf_th u) (hf_us u) (hf_pk u) (hf_pb u) (hf_pf u) (hf_pw u) (hf_wt u) (hf_fl u) (hf_tw u) (hf_tp u) (hf_tn u) (hf_an u) (hf_co u) (hf_s1 u) (hf_s2 u)) (by simp only [List.append_assoc, List.nil_append, List.append_nil])
  refine lv_iconst (v := 1) C.1 C.2.1 d_H_addThing_24 (by decide) ?_
  refine sd_zast C h 2 1 (i := (k * 9 + (n + 1) - 1)) (ws' := sd_Hx k3 q (upd (hf_md u) k (((hf_md u) k) + 1)) (upd (hf_th u) (k * 9 + (n + 1) - 1) 1) (hf_us u) (hf_pk u) (hf_pb u) (hf_pf u) (hf_pw u) (hf_wt u) (hf_fl u) (hf_tw u) (hf_tp u) (hf_tn u) (hf_an u) (hf_co u) (hf_s1 u) (hf_s2 u)) rfl rfl (by omega) (by decide) rfl rfl d_H_addThing_25 (fun H locs h => ?_)
  refine lv_aload_n C.1 C.2.1 d_H_addThing_26 rfl (lv_at hl 0 rfl) ?_
  refine sd_get C h 0 0 (v := .ref (q 1)) (ci := 1) (Cn := "StockDesk$House") (T := T_H) (N := 16) rfl rfl (by decide) in_H tb_81 rfl d_H_addThing_27 ?_
  refine lv_iload_n C.1 C.2.1 d_H_addThing_30 rfl (lv_at hl 1 rfl) ?_
  refine sd_iald C h 1 0 (i := k) rfl rfl (by omega) (by decide) d_H_addThing_31 ?_
  refine sd_top (v := .int ((upd (hf_md u) k (((hf_md u) k) + 1)) k)) (v' := .int (nI (n + 1))) (congrArg Value.int (by show (upd (hf_md u) k (((hf_md u) k) + 1)) k = nI (n + 1); rw [pk_us, hm]; exact nI_1 n)) ?_
  have h := sd_world h (ws' := sd_H k3 q (hd_make u k n)) (by simp only [sd_H, hd_make, hd_drop, hd_kind, hd_answer, hd_way, hd_tell, hd_work, hd_byte, hd_m, hd_ans, hf_md, hf_th, hf_us, hf_pk, hf_pb, hf_pf, hf_pw, hf_wt, hf_fl, hf_tw, hf_tp, hf_tn, hf_an, hf_co, hf_s1, hf_s2])
  exact sd_iret (v := nI (n + 1)) C hr hlk h ⟨rfl, rfl⟩ d_H_addThing_32

set_option maxHeartbeats 4000000 in
set_option maxRecDepth 100000 in
theorem k_H_answerCall (l : Launch) (D : va_G) (k3 : ClassId × ClassId × ClassId) (sz : Nat) (q : Nat → Nat) (u : sd_HS) (pt : Nat) (k : Nat) (j : Nat) (a : Int32) (hp : pt < 6) (hk : k < 5) (h1 : 1 ≤ j) (h9 : j ≤ 9) (hkp : hf_pk u pt = nI k) : Met l y_H_answerCall (sd_ws y_H_answerCall c_H_answerCall 6 (some FieldType.long)) ({ frames := 1, cells := 0, slots := 0, locals := 23 }) (sd_Pc D (sd_t3 k3) [.ref (q 0), .int (nI pt), .int (nI j), .int a] sz (sd_H k3 q u)) (sd_Ql D (sd_t3 k3) (va_A (sd_H k3 q u) sz) (fun r w => (hf_pw u pt = 0 ∧ r = hd_ans u pt (nI j) a ∧ w = sd_H k3 q (hd_work u pt k j a)) ∨ (¬ hf_pw u pt = 0 ∧ r = 0 ∧ w = sd_H k3 q (hd_tell u pt (nI j))))) 0 0 (va_A (sd_H k3 q u) sz) := by
  refine sd_met (cc := c_H_answerCall) (maxL := 6) (ret := some .long) (by decide) (Nat.le_of_ble_eq_true rfl) (fun p e s m below meth c C hr hlk hnm hsz h ls hl => ?_)
  generalize va_A (sd_H k3 q u) sz = A at h ⊢
  have hl : lv_has ls 6 [(0, .ref (q 0)), (1, .int (nI pt)), (2, .int (nI j)), (3, .int a)] := hl
  generalize hH : s.heap = H at h ⊢
  refine lv_aload_n C.1 C.2.1 d_H_answerCall_0 rfl (lv_at hl 0 rfl) ?_
  refine lv_iload_n C.1 C.2.1 d_H_answerCall_1 rfl (lv_at hl 1 rfl) ?_
  have h := sd_world h (ws' := ([]) ++ (sd_H k3 q u) ++ ([])) (by simp only [List.append_assoc, List.nil_append, List.append_nil])
  refine sd_calli h (va_runV (As := [.int (nI pt)]) (rest := []) C (k_H_isFailing l D k3 H.size q u pt hp) (sd_cwV 1 C.2.2.2.2 tb_321 tb_322 tb_323 tb_23 tb_324 rfl rfl (by decide +kernel) ⟨Nat.le_of_ble_eq_true rfl, Nat.le_of_ble_eq_true rfl⟩) (sd_preV h (q0 := 0) (T := T_H) (N := 16) rfl rfl) rfl rfl hl.1 rfl (lv_room (Nat.le_of_ble_eq_true rfl)) d_H_answerCall_2 ⟨Nat.le_of_ble_eq_true rfl, Nat.le_of_ble_eq_true rfl⟩) (fun r w1 H locs hq h => ?_)
  obtain ⟨rfl, rfl⟩ := hq
  have h := sd_world h (ws' := sd_H k3 q u) (by simp only [List.append_assoc, List.nil_append, List.append_nil])
  refine lv_if_eq (tgt := 16) C.1 C.2.1 d_H_answerCall_5 (by decide) (fun c5 => ?_) (fun c5 => ?_)
  · have hw : hf_pw u pt = 0 := Classical.byContradiction fun z => by rw [if_neg z] at c5; exact absurd c5 (by decide)
    refine lv_aload_n C.1 C.2.1 d_H_answerCall_16 rfl (lv_at hl 0 rfl) ?_
    refine lv_iload_n C.1 C.2.1 d_H_answerCall_17 rfl (lv_at hl 1 rfl) ?_
    refine lv_iload_n C.1 C.2.1 d_H_answerCall_18 rfl (lv_at hl 2 rfl) ?_
    refine lv_iload_n C.1 C.2.1 d_H_answerCall_19 rfl (lv_at hl 3 rfl) ?_
    have h := sd_world h (ws' := ([]) ++ (sd_H k3 q u) ++ ([])) (by simp only [List.append_assoc, List.nil_append, List.append_nil])
    refine sd_calll h (va_runV (As := [.int (nI pt), .int (nI j), .int a]) (rest := []) C (k_H_answerOf l D k3 H.size q u pt (nI j) a hp) (sd_cwV 3 C.2.2.2.2 tb_329 tb_330 tb_331 tb_23 tb_332 rfl rfl (by decide +kernel) ⟨Nat.le_of_ble_eq_true rfl, Nat.le_of_ble_eq_true rfl⟩) (sd_preV h (q0 := 0) (T := T_H) (N := 16) rfl rfl) rfl rfl hl.1 rfl (lv_room (Nat.le_of_ble_eq_true rfl)) d_H_answerCall_20 ⟨Nat.le_of_ble_eq_true rfl, Nat.le_of_ble_eq_true rfl⟩) (fun r w1 H locs hq h => ?_)
    obtain ⟨rfl, rfl⟩ := hq
    have h := sd_world h (ws' := sd_H k3 q u) (by simp only [List.append_assoc, List.nil_append, List.append_nil])
    refine lv_lstore (lv' := [(4, .long (hd_ans u pt (nI j) a)), (0, .ref (q 0)), (1, .int (nI pt)), (2, .int (nI j)), (3, .int a)]) C.1 C.2.1 d_H_answerCall_23 hl (by decide) rfl (fun ls hl => ?_)
    refine lv_aload_n C.1 C.2.1 d_H_answerCall_25 rfl (lv_at hl 1 rfl) ?_
    refine sd_get C h 0 2 (v := .ref (q 3)) (ci := 1) (Cn := "StockDesk$House") (T := T_H) (N := 16) rfl rfl (by decide) in_H tb_83 rfl d_H_answerCall_26 ?_
    refine lv_aload_n C.1 C.2.1 d_H_answerCall_29 rfl (lv_at hl 1 rfl) ?_
    refine sd_get C h 0 3 (v := .ref (q 4)) (ci := 1) (Cn := "StockDesk$House") (T := T_H) (N := 16) rfl rfl (by decide) in_H tb_84 rfl d_H_answerCall_30 ?_
    refine lv_iload_n C.1 C.2.1 d_H_answerCall_33 rfl (lv_at hl 2 rfl) ?_
    refine sd_iald C h 4 0 (i := pt) rfl rfl (by omega) (by decide) d_H_answerCall_34 ?_
    refine sd_top (v := .int ((hf_pk u) pt)) (v' := .int (nI k)) (congrArg Value.int (hkp)) ?_
    refine lv_iload_n C.1 C.2.1 d_H_answerCall_35 rfl (lv_at hl 3 rfl) ?_
    have h := sd_world h (ws' := ([]) ++ ([]) ++ (sd_H k3 q u)) (by simp only [List.append_assoc, List.nil_append, List.append_nil])
    refine sd_calli h (va_runS (As := [.int (nI k), .int (nI j)]) (rest := [.ref (q 3)]) C (k_H_slotOf l D k3 H.size k j h1) (sd_cwS 2 C.2.2.2.2 tb_173 tb_174 tb_23 tb_175 rfl rfl (by decide +kernel) ⟨Nat.le_of_ble_eq_true rfl, Nat.le_of_ble_eq_true rfl⟩) (sd_preS h) rfl rfl hl.1 rfl (lv_room (Nat.le_of_ble_eq_true rfl)) d_H_answerCall_36 ⟨Nat.le_of_ble_eq_true rfl, Nat.le_of_ble_eq_true rfl⟩) (fun r w1 H locs hq h => ?_)
    obtain ⟨rfl, rfl⟩ := hq
    have h := sd_world h (ws' := sd_H k3 q u) (by simp only [List.append_assoc, List.nil_append, List.append_nil])
    refine lv_dup2_11 C.1 C.2.1 d_H_answerCall_39 rfl rfl ?_
    refine sd_iald C h 3 0 (i := (k * 9 + j - 1)) rfl rfl (by omega) (by decide) d_H_answerCall_40 ?_
    refine lv_iconst (v := 1) C.1 C.2.1 d_H_answerCall_41 (by decide) ?_
    refine lv_iadd C.1 C.2.1 d_H_answerCall_42 ?_
    refine sd_iast C h 3 0 (i := (k * 9 + j - 1)) (ws' := sd_Hx k3 q (hf_md u) (hf_th u) (upd (hf_us u) (k * 9 + j - 1) (((hf_us u) (k * 9 + j - 1)) + 1)) (hf_pk u) (hf_pb u) (hf_pf u) (hf_pw u) (hf_wt u) (hf_fl u) (hf_tw u) (hf_tp u) (hf_tn u) (hf_an u) (hf_co u) (hf_s1 u) (hf_s2 u)) rfl rfl (by omega) (by decide) rfl d_H_answerCall_43 (fun H locs h => ?_)
    refine lv_aload_n C.1 C.2.1 d_H_answerCall_44 rfl (lv_at hl 1 rfl) ?_
    refine sd_get C h 0 7 (v := .ref (q 8)) (ci := 1) (Cn := "StockDesk$House") (T := T_H) (N := 16) rfl rfl (by decide) in_H tb_88 rfl d_H_answerCall_45 ?_
    refine lv_iload_n C.1 C.2.1 d_H_answerCall_48 rfl (lv_at hl 2 rfl) ?_
    refine lv_dup2_11 C.1 C.2.1 d_H_answerCall_49 rfl rfl ?_
    refine sd_lald C h 8 2 (i := pt) rfl rfl (by omega) (by decide) d_H_answerCall_50 ?_
    refine lv_iload_n C.1 C.2.1 d_H_answerCall_51 rfl (lv_at hl 4 rfl) ?_
    refine lv_i2l (v := a.toInt64) C.1 C.2.1 d_H_answerCall_52 rfl ?_
    refine lv_ladd C.1 C.2.1 d_H_answerCall_53 ?_
    refine sd_last C h 8 2 (i := pt) (ws' := sd_Hx k3 q (hf_md u) (hf_th u) (upd (hf_us u) (k * 9 + j - 1) (((hf_us u) (k * 9 + j - 1)) + 1)) (hf_pk u) (hf_pb u) (hf_pf u) (hf_pw u) (vp_updL (hf_wt u) pt (((hf_wt u) pt) + a.toInt64)) (hf_fl u) (hf_tw u) (hf_tp u) (hf_tn u) (hf_an u) (hf_co u) (hf_s1 u) (hf_s2 u)) rfl rfl (by omega) (by decide) rfl d_H_answerCall_54 (fun H locs h => ?_)
    refine lv_aload_n C.1 C.2.1 d_H_answerCall_55 rfl (lv_at hl 1 rfl) ?_
    refine lv_dup C.1 C.2.1 d_H_answerCall_56 rfl ?_
    refine sd_get C h 0 12 (v := .int (hf_an u)) (ci := 1) (Cn := "StockDesk$House") (T := T_H) (N := 16) rfl rfl (by decide) in_H tb_97 rfl d_H_answerCall_57 ?_
    refine lv_iconst (v := 1) C.1 C.2.1 d_H_answerCall_60 (by decide) ?_
    refine lv_iadd C.1 C.2.1 d_H_answerCall_61 ?_
    refine sd_put C h 0 12 (v := .int ((hf_an u) + 1)) (ci := 1) (Cn := "StockDesk$House") (T := T_H) (N := 16) (ty0 := ty_H) (ws' := sd_Hx k3 q (hf_md u) (hf_th u) (upd (hf_us u) (k * 9 + j - 1) (((hf_us u) (k * 9 + j - 1)) + 1)) (hf_pk u) (hf_pb u) (hf_pf u) (hf_pw u) (vp_updL (hf_wt u) pt (((hf_wt u) pt) + a.toInt64)) (hf_fl u) (hf_tw u) (hf_tp u) (hf_tn u) ((hf_an u) + 1) (hf_co u) (hf_s1 u) (hf_s2 u)) rfl rfl (by decide) in_H tyok_H nm_H tb_97 rfl rfl rfl rfl (Nat.le_of_ble_eq_true rfl) rfl d_H_answerCall_62 (fun H locs h => ?_)
    refine lv_lload C.1 C.2.1 d_H_answerCall_65 (lv_at hl 0 rfl) ?_
    have h := sd_world h (ws' := sd_H k3 q (hd_work u pt k j a)) (by simp only [sd_H, hd_make, hd_drop, hd_kind, hd_answer, hd_way, hd_tell, hd_work, hd_byte, hd_m, hd_ans, hf_md, hf_th, hf_us, hf_pk, hf_pb, hf_pf, hf_pw, hf_wt, hf_fl, hf_tw, hf_tp, hf_tn, hf_an, hf_co, hf_s1, hf_s2])
    exact sd_lret (v := hd_ans u pt (nI j) a) C hr hlk h (Or.inl ⟨hw, rfl, rfl⟩) d_H_answerCall_67
  · have hw : ¬ hf_pw u pt = 0 := fun z => c5 (if_pos z)
    refine lv_aload_n C.1 C.2.1 d_H_answerCall_8 rfl (lv_at hl 0 rfl) ?_
    refine lv_iload_n C.1 C.2.1 d_H_answerCall_9 rfl (lv_at hl 1 rfl) ?_
    refine lv_iload_n C.1 C.2.1 d_H_answerCall_10 rfl (lv_at hl 2 rfl) ?_
    have h := sd_world h (ws' := ([]) ++ (sd_H k3 q u) ++ ([])) (by simp only [List.append_assoc, List.nil_append, List.append_nil])
    refine sd_callv h (va_runV (As := [.int (nI pt), .int (nI j)]) (rest := []) C (k_H_tellFailure l D k3 H.size q u pt (nI j) hp) (sd_cwV 2 C.2.2.2.2 tb_325 tb_327 tb_11 tb_23 tb_328 rfl rfl (by decide +kernel) ⟨Nat.le_of_ble_eq_true rfl, Nat.le_of_ble_eq_true rfl⟩) (sd_preV h (q0 := 0) (T := T_H) (N := 16) rfl rfl) rfl rfl hl.1 rfl (lv_room (Nat.le_of_ble_eq_true rfl)) d_H_answerCall_11 ⟨Nat.le_of_ble_eq_true rfl, Nat.le_of_ble_eq_true rfl⟩) (fun w1 H locs hq h => ?_)
    obtain rfl := hq
    have h := sd_world h (ws' := sd_H k3 q (hd_tell u pt (nI j))) (by simp only [List.append_assoc, List.nil_append, List.append_nil])
    refine lv_lconst (v := 0) C.1 C.2.1 d_H_answerCall_14 (by decide) ?_
    exact sd_lret (v := 0) C hr hlk h (Or.inr ⟨hw, rfl, rfl⟩) d_H_answerCall_15
