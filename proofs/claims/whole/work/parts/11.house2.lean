/-! clearing; the acts as a step; doing them in a row -/
def hd_z (f : Nat → Int32) : Nat → (Nat → Int32)
  | 0 => f
  | n + 1 => upd (hd_z f n) n 0
def hd_zk (f : Nat → Int32) : Nat → (Nat → Int32)
  | 0 => f
  | n + 1 => upd (hd_zk f n) n (nI (n % 5))
def hd_zl (f : Nat → Int64) : Nat → (Nat → Int64)
  | 0 => f
  | n + 1 => vp_updL (hd_zl f n) n 0
theorem hd_z_lt (f : Nat → Int32) (n i : Nat) (h : i < n) : hd_z f n i = 0 := by
  induction n with
  | zero => omega
  | succ n ih =>
    simp only [hd_z, upd]
    split
    · rfl
    · exact ih (by omega)
theorem hd_zk_lt (f : Nat → Int32) (n i : Nat) (h : i < n) : hd_zk f n i = nI (i % 5) := by
  induction n with
  | zero => omega
  | succ n ih =>
    simp only [hd_zk, upd]
    split
    · next e => rw [e]
    · exact ih (by omega)
theorem hd_zl_lt (f : Nat → Int64) (n i : Nat) (h : i < n) : hd_zl f n i = 0 := by
  induction n with
  | zero => omega
  | succ n ih =>
    simp only [hd_zl, vp_updL]
    split
    · rfl
    · exact ih (by omega)
def hd_cT (u : sd_HS) : sd_HS := (hd_z (hf_md u) 5, hd_z (hf_th u) 45, hd_z (hf_us u) 45, hf_pk u, hf_pb u, hf_pf u, hf_pw u, hf_wt u, hf_fl u, hf_tw u, hf_tp u, hf_tn u, hf_an u, hf_co u, hf_s1 u, hf_s2 u)
def hd_cP (u : sd_HS) : sd_HS := (hf_md u, hf_th u, hf_us u, hd_zk (hf_pk u) 6, hd_z (hf_pb u) 6, hd_z (hf_pf u) 6, hd_z (hf_pw u) 6, hd_zl (hf_wt u) 6, hf_fl u, hf_tw u, hf_tp u, hf_tn u, hf_an u, hf_co u, hf_s1 u, hf_s2 u)
/-- a house at its start -/
def sd_h0 : sd_HS := (fun _ => 0, fun _ => 0, fun _ => 0, fun i => nI (i % 5), fun _ => 0, fun _ => 0, fun _ => 0, fun _ => 0, 0, 0, -1, -1, 0, 0, 1, 0)
def sd_z0 : sd_HS := (fun _ => 0, fun _ => 0, fun _ => 0, fun _ => 0, fun _ => 0, fun _ => 0, fun _ => 0, fun _ => 0, 0, 0, 0, 0, 0, 0, 0, 0)
def hd_cl (u : sd_HS) : sd_HS := (hd_z (hf_md u) 5, hd_z (hf_th u) 45, hd_z (hf_us u) 45, hd_zk (hf_pk u) 6, hd_z (hf_pb u) 6, hd_z (hf_pf u) 6, hd_z (hf_pw u) 6, hd_zl (hf_wt u) 6, 0, 0, -1, -1, 0, 0, 1, 0)
theorem hd_cl_eq (u : sd_HS) : sd_heq (hd_cl u) sd_h0 :=
  ⟨fun i h => hd_z_lt _ _ _ h, fun i h => hd_z_lt _ _ _ h, fun i h => hd_z_lt _ _ _ h, fun i h => hd_zk_lt _ _ _ h, fun i h => hd_z_lt _ _ _ h, fun i h => hd_z_lt _ _ _ h, fun i h => hd_z_lt _ _ _ h, fun i h => hd_zl_lt _ _ _ h, rfl, rfl, rfl, rfl, rfl, rfl, rfl, rfl⟩
/-- things there of the first kinds; mn: how many were made -/
def hd_all (f : Nat → Int32) (mn : Nat → Nat) : Nat → Nat
  | 0 => 0
  | k + 1 => hd_all f mn k + hd_cnt f k (mn k)
def sd_q9 (h0 a1 a2 a3 a4 a5 a6 a7 a8 : Nat) : Nat → Nat := fun i => match i with
  | 0 => h0 | 1 => a1 | 2 => a2 | 3 => a3 | 4 => a4 | 5 => a5 | 6 => a6 | 7 => a7 | _ => a8
def sd_q5 (h0 a1 a2 a3 a4 : Nat) : Nat → Nat := fun i => match i with
  | 0 => h0 | 1 => a1 | 2 => a2 | 3 => a3 | _ => a4
/-- what an act (its sort, three numbers) does to a house, and answers -/
def sd_do (u : sd_HS) (a x y z : Int32) : sd_HS :=
  if a = 0 then hd_make u x.toNatClampNeg (hf_md u x.toNatClampNeg).toNatClampNeg
  else if a = 1 then hd_drop u x.toNatClampNeg y.toNatClampNeg
  else if a = 2 then hd_kind u x.toNatClampNeg y
  else if a = 3 then hd_answer u x.toNatClampNeg y z
  else if a = 4 then hd_way u x.toNatClampNeg y
  else if a = 5 then (if hf_pw u x.toNatClampNeg = 0 then hd_work u x.toNatClampNeg (hf_pk u x.toNatClampNeg).toNatClampNeg y.toNatClampNeg z else hd_tell u x.toNatClampNeg y)
  else hd_byte u x
def sd_an (u : sd_HS) (a x y z : Int32) : Int64 :=
  if a = 0 then (hf_md u x.toNatClampNeg + 1).toInt64
  else if a = 1 then (hf_us u (x.toNatClampNeg * 9 + y.toNatClampNeg - 1)).toInt64
  else if a = 2 then (hf_pk u x.toNatClampNeg).toInt64
  else if a = 3 then (0 : Int32).toInt64
  else if a = 4 then (hf_pw u x.toNatClampNeg).toInt64
  else if a = 5 then (if hf_pw u x.toNatClampNeg = 0 then hd_ans u x.toNatClampNeg y z else 0)
  else (hf_co u + 1).toInt64
/-- its numbers are in range, in this house -/
def sd_ok (u : sd_HS) (a x y : Int32) : Prop :=
  (a = 0 ∧ ∃ k n, k < 5 ∧ n < 9 ∧ x = nI k ∧ hf_md u k = nI n) ∨
  (a = 1 ∧ ∃ k j, k < 5 ∧ 1 ≤ j ∧ j ≤ 9 ∧ x = nI k ∧ y = nI j) ∨
  (a = 2 ∧ ∃ pt k, pt < 6 ∧ k < 5 ∧ x = nI pt ∧ y = nI k) ∨
  (a = 3 ∧ ∃ pt, pt < 6 ∧ x = nI pt) ∨
  (a = 4 ∧ ∃ pt, pt < 6 ∧ x = nI pt ∧ ¬ y < 0) ∨
  (a = 5 ∧ ∃ pt k j, pt < 6 ∧ k < 5 ∧ 1 ≤ j ∧ j ≤ 9 ∧ x = nI pt ∧ y = nI j ∧ hf_pk u pt = nI k ∧ ¬ hf_th u (k * 9 + j - 1) = 0) ∨
  a = 6
theorem sd_cl5 {k : Nat} (h : k < 9) : (nI k).toNatClampNeg = k := nI_clamp (by omega)
theorem sd_cl10 {k : Nat} (h : k ≤ 9) : (nI k).toNatClampNeg = k := nI_clamp (by omega)
/-- the house behind the first i acts of a row -/
def sd_run (f0 f1 f2 f3 : Nat → Int32) : Nat → sd_HS
  | 0 => sd_h0
  | i + 1 => sd_do (sd_run f0 f1 f2 f3 i) (f0 i) (f1 i) (f2 i) (f3 i)
set_option maxHeartbeats 4000000 in
set_option maxRecDepth 100000 in
theorem k_H_thereOf (l : Launch) (D : va_G) (k3 : ClassId × ClassId × ClassId) (sz : Nat) (q : Nat → Nat) (u : sd_HS) (k : Nat) (n : Nat) (hk : k < 5) (hn : n ≤ 9) (hm : hf_md u k = nI n) : Met l y_H_thereOf (sd_ws y_H_thereOf c_H_thereOf 4 (some FieldType.int)) ({ frames := 1, cells := 0, slots := 0, locals := 21 }) (sd_Pc D (sd_t3 k3) [.ref (q 0), .int (nI k)] sz (sd_H k3 q u)) (sd_Qi D (sd_t3 k3) (va_A (sd_H k3 q u) sz) (fun r w => r = nI (hd_cnt (hf_th u) k n) ∧ w = sd_H k3 q u)) 0 0 (va_A (sd_H k3 q u) sz) := by
  refine sd_met (cc := c_H_thereOf) (maxL := 4) (ret := some .int) (by decide) (Nat.le_of_ble_eq_true rfl) (fun p e s m below meth c C hr hlk hnm hsz h ls hl => ?_)
  generalize va_A (sd_H k3 q u) sz = A at h ⊢
  have hl : lv_has ls 4 [(0, .ref (q 0)), (1, .int (nI k))] := hl
  generalize hH : s.heap = H at h ⊢
  refine lv_iconst (v := 0) C.1 C.2.1 d_H_thereOf_0 (by decide) ?_
  refine lv_istore_n (lv' := [(2, .int 0), (0, .ref (q 0)), (1, .int (nI k))]) C.1 C.2.1 d_H_thereOf_1 rfl hl (by decide) rfl (fun ls hl => ?_)
  refine lv_iconst (v := 1) C.1 C.2.1 d_H_thereOf_2 (by decide) ?_
  refine lv_istore_n (lv' := [(3, .int 1), (2, .int 0), (0, .ref (q 0)), (1, .int (nI k))]) C.1 C.2.1 d_H_thereOf_3 rfl hl (by decide) rfl (fun ls hl => ?_)
  have loop : ∀ (d i : Nat), i + d = n → ∀ (H : Heap) (locs : List Loc) (ls : Array Slot), sd_w D A s (sd_t3 k3) (sd_H k3 q u) H locs → lv_has ls 4 [(0, .ref (q 0)), (1, .int (nI k)), (2, .int (nI (hd_cnt (hf_th u) k i))), (3, .int (nI (i + 1)))] → W p l e ({ frames := 1, cells := 0, slots := 0, locals := 21 }) s m [.ref (q 0), .int (nI k)].toArray below meth c H locs 0 0 (MQ below (sd_Qi D (sd_t3 k3) (A) (fun r w => r = nI (hd_cnt (hf_th u) k n) ∧ w = sd_H k3 q u)) [.ref (q 0), .int (nI k)].toArray s 0 0 A) (F0 m 4 ls []) := by
    intro d
    induction d with
    | zero =>
      intro i hi H locs ls h hl
      have hi : n = i := by omega
      subst hi
      refine lv_iload_n C.1 C.2.1 d_H_thereOf_4 rfl (lv_at hl 3 rfl) ?_
      refine lv_aload_n C.1 C.2.1 d_H_thereOf_5 rfl (lv_at hl 0 rfl) ?_
      refine sd_get C h 0 0 (v := .ref (q 1)) (ci := 1) (Cn := "StockDesk$House") (T := T_H) (N := 16) rfl rfl (by decide) in_H tb_81 rfl d_H_thereOf_6 ?_
      refine lv_iload_n C.1 C.2.1 d_H_thereOf_9 rfl (lv_at hl 1 rfl) ?_
      refine sd_iald C h 1 0 (i := k) rfl rfl (by omega) (by decide) d_H_thereOf_10 ?_
      refine sd_top (v := .int ((hf_md u) k)) (v' := .int (nI n)) (congrArg Value.int (hm)) ?_
      refine lv_icmp_gt (tgt := 36) C.1 C.2.1 d_H_thereOf_11 (by decide) (fun c11 => ?_) (fun c11 => ?_)
      · refine lv_iload_n C.1 C.2.1 d_H_thereOf_36 rfl (lv_at hl 2 rfl) ?_
        exact sd_iret (v := nI (hd_cnt (hf_th u) k n)) C hr hlk h ⟨rfl, rfl⟩ d_H_thereOf_37
      · exact absurd (nI_lt (a := n) (b := n + 1) (by omega) (by omega)) c11
    | succ d ih =>
      intro i hi H locs ls h hl
      refine lv_iload_n C.1 C.2.1 d_H_thereOf_4 rfl (lv_at hl 3 rfl) ?_
      refine lv_aload_n C.1 C.2.1 d_H_thereOf_5 rfl (lv_at hl 0 rfl) ?_
      refine sd_get C h 0 0 (v := .ref (q 1)) (ci := 1) (Cn := "StockDesk$House") (T := T_H) (N := 16) rfl rfl (by decide) in_H tb_81 rfl d_H_thereOf_6 ?_
      refine lv_iload_n C.1 C.2.1 d_H_thereOf_9 rfl (lv_at hl 1 rfl) ?_
      refine sd_iald C h 1 0 (i := k) rfl rfl (by omega) (by decide) d_H_thereOf_10 ?_
      refine sd_top (v := .int ((hf_md u) k)) (v' := .int (nI n)) (congrArg Value.int (hm)) ?_
      refine lv_icmp_gt (tgt := 36) C.1 C.2.1 d_H_thereOf_11 (by decide) (fun c11 => ?_) (fun c11 => ?_)
      · exact absurd c11 (nI_nlt (by omega) (by omega))
      · refine lv_aload_n C.1 C.2.1 d_H_thereOf_14 rfl (lv_at hl 0 rfl) ?_
        refine sd_get C h 0 1 (v := .ref (q 2)) (ci := 1) (Cn := "StockDesk$House") (T := T_H) (N := 16) rfl rfl (by decide) in_H tb_82 rfl d_H_thereOf_15 ?_
        refine lv_iload_n C.1 C.2.1 d_H_thereOf_18 rfl (lv_at hl 1 rfl) ?_
        refine lv_iload_n C.1 C.2.1 d_H_thereOf_19 rfl (lv_at hl 3 rfl) ?_
        have h := sd_world h (ws' := ([]) ++ ([]) ++ (sd_H k3 q u)) (by simp only [List.append_assoc, List.nil_append, List.append_nil])
        refine sd_calli h (va_runS (As := [.int (nI k), .int (nI (i + 1))]) (rest := [.ref (q 2)]) C (k_H_slotOf l D k3 H.size k (i + 1) (by omega : 1 ≤ i + 1)) (sd_cwS 2 C.2.2.2.2 tb_173 tb_174 tb_23 tb_175 rfl rfl (by decide +kernel) ⟨Nat.le_of_ble_eq_true rfl, Nat.le_of_ble_eq_true rfl⟩) (sd_preS h) rfl rfl hl.1 rfl (lv_room (Nat.le_of_ble_eq_true rfl)) d_H_thereOf_20 ⟨Nat.le_of_ble_eq_true rfl, Nat.le_of_ble_eq_true rfl⟩) (fun r w1 H locs hq h => ?_)
        obtain ⟨rfl, rfl⟩ := hq
        have h := sd_world h (ws' := sd_H k3 q u) (by simp only [List.append_assoc, List.nil_append, List.append_nil])
        refine sd_zald C h 2 1 (i := (k * 9 + (i + 1) - 1)) rfl rfl (by omega) (by decide) d_H_thereOf_23 ?_
        refine lv_if_eq (tgt := 30) C.1 C.2.1 d_H_thereOf_24 (by decide) (fun c24 => ?_) (fun c24 => ?_)
        · refine lv_iinc (v := nI ((i + 1) + 1)) (lv' := [(3, .int (nI ((i + 1) + 1))), (0, .ref (q 0)), (1, .int (nI k)), (2, .int (nI (hd_cnt (hf_th u) k i)))]) C.1 C.2.1 d_H_thereOf_30 hl (k := 3) rfl (nI_1 (i + 1)) (by decide) rfl (fun ls hl => ?_)
          refine lv_goto (tgt := 4) C.1 C.2.1 d_H_thereOf_33 (by decide) ?_
          have e9 : hd_cnt (hf_th u) k (i + 1) = hd_cnt (hf_th u) k i := by simp only [hd_cnt]; rw [if_pos c24]; rfl
          exact ih (i + 1) (by omega) _ _ _ h (by rw [e9]; exact lv_sub hl [1, 2, 3, 0] rfl)
        · refine lv_iinc (v := nI ((hd_cnt (hf_th u) k i) + 1)) (lv' := [(2, .int (nI ((hd_cnt (hf_th u) k i) + 1))), (0, .ref (q 0)), (1, .int (nI k)), (3, .int (nI (i + 1)))]) C.1 C.2.1 d_H_thereOf_27 hl (k := 2) rfl (nI_1 (hd_cnt (hf_th u) k i)) (by decide) rfl (fun ls hl => ?_)
          refine lv_iinc (v := nI ((i + 1) + 1)) (lv' := [(3, .int (nI ((i + 1) + 1))), (2, .int (nI ((hd_cnt (hf_th u) k i) + 1))), (0, .ref (q 0)), (1, .int (nI k))]) C.1 C.2.1 d_H_thereOf_30 hl (k := 3) rfl (nI_1 (i + 1)) (by decide) rfl (fun ls hl => ?_)
          refine lv_goto (tgt := 4) C.1 C.2.1 d_H_thereOf_33 (by decide) ?_
          have e9 : hd_cnt (hf_th u) k (i + 1) = hd_cnt (hf_th u) k i + 1 := by simp only [hd_cnt]; rw [if_neg c24]
          exact ih (i + 1) (by omega) _ _ _ h (by rw [e9]; exact lv_sub hl [2, 3, 1, 0] rfl)
  exact loop (n - 0) 0 (by omega) _ _ _ h (lv_sub hl [2, 3, 1, 0] rfl)

set_option maxHeartbeats 4000000 in
set_option maxRecDepth 100000 in
theorem k_H_thereOfAll (l : Launch) (D : va_G) (k3 : ClassId × ClassId × ClassId) (sz : Nat) (q : Nat → Nat) (u : sd_HS) (mn : Nat → Nat) (hmn : ∀ k, k < 5 → mn k ≤ 9 ∧ hf_md u k = nI (mn k)) : Met l y_H_thereOfAll (sd_ws y_H_thereOfAll c_H_thereOfAll 3 (some FieldType.int)) ({ frames := 2, cells := 0, slots := 0, locals := 44 }) (sd_Pc D (sd_t3 k3) [.ref (q 0)] sz (sd_H k3 q u)) (sd_Qi D (sd_t3 k3) (va_A (sd_H k3 q u) sz) (fun r w => r = nI (hd_all (hf_th u) mn 5) ∧ w = sd_H k3 q u)) 0 0 (va_A (sd_H k3 q u) sz) := by
  refine sd_met (cc := c_H_thereOfAll) (maxL := 3) (ret := some .int) (by decide) (Nat.le_of_ble_eq_true rfl) (fun p e s m below meth c C hr hlk hnm hsz h ls hl => ?_)
  generalize va_A (sd_H k3 q u) sz = A at h ⊢
  have hl : lv_has ls 3 [(0, .ref (q 0))] := hl
  generalize hH : s.heap = H at h ⊢
  refine lv_iconst (v := 0) C.1 C.2.1 d_H_thereOfAll_0 (by decide) ?_
  refine lv_istore_n (lv' := [(1, .int 0), (0, .ref (q 0))]) C.1 C.2.1 d_H_thereOfAll_1 rfl hl (by decide) rfl (fun ls hl => ?_)
  refine lv_iconst (v := 0) C.1 C.2.1 d_H_thereOfAll_2 (by decide) ?_
  refine lv_istore_n (lv' := [(2, .int 0), (1, .int 0), (0, .ref (q 0))]) C.1 C.2.1 d_H_thereOfAll_3 rfl hl (by decide) rfl (fun ls hl => ?_)
  have loop : ∀ (d i : Nat), i + d = 5 → ∀ (H : Heap) (locs : List Loc) (ls : Array Slot), sd_w D A s (sd_t3 k3) (sd_H k3 q u) H locs → lv_has ls 3 [(0, .ref (q 0)), (1, .int (nI (hd_all (hf_th u) mn i))), (2, .int (nI i))] → W p l e ({ frames := 2, cells := 0, slots := 0, locals := 44 }) s m [.ref (q 0)].toArray below meth c H locs 0 0 (MQ below (sd_Qi D (sd_t3 k3) (A) (fun r w => r = nI (hd_all (hf_th u) mn 5) ∧ w = sd_H k3 q u)) [.ref (q 0)].toArray s 0 0 A) (F0 m 4 ls []) := by
    intro d
    induction d with
    | zero =>
      intro i hi H locs ls h hl
      have hi : 5 = i := by omega
      subst hi
      refine lv_iload_n C.1 C.2.1 d_H_thereOfAll_4 rfl (lv_at hl 2 rfl) ?_
      refine lv_iconst (v := 5) C.1 C.2.1 d_H_thereOfAll_5 (by decide) ?_
      refine lv_icmp_ge (tgt := 23) C.1 C.2.1 d_H_thereOfAll_6 (by decide) (fun c6 => ?_) (fun c6 => ?_)
      · refine lv_iload_n C.1 C.2.1 d_H_thereOfAll_23 rfl (lv_at hl 1 rfl) ?_
        exact sd_iret (v := nI (hd_all (hf_th u) mn 5)) C hr hlk h ⟨rfl, rfl⟩ d_H_thereOfAll_24
      · exact absurd (nI_le (a := 5) (b := 5) (by omega) (by decide)) c6
    | succ d ih =>
      intro i hi H locs ls h hl
      refine lv_iload_n C.1 C.2.1 d_H_thereOfAll_4 rfl (lv_at hl 2 rfl) ?_
      refine lv_iconst (v := 5) C.1 C.2.1 d_H_thereOfAll_5 (by decide) ?_
      refine lv_icmp_ge (tgt := 23) C.1 C.2.1 d_H_thereOfAll_6 (by decide) (fun c6 => ?_) (fun c6 => ?_)
      · exact absurd c6 (nI_ge (a := i) (b := 5) (by omega) (by decide))
      · refine lv_iload_n C.1 C.2.1 d_H_thereOfAll_9 rfl (lv_at hl 1 rfl) ?_
        refine lv_aload_n C.1 C.2.1 d_H_thereOfAll_10 rfl (lv_at hl 0 rfl) ?_
        refine lv_iload_n C.1 C.2.1 d_H_thereOfAll_11 rfl (lv_at hl 2 rfl) ?_
        have h := sd_world h (ws' := ([]) ++ (sd_H k3 q u) ++ ([])) (by simp only [List.append_assoc, List.nil_append, List.append_nil])
        refine sd_calli h (va_runV (As := [.int (nI i)]) (rest := [.int (nI (hd_all (hf_th u) mn i))]) C (k_H_thereOf l D k3 H.size q u i (mn i) (by omega : i < 5) ((hmn i (by omega)).1) ((hmn i (by omega)).2)) (sd_cwV 1 C.2.2.2.2 tb_169 tb_170 tb_171 tb_23 tb_172 rfl rfl (by decide +kernel) ⟨Nat.le_of_ble_eq_true rfl, Nat.le_of_ble_eq_true rfl⟩) (sd_preV h (q0 := 0) (T := T_H) (N := 16) rfl rfl) rfl rfl hl.1 rfl (lv_room (Nat.le_of_ble_eq_true rfl)) d_H_thereOfAll_12 ⟨Nat.le_of_ble_eq_true rfl, Nat.le_of_ble_eq_true rfl⟩) (fun r w1 H locs hq h => ?_)
        obtain ⟨rfl, rfl⟩ := hq
        have h := sd_world h (ws' := sd_H k3 q u) (by simp only [List.append_assoc, List.nil_append, List.append_nil])
        refine lv_iadd C.1 C.2.1 d_H_thereOfAll_15 ?_
        refine sd_top (v := .int ((nI (hd_all (hf_th u) mn i)) + (nI (hd_cnt (hf_th u) i (mn i))))) (v' := .int (nI (hd_all (hf_th u) mn i + hd_cnt (hf_th u) i (mn i)))) (congrArg Value.int (nI_add _ _)) ?_
        refine lv_istore_n (lv' := [(1, .int (nI (hd_all (hf_th u) mn i + hd_cnt (hf_th u) i (mn i)))), (0, .ref (q 0)), (2, .int (nI i))]) C.1 C.2.1 d_H_thereOfAll_16 rfl hl (by decide) rfl (fun ls hl => ?_)
        refine lv_iinc (v := nI (i + 1)) (lv' := [(2, .int (nI (i + 1))), (1, .int (nI (hd_all (hf_th u) mn i + hd_cnt (hf_th u) i (mn i)))), (0, .ref (q 0))]) C.1 C.2.1 d_H_thereOfAll_17 hl (k := 2) rfl (nI_1 i) (by decide) rfl (fun ls hl => ?_)
        refine lv_goto (tgt := 4) C.1 C.2.1 d_H_thereOfAll_20 (by decide) ?_
        exact ih (i + 1) (by omega) _ _ _ h (lv_sub hl [2, 1, 0] rfl)
  exact loop (5 - 0) 0 (by omega) _ _ _ h (lv_sub hl [2, 1, 0] rfl)

set_option maxHeartbeats 4000000 in
set_option maxRecDepth 100000 in
theorem k_H_perform (l : Launch) (D : va_G) (k3 : ClassId × ClassId × ClassId) (sz : Nat) (q : Nat → Nat) (u : sd_HS) (a : Int32) (x : Int32) (y : Int32) (z : Int32) (hok : sd_ok u a x y) : Met l y_H_perform (sd_ws y_H_perform c_H_perform 5 (some FieldType.long)) ({ frames := 2, cells := 0, slots := 0, locals := 48 }) (sd_Pc D (sd_t3 k3) [.ref (q 0), .int a, .int x, .int y, .int z] sz (sd_H k3 q u)) (sd_Ql D (sd_t3 k3) (va_A (sd_H k3 q u) sz) (fun r w => r = sd_an u a x y z ∧ w = sd_H k3 q (sd_do u a x y z))) 0 0 (va_A (sd_H k3 q u) sz) := by
  refine sd_met (cc := c_H_perform) (maxL := 5) (ret := some .long) (by decide) (Nat.le_of_ble_eq_true rfl) (fun p e s m below meth c C hr hlk hnm hsz h ls hl => ?_)
  generalize va_A (sd_H k3 q u) sz = A at h ⊢
  have hl : lv_has ls 5 [(0, .ref (q 0)), (1, .int a), (2, .int x), (3, .int y), (4, .int z)] := hl
  generalize hH : s.heap = H at h ⊢
  rcases hok with ⟨rfl, k, n, hk, hn, rfl, hm⟩ | ⟨rfl, k, j, hk, h1, h9, rfl, rfl⟩ | ⟨rfl, pt, k, hp, hk, rfl, rfl⟩ | ⟨rfl, pt, hp, rfl⟩ | ⟨rfl, pt, hp, rfl, hy0⟩ | ⟨rfl, pt, k, j, hp, hk, h1, h9, rfl, rfl, hkp, hth⟩ | rfl
  · have hl : lv_has ls 5 [(0, .ref (q 0)), (1, .int 0), (2, .int (nI k)), (3, .int y), (4, .int z)] := hl
    refine lv_iload_n C.1 C.2.1 d_H_perform_0 rfl (lv_at hl 1 rfl) ?_
    refine lv_tableIn C.1 C.2.1 d_H_perform_1 (off := 43) (tgt := 44) (by decide) (by decide) (by decide) (by decide) ?_
    refine lv_aload_n C.1 C.2.1 d_H_perform_44 rfl (lv_at hl 0 rfl) ?_
    refine lv_iload_n C.1 C.2.1 d_H_perform_45 rfl (lv_at hl 2 rfl) ?_
    have h := sd_world h (ws' := ([]) ++ (sd_H k3 q u) ++ ([])) (by simp only [List.append_assoc, List.nil_append, List.append_nil])
    refine sd_calli h (va_runV (As := [.int (nI k)]) (rest := []) C (k_H_addThing l D k3 H.size q u k n hk hn hm) (sd_cwV 1 C.2.2.2.2 tb_297 tb_299 tb_5 tb_23 tb_300 rfl rfl (by decide +kernel) ⟨Nat.le_of_ble_eq_true rfl, Nat.le_of_ble_eq_true rfl⟩) (sd_preV h (q0 := 0) (T := T_H) (N := 16) rfl rfl) rfl rfl hl.1 rfl (lv_room (Nat.le_of_ble_eq_true rfl)) d_H_perform_46 ⟨Nat.le_of_ble_eq_true rfl, Nat.le_of_ble_eq_true rfl⟩) (fun r w1 H locs hq h => ?_)
    obtain ⟨rfl, rfl⟩ := hq
    have h := sd_world h (ws' := sd_H k3 q (hd_make u k n)) (by simp only [List.append_assoc, List.nil_append, List.append_nil])
    refine lv_i2l (v := (nI (n + 1)).toInt64) C.1 C.2.1 d_H_perform_49 rfl ?_
    exact sd_lret (v := (nI (n + 1)).toInt64) C hr hlk h ⟨by simp only [sd_an, sd_cl5 (show k < 9 by omega), hm, nI_1, if_true], by simp only [sd_do, sd_cl5 (show k < 9 by omega), hm, sd_cl5 hn, if_true]⟩ d_H_perform_50
  · have hl : lv_has ls 5 [(0, .ref (q 0)), (1, .int 1), (2, .int (nI k)), (3, .int (nI j)), (4, .int z)] := hl
    refine lv_iload_n C.1 C.2.1 d_H_perform_0 rfl (lv_at hl 1 rfl) ?_
    refine lv_tableIn C.1 C.2.1 d_H_perform_1 (off := 50) (tgt := 51) (by decide) (by decide) (by decide) (by decide) ?_
    refine lv_aload_n C.1 C.2.1 d_H_perform_51 rfl (lv_at hl 0 rfl) ?_
    refine lv_iload_n C.1 C.2.1 d_H_perform_52 rfl (lv_at hl 2 rfl) ?_
    refine lv_iload_n C.1 C.2.1 d_H_perform_53 rfl (lv_at hl 3 rfl) ?_
    have h := sd_world h (ws' := ([]) ++ (sd_H k3 q u) ++ ([])) (by simp only [List.append_assoc, List.nil_append, List.append_nil])
    refine sd_calli h (va_runV (As := [.int (nI k), .int (nI j)]) (rest := []) C (k_H_removeThing l D k3 H.size q u k j hk h1 h9) (sd_cwV 2 C.2.2.2.2 tb_301 tb_303 tb_6 tb_23 tb_304 rfl rfl (by decide +kernel) ⟨Nat.le_of_ble_eq_true rfl, Nat.le_of_ble_eq_true rfl⟩) (sd_preV h (q0 := 0) (T := T_H) (N := 16) rfl rfl) rfl rfl hl.1 rfl (lv_room (Nat.le_of_ble_eq_true rfl)) d_H_perform_54 ⟨Nat.le_of_ble_eq_true rfl, Nat.le_of_ble_eq_true rfl⟩) (fun r w1 H locs hq h => ?_)
    obtain ⟨rfl, rfl⟩ := hq
    have h := sd_world h (ws' := sd_H k3 q (hd_drop u k j)) (by simp only [List.append_assoc, List.nil_append, List.append_nil])
    refine lv_i2l (v := (hf_us u (k * 9 + j - 1)).toInt64) C.1 C.2.1 d_H_perform_57 rfl ?_
    exact sd_lret (v := (hf_us u (k * 9 + j - 1)).toInt64) C hr hlk h ⟨by simp only [sd_an, sd_cl5 (show k < 9 by omega), sd_cl10 h9]; rfl, by simp only [sd_do, sd_cl5 (show k < 9 by omega), sd_cl10 h9]; rfl⟩ d_H_perform_58
  · have hl : lv_has ls 5 [(0, .ref (q 0)), (1, .int 2), (2, .int (nI pt)), (3, .int (nI k)), (4, .int z)] := hl
    refine lv_iload_n C.1 C.2.1 d_H_perform_0 rfl (lv_at hl 1 rfl) ?_
    refine lv_tableIn C.1 C.2.1 d_H_perform_1 (off := 58) (tgt := 59) (by decide) (by decide) (by decide) (by decide) ?_
    refine lv_aload_n C.1 C.2.1 d_H_perform_59 rfl (lv_at hl 0 rfl) ?_
    refine lv_iload_n C.1 C.2.1 d_H_perform_60 rfl (lv_at hl 2 rfl) ?_
    refine lv_iload_n C.1 C.2.1 d_H_perform_61 rfl (lv_at hl 3 rfl) ?_
    have h := sd_world h (ws' := ([]) ++ (sd_H k3 q u) ++ ([])) (by simp only [List.append_assoc, List.nil_append, List.append_nil])
    refine sd_calli h (va_runV (As := [.int (nI pt), .int (nI k)]) (rest := []) C (k_H_setKind l D k3 H.size q u pt (nI k) hp) (sd_cwV 2 C.2.2.2.2 tb_305 tb_307 tb_7 tb_23 tb_308 rfl rfl (by decide +kernel) ⟨Nat.le_of_ble_eq_true rfl, Nat.le_of_ble_eq_true rfl⟩) (sd_preV h (q0 := 0) (T := T_H) (N := 16) rfl rfl) rfl rfl hl.1 rfl (lv_room (Nat.le_of_ble_eq_true rfl)) d_H_perform_62 ⟨Nat.le_of_ble_eq_true rfl, Nat.le_of_ble_eq_true rfl⟩) (fun r w1 H locs hq h => ?_)
    obtain ⟨rfl, rfl⟩ := hq
    have h := sd_world h (ws' := sd_H k3 q (hd_kind u pt (nI k))) (by simp only [List.append_assoc, List.nil_append, List.append_nil])
    refine lv_i2l (v := (hf_pk u pt).toInt64) C.1 C.2.1 d_H_perform_65 rfl ?_
    exact sd_lret (v := (hf_pk u pt).toInt64) C hr hlk h ⟨by simp only [sd_an, sd_cl5 (show pt < 9 by omega)]; rfl, by simp only [sd_do, sd_cl5 (show pt < 9 by omega)]; rfl⟩ d_H_perform_66
  · have hl : lv_has ls 5 [(0, .ref (q 0)), (1, .int 3), (2, .int (nI pt)), (3, .int y), (4, .int z)] := hl
    refine lv_iload_n C.1 C.2.1 d_H_perform_0 rfl (lv_at hl 1 rfl) ?_
    refine lv_tableIn C.1 C.2.1 d_H_perform_1 (off := 66) (tgt := 67) (by decide) (by decide) (by decide) (by decide) ?_
    refine lv_aload_n C.1 C.2.1 d_H_perform_67 rfl (lv_at hl 0 rfl) ?_
    refine lv_iload_n C.1 C.2.1 d_H_perform_68 rfl (lv_at hl 2 rfl) ?_
    refine lv_iload_n C.1 C.2.1 d_H_perform_69 rfl (lv_at hl 3 rfl) ?_
    refine lv_iload C.1 C.2.1 d_H_perform_70 (lv_at hl 4 rfl) ?_
    have h := sd_world h (ws' := ([]) ++ (sd_H k3 q u) ++ ([])) (by simp only [List.append_assoc, List.nil_append, List.append_nil])
    refine sd_calli h (va_runV (As := [.int (nI pt), .int y, .int z]) (rest := []) C (k_H_setAnswer l D k3 H.size q u pt y z hp) (sd_cwV 3 C.2.2.2.2 tb_309 tb_311 tb_8 tb_23 tb_312 rfl rfl (by decide +kernel) ⟨Nat.le_of_ble_eq_true rfl, Nat.le_of_ble_eq_true rfl⟩) (sd_preV h (q0 := 0) (T := T_H) (N := 16) rfl rfl) rfl rfl hl.1 rfl (lv_room (Nat.le_of_ble_eq_true rfl)) d_H_perform_72 ⟨Nat.le_of_ble_eq_true rfl, Nat.le_of_ble_eq_true rfl⟩) (fun r w1 H locs hq h => ?_)
    obtain ⟨rfl, rfl⟩ := hq
    have h := sd_world h (ws' := sd_H k3 q (hd_answer u pt y z)) (by simp only [List.append_assoc, List.nil_append, List.append_nil])
    refine lv_i2l (v := (0 : Int32).toInt64) C.1 C.2.1 d_H_perform_75 rfl ?_
    exact sd_lret (v := (0 : Int32).toInt64) C hr hlk h ⟨by simp only [sd_an]; rfl, by simp only [sd_do, sd_cl5 (show pt < 9 by omega)]; rfl⟩ d_H_perform_76
  · have hl : lv_has ls 5 [(0, .ref (q 0)), (1, .int 4), (2, .int (nI pt)), (3, .int y), (4, .int z)] := hl
    refine lv_iload_n C.1 C.2.1 d_H_perform_0 rfl (lv_at hl 1 rfl) ?_
    refine lv_tableIn C.1 C.2.1 d_H_perform_1 (off := 76) (tgt := 77) (by decide) (by decide) (by decide) (by decide) ?_
    refine lv_aload_n C.1 C.2.1 d_H_perform_77 rfl (lv_at hl 0 rfl) ?_
    refine lv_iload_n C.1 C.2.1 d_H_perform_78 rfl (lv_at hl 2 rfl) ?_
    refine lv_iload_n C.1 C.2.1 d_H_perform_79 rfl (lv_at hl 3 rfl) ?_
    have h := sd_world h (ws' := ([]) ++ (sd_H k3 q u) ++ ([])) (by simp only [List.append_assoc, List.nil_append, List.append_nil])
    refine sd_calli h (va_runV (As := [.int (nI pt), .int y]) (rest := []) C (k_H_setWay l D k3 H.size q u pt y hp) (sd_cwV 2 C.2.2.2.2 tb_313 tb_315 tb_9 tb_23 tb_316 rfl rfl (by decide +kernel) ⟨Nat.le_of_ble_eq_true rfl, Nat.le_of_ble_eq_true rfl⟩) (sd_preV h (q0 := 0) (T := T_H) (N := 16) rfl rfl) rfl rfl hl.1 rfl (lv_room (Nat.le_of_ble_eq_true rfl)) d_H_perform_80 ⟨Nat.le_of_ble_eq_true rfl, Nat.le_of_ble_eq_true rfl⟩) (fun r w1 H locs hq h => ?_)
    obtain ⟨rfl, rfl⟩ := hq
    have h := sd_world h (ws' := sd_H k3 q (hd_way u pt y)) (by simp only [List.append_assoc, List.nil_append, List.append_nil])
    refine lv_i2l (v := (hf_pw u pt).toInt64) C.1 C.2.1 d_H_perform_83 rfl ?_
    exact sd_lret (v := (hf_pw u pt).toInt64) C hr hlk h ⟨by simp only [sd_an, sd_cl5 (show pt < 9 by omega)]; rfl, by simp only [sd_do, sd_cl5 (show pt < 9 by omega)]; rfl⟩ d_H_perform_84
  · have hl : lv_has ls 5 [(0, .ref (q 0)), (1, .int 5), (2, .int (nI pt)), (3, .int (nI j)), (4, .int z)] := hl
    refine lv_iload_n C.1 C.2.1 d_H_perform_0 rfl (lv_at hl 1 rfl) ?_
    refine lv_tableIn C.1 C.2.1 d_H_perform_1 (off := 84) (tgt := 85) (by decide) (by decide) (by decide) (by decide) ?_
    refine lv_aload_n C.1 C.2.1 d_H_perform_85 rfl (lv_at hl 0 rfl) ?_
    refine lv_iload_n C.1 C.2.1 d_H_perform_86 rfl (lv_at hl 2 rfl) ?_
    refine lv_iload_n C.1 C.2.1 d_H_perform_87 rfl (lv_at hl 3 rfl) ?_
    refine lv_iload C.1 C.2.1 d_H_perform_88 (lv_at hl 4 rfl) ?_
    have h := sd_world h (ws' := ([]) ++ (sd_H k3 q u) ++ ([])) (by simp only [List.append_assoc, List.nil_append, List.append_nil])
    refine sd_calll h (va_runV (As := [.int (nI pt), .int (nI j), .int z]) (rest := []) C (k_H_answerCall l D k3 H.size q u pt k j z hp hk h1 h9 hkp) (sd_cwV 3 C.2.2.2.2 tb_317 tb_319 tb_10 tb_23 tb_320 rfl rfl (by decide +kernel) ⟨Nat.le_of_ble_eq_true rfl, Nat.le_of_ble_eq_true rfl⟩) (sd_preV h (q0 := 0) (T := T_H) (N := 16) rfl rfl) rfl rfl hl.1 rfl (lv_room (Nat.le_of_ble_eq_true rfl)) d_H_perform_90 ⟨Nat.le_of_ble_eq_true rfl, Nat.le_of_ble_eq_true rfl⟩) (fun r w1 H locs hq h => ?_)
    have hq : r = sd_an u 5 (nI pt) (nI j) z ∧ w1 = sd_H k3 q (sd_do u 5 (nI pt) (nI j) z) := by
      rcases hq with ⟨e1, e2, e3⟩ | ⟨e1, e2, e3⟩
      · refine ⟨e2.trans ?_, e3.trans ?_⟩
        · simp only [sd_an, sd_cl5 (show pt < 9 by omega), e1]; rfl
        · simp only [sd_do, sd_cl5 (show pt < 9 by omega), sd_cl10 h9, hkp, sd_cl5 (show k < 9 by omega), e1]; rfl
      · refine ⟨e2.trans ?_, e3.trans ?_⟩
        · simp only [sd_an, sd_cl5 (show pt < 9 by omega), if_neg e1]; rfl
        · simp only [sd_do, sd_cl5 (show pt < 9 by omega), if_neg e1]; rfl
    obtain ⟨rfl, rfl⟩ := hq
    have h := sd_world h (ws' := sd_H k3 q (sd_do u 5 (nI pt) (nI j) z)) (by simp only [List.append_assoc, List.nil_append, List.append_nil])
    exact sd_lret (v := sd_an u 5 (nI pt) (nI j) z) C hr hlk h ⟨rfl, rfl⟩ d_H_perform_93
  · have hl : lv_has ls 5 [(0, .ref (q 0)), (1, .int 6), (2, .int x), (3, .int y), (4, .int z)] := hl
    refine lv_iload_n C.1 C.2.1 d_H_perform_0 rfl (lv_at hl 1 rfl) ?_
    refine lv_tableIn C.1 C.2.1 d_H_perform_1 (off := 93) (tgt := 94) (by decide) (by decide) (by decide) (by decide) ?_
    refine lv_aload_n C.1 C.2.1 d_H_perform_94 rfl (lv_at hl 0 rfl) ?_
    refine lv_iload_n C.1 C.2.1 d_H_perform_95 rfl (lv_at hl 2 rfl) ?_
    have h := sd_world h (ws' := ([]) ++ (sd_H k3 q u) ++ ([])) (by simp only [List.append_assoc, List.nil_append, List.append_nil])
    refine sd_calli h (va_runV (As := [.int x]) (rest := []) C (k_H_addByte l D k3 H.size q u x ) (sd_cwV 1 C.2.2.2.2 tb_333 tb_335 tb_12 tb_23 tb_336 rfl rfl (by decide +kernel) ⟨Nat.le_of_ble_eq_true rfl, Nat.le_of_ble_eq_true rfl⟩) (sd_preV h (q0 := 0) (T := T_H) (N := 16) rfl rfl) rfl rfl hl.1 rfl (lv_room (Nat.le_of_ble_eq_true rfl)) d_H_perform_96 ⟨Nat.le_of_ble_eq_true rfl, Nat.le_of_ble_eq_true rfl⟩) (fun r w1 H locs hq h => ?_)
    obtain ⟨rfl, rfl⟩ := hq
    have h := sd_world h (ws' := sd_H k3 q (hd_byte u x)) (by simp only [List.append_assoc, List.nil_append, List.append_nil])
    refine lv_i2l (v := (hf_co u + 1).toInt64) C.1 C.2.1 d_H_perform_99 rfl ?_
    exact sd_lret (v := (hf_co u + 1).toInt64) C hr hlk h ⟨by simp only [sd_an]; rfl, by simp only [sd_do]; rfl⟩ d_H_perform_100

set_option maxHeartbeats 4000000 in
set_option maxRecDepth 100000 in
theorem k_H_clearThings (l : Launch) (D : va_G) (k3 : ClassId × ClassId × ClassId) (sz : Nat) (q : Nat → Nat) (u : sd_HS) : Met l y_H_clearThings (sd_ws y_H_clearThings c_H_clearThings 2 none) ({ frames := 0, cells := 0, slots := 0, locals := 0 }) (sd_Pc D (sd_t3 k3) [.ref (q 0)] sz (sd_H k3 q u)) (sd_Qv D (sd_t3 k3) (va_A (sd_H k3 q u) sz) (fun w => w = sd_H k3 q (hd_cT u))) 0 0 (va_A (sd_H k3 q u) sz) := by
  refine sd_met (cc := c_H_clearThings) (maxL := 2) (ret := none) (by decide) (Nat.le_of_ble_eq_true rfl) (fun p e s m below meth c C hr hlk hnm hsz h ls hl => ?_)
  generalize va_A (sd_H k3 q u) sz = A at h ⊢
  have hl : lv_has ls 2 [(0, .ref (q 0))] := hl
  generalize hH : s.heap = H at h ⊢
  refine lv_iconst (v := 0) C.1 C.2.1 d_H_clearThings_0 (by decide) ?_
  refine lv_istore_n (lv' := [(1, .int 0), (0, .ref (q 0))]) C.1 C.2.1 d_H_clearThings_1 rfl hl (by decide) rfl (fun ls hl => ?_)
  have loop1 : ∀ (d i : Nat), i + d = 5 → ∀ (H : Heap) (locs : List Loc) (ls : Array Slot), sd_w D A s (sd_t3 k3) (sd_Hx k3 q (hd_z (hf_md u) i) (hf_th u) (hf_us u) (hf_pk u) (hf_pb u) (hf_pf u) (hf_pw u) (hf_wt u) (hf_fl u) (hf_tw u) (hf_tp u) (hf_tn u) (hf_an u) (hf_co u) (hf_s1 u) (hf_s2 u)) H locs → lv_has ls 2 [(0, .ref (q 0)), (1, .int (nI i))] → W p l e ({ frames := 0, cells := 0, slots := 0, locals := 0 }) s m [.ref (q 0)].toArray below meth c H locs 0 0 (MQ below (sd_Qv D (sd_t3 k3) (A) (fun w => w = sd_H k3 q (hd_cT u))) [.ref (q 0)].toArray s 0 0 A) (F0 m 2 ls []) := by
    intro d
    induction d with
    | zero =>
      intro i hi H locs ls h hl
      have hi : 5 = i := by omega
      subst hi
      refine lv_iload_n C.1 C.2.1 d_H_clearThings_2 rfl (lv_at hl 1 rfl) ?_
      refine lv_iconst (v := 5) C.1 C.2.1 d_H_clearThings_3 (by decide) ?_
      refine lv_icmp_ge (tgt := 20) C.1 C.2.1 d_H_clearThings_4 (by decide) (fun c4 => ?_) (fun c4 => ?_)
      · refine lv_iconst (v := 0) C.1 C.2.1 d_H_clearThings_20 (by decide) ?_
        refine lv_istore_n (lv' := [(1, .int 0), (0, .ref (q 0))]) C.1 C.2.1 d_H_clearThings_21 rfl hl (by decide) rfl (fun ls hl => ?_)
        have loop2 : ∀ (d i : Nat), i + d = 45 → ∀ (H : Heap) (locs : List Loc) (ls : Array Slot), sd_w D A s (sd_t3 k3) (sd_Hx k3 q (hd_z (hf_md u) 5) (hd_z (hf_th u) i) (hd_z (hf_us u) i) (hf_pk u) (hf_pb u) (hf_pf u) (hf_pw u) (hf_wt u) (hf_fl u) (hf_tw u) (hf_tp u) (hf_tn u) (hf_an u) (hf_co u) (hf_s1 u) (hf_s2 u)) H locs → lv_has ls 2 [(0, .ref (q 0)), (1, .int (nI i))] → W p l e ({ frames := 0, cells := 0, slots := 0, locals := 0 }) s m [.ref (q 0)].toArray below meth c H locs 0 0 (MQ below (sd_Qv D (sd_t3 k3) (A) (fun w => w = sd_H k3 q (hd_cT u))) [.ref (q 0)].toArray s 0 0 A) (F0 m 22 ls []) := by
          intro d
          induction d with
          | zero =>
            intro i hi H locs ls h hl
            have hi : 45 = i := by omega
            subst hi
            refine lv_iload_n C.1 C.2.1 d_H_clearThings_22 rfl (lv_at hl 1 rfl) ?_
            refine lv_bipush (v := 45) C.1 C.2.1 d_H_clearThings_23 (by decide) ?_
            refine lv_icmp_ge (tgt := 48) C.1 C.2.1 d_H_clearThings_25 (by decide) (fun c25 => ?_) (fun c25 => ?_)
            · have h := sd_world h (ws' := sd_H k3 q (hd_cT u)) (by simp only [sd_H, hd_make, hd_drop, hd_kind, hd_answer, hd_way, hd_tell, hd_work, hd_byte, hd_m, hd_ans, hf_md, hf_th, hf_us, hf_pk, hf_pb, hf_pf, hf_pw, hf_wt, hf_fl, hf_tw, hf_tp, hf_tn, hf_an, hf_co, hf_s1, hf_s2, hd_cT, hd_cP, hd_cl])
              exact sd_vret C hr hlk h rfl d_H_clearThings_48
            · exact absurd (nI_le (a := 45) (b := 45) (by omega) (by decide)) c25
          | succ d ih =>
            intro i hi H locs ls h hl
            refine lv_iload_n C.1 C.2.1 d_H_clearThings_22 rfl (lv_at hl 1 rfl) ?_
            refine lv_bipush (v := 45) C.1 C.2.1 d_H_clearThings_23 (by decide) ?_
            refine lv_icmp_ge (tgt := 48) C.1 C.2.1 d_H_clearThings_25 (by decide) (fun c25 => ?_) (fun c25 => ?_)
            · exact absurd c25 (nI_ge (a := i) (b := 45) (by omega) (by decide))
            · refine lv_aload_n C.1 C.2.1 d_H_clearThings_28 rfl (lv_at hl 0 rfl) ?_
              refine sd_get C h 0 1 (v := .ref (q 2)) (ci := 1) (Cn := "StockDesk$House") (T := T_H) (N := 16) rfl rfl (by decide) in_H tb_82 rfl d_H_clearThings_29 ?_
              refine lv_iload_n C.1 C.2.1 d_H_clearThings_32 rfl (lv_at hl 1 rfl) ?_
              refine lv_iconst (v := 0) C.1 C.2.1 d_H_clearThings_33 (by decide) ?_
              refine sd_zast C h 2 1 (i := i) (ws' := sd_Hx k3 q (hd_z (hf_md u) 5) (upd (hd_z (hf_th u) i) i 0) (hd_z (hf_us u) i) (hf_pk u) (hf_pb u) (hf_pf u) (hf_pw u) (hf_wt u) (hf_fl u) (hf_tw u) (hf_tp u) (hf_tn u) (hf_an u) (hf_co u) (hf_s1 u) (hf_s2 u)) rfl rfl (by omega) (by decide) rfl rfl d_H_clearThings_34 (fun H locs h => ?_)
              refine lv_aload_n C.1 C.2.1 d_H_clearThings_35 rfl (lv_at hl 0 rfl) ?_
              refine sd_get C h 0 2 (v := .ref (q 3)) (ci := 1) (Cn := "StockDesk$House") (T := T_H) (N := 16) rfl rfl (by decide) in_H tb_83 rfl d_H_clearThings_36 ?_
              refine lv_iload_n C.1 C.2.1 d_H_clearThings_39 rfl (lv_at hl 1 rfl) ?_
              refine lv_iconst (v := 0) C.1 C.2.1 d_H_clearThings_40 (by decide) ?_
              refine sd_iast C h 3 0 (i := i) (ws' := sd_Hx k3 q (hd_z (hf_md u) 5) (upd (hd_z (hf_th u) i) i 0) (upd (hd_z (hf_us u) i) i 0) (hf_pk u) (hf_pb u) (hf_pf u) (hf_pw u) (hf_wt u) (hf_fl u) (hf_tw u) (hf_tp u) (hf_tn u) (hf_an u) (hf_co u) (hf_s1 u) (hf_s2 u)) rfl rfl (by omega) (by decide) rfl d_H_clearThings_41 (fun H locs h => ?_)
              refine lv_iinc (v := nI (i + 1)) (lv' := [(1, .int (nI (i + 1))), (0, .ref (q 0))]) C.1 C.2.1 d_H_clearThings_42 hl (k := 1) rfl (nI_1 i) (by decide) rfl (fun ls hl => ?_)
              refine lv_goto (tgt := 22) C.1 C.2.1 d_H_clearThings_45 (by decide) ?_
              exact ih (i + 1) (by omega) _ _ _ h (lv_sub hl [1, 0] rfl)
        exact loop2 (45 - 0) 0 (by omega) _ _ _ h (lv_sub hl [1, 0] rfl)
      · exact absurd (nI_le (a := 5) (b := 5) (by omega) (by decide)) c4
    | succ d ih =>
      intro i hi H locs ls h hl
      refine lv_iload_n C.1 C.2.1 d_H_clearThings_2 rfl (lv_at hl 1 rfl) ?_
      refine lv_iconst (v := 5) C.1 C.2.1 d_H_clearThings_3 (by decide) ?_
      refine lv_icmp_ge (tgt := 20) C.1 C.2.1 d_H_clearThings_4 (by decide) (fun c4 => ?_) (fun c4 => ?_)
      · exact absurd c4 (nI_ge (a := i) (b := 5) (by omega) (by decide))
      · refine lv_aload_n C.1 C.2.1 d_H_clearThings_7 rfl (lv_at hl 0 rfl) ?_
        refine sd_get C h 0 0 (v := .ref (q 1)) (ci := 1) (Cn := "StockDesk$House") (T := T_H) (N := 16) rfl rfl (by decide) in_H tb_81 rfl d_H_clearThings_8 ?_
        refine lv_iload_n C.1 C.2.1 d_H_clearThings_11 rfl (lv_at hl 1 rfl) ?_
        refine lv_iconst (v := 0) C.1 C.2.1 d_H_clearThings_12 (by decide) ?_
        refine sd_iast C h 1 0 (i := i) (ws' := sd_Hx k3 q (upd (hd_z (hf_md u) i) i 0) (hf_th u) (hf_us u) (hf_pk u) (hf_pb u) (hf_pf u) (hf_pw u) (hf_wt u) (hf_fl u) (hf_tw u) (hf_tp u) (hf_tn u) (hf_an u) (hf_co u) (hf_s1 u) (hf_s2 u)) rfl rfl (by omega) (by decide) rfl d_H_clearThings_13 (fun H locs h => ?_)
        refine lv_iinc (v := nI (i + 1)) (lv' := [(1, .int (nI (i + 1))), (0, .ref (q 0))]) C.1 C.2.1 d_H_clearThings_14 hl (k := 1) rfl (nI_1 i) (by decide) rfl (fun ls hl => ?_)
        refine lv_goto (tgt := 2) C.1 C.2.1 d_H_clearThings_17 (by decide) ?_
        exact ih (i + 1) (by omega) _ _ _ h (lv_sub hl [1, 0] rfl)
  exact loop1 (5 - 0) 0 (by omega) _ _ _ h (lv_sub hl [1, 0] rfl)

set_option maxHeartbeats 4000000 in
set_option maxRecDepth 100000 in
theorem k_H_clearParts (l : Launch) (D : va_G) (k3 : ClassId × ClassId × ClassId) (sz : Nat) (q : Nat → Nat) (u : sd_HS) : Met l y_H_clearParts (sd_ws y_H_clearParts c_H_clearParts 2 none) ({ frames := 0, cells := 0, slots := 0, locals := 0 }) (sd_Pc D (sd_t3 k3) [.ref (q 0)] sz (sd_H k3 q u)) (sd_Qv D (sd_t3 k3) (va_A (sd_H k3 q u) sz) (fun w => w = sd_H k3 q (hd_cP u))) 0 0 (va_A (sd_H k3 q u) sz) := by
  refine sd_met (cc := c_H_clearParts) (maxL := 2) (ret := none) (by decide) (Nat.le_of_ble_eq_true rfl) (fun p e s m below meth c C hr hlk hnm hsz h ls hl => ?_)
  generalize va_A (sd_H k3 q u) sz = A at h ⊢
  have hl : lv_has ls 2 [(0, .ref (q 0))] := hl
  generalize hH : s.heap = H at h ⊢
  refine lv_iconst (v := 0) C.1 C.2.1 d_H_clearParts_0 (by decide) ?_
  refine lv_istore_n (lv' := [(1, .int 0), (0, .ref (q 0))]) C.1 C.2.1 d_H_clearParts_1 rfl hl (by decide) rfl (fun ls hl => ?_)
  have loop : ∀ (d i : Nat), i + d = 6 → ∀ (H : Heap) (locs : List Loc) (ls : Array Slot), sd_w D A s (sd_t3 k3) (sd_Hx k3 q (hf_md u) (hf_th u) (hf_us u) (hd_zk (hf_pk u) i) (hd_z (hf_pb u) i) (hd_z (hf_pf u) i) (hd_z (hf_pw u) i) (hd_zl (hf_wt u) i) (hf_fl u) (hf_tw u) (hf_tp u) (hf_tn u) (hf_an u) (hf_co u) (hf_s1 u) (hf_s2 u)) H locs → lv_has ls 2 [(0, .ref (q 0)), (1, .int (nI i))] → W p l e ({ frames := 0, cells := 0, slots := 0, locals := 0 }) s m [.ref (q 0)].toArray below meth c H locs 0 0 (MQ below (sd_Qv D (sd_t3 k3) (A) (fun w => w = sd_H k3 q (hd_cP u))) [.ref (q 0)].toArray s 0 0 A) (F0 m 2 ls []) := by
    intro d
    induction d with
    | zero =>
      intro i hi H locs ls h hl
      have hi : 6 = i := by omega
      subst hi
      refine lv_iload_n C.1 C.2.1 d_H_clearParts_2 rfl (lv_at hl 1 rfl) ?_
      refine lv_bipush (v := 6) C.1 C.2.1 d_H_clearParts_3 (by decide) ?_
      refine lv_icmp_ge (tgt := 51) C.1 C.2.1 d_H_clearParts_5 (by decide) (fun c5 => ?_) (fun c5 => ?_)
      · have h := sd_world h (ws' := sd_H k3 q (hd_cP u)) (by simp only [sd_H, hd_make, hd_drop, hd_kind, hd_answer, hd_way, hd_tell, hd_work, hd_byte, hd_m, hd_ans, hf_md, hf_th, hf_us, hf_pk, hf_pb, hf_pf, hf_pw, hf_wt, hf_fl, hf_tw, hf_tp, hf_tn, hf_an, hf_co, hf_s1, hf_s2, hd_cT, hd_cP, hd_cl])
        exact sd_vret C hr hlk h rfl d_H_clearParts_51
      · exact absurd (nI_le (a := 6) (b := 6) (by omega) (by decide)) c5
    | succ d ih =>
      intro i hi H locs ls h hl
      refine lv_iload_n C.1 C.2.1 d_H_clearParts_2 rfl (lv_at hl 1 rfl) ?_
      refine lv_bipush (v := 6) C.1 C.2.1 d_H_clearParts_3 (by decide) ?_
      refine lv_icmp_ge (tgt := 51) C.1 C.2.1 d_H_clearParts_5 (by decide) (fun c5 => ?_) (fun c5 => ?_)
      · exact absurd c5 (nI_ge (a := i) (b := 6) (by omega) (by decide))
      · refine lv_aload_n C.1 C.2.1 d_H_clearParts_8 rfl (lv_at hl 0 rfl) ?_
        refine sd_get C h 0 3 (v := .ref (q 4)) (ci := 1) (Cn := "StockDesk$House") (T := T_H) (N := 16) rfl rfl (by decide) in_H tb_84 rfl d_H_clearParts_9 ?_
        refine lv_iload_n C.1 C.2.1 d_H_clearParts_12 rfl (lv_at hl 1 rfl) ?_
        refine lv_iload_n C.1 C.2.1 d_H_clearParts_13 rfl (lv_at hl 1 rfl) ?_
        refine lv_iconst (v := 5) C.1 C.2.1 d_H_clearParts_14 (by decide) ?_
        refine lv_irem C.1 C.2.1 d_H_clearParts_15 (by decide) ?_
        refine sd_top (v := .int ((nI i) - (nI i) / 5 * 5)) (v' := .int (nI (i % 5))) (congrArg Value.int (pk_rem (a := i) (d := 5) (by omega) (by decide) (by decide))) ?_
        refine sd_iast C h 4 0 (i := i) (ws' := sd_Hx k3 q (hf_md u) (hf_th u) (hf_us u) (upd (hd_zk (hf_pk u) i) i (nI (i % 5))) (hd_z (hf_pb u) i) (hd_z (hf_pf u) i) (hd_z (hf_pw u) i) (hd_zl (hf_wt u) i) (hf_fl u) (hf_tw u) (hf_tp u) (hf_tn u) (hf_an u) (hf_co u) (hf_s1 u) (hf_s2 u)) rfl rfl (by omega) (by decide) rfl d_H_clearParts_16 (fun H locs h => ?_)
        refine lv_aload_n C.1 C.2.1 d_H_clearParts_17 rfl (lv_at hl 0 rfl) ?_
        refine sd_get C h 0 4 (v := .ref (q 5)) (ci := 1) (Cn := "StockDesk$House") (T := T_H) (N := 16) rfl rfl (by decide) in_H tb_85 rfl d_H_clearParts_18 ?_
        refine lv_iload_n C.1 C.2.1 d_H_clearParts_21 rfl (lv_at hl 1 rfl) ?_
        refine lv_iconst (v := 0) C.1 C.2.1 d_H_clearParts_22 (by decide) ?_
        refine sd_iast C h 5 0 (i := i) (ws' := sd_Hx k3 q (hf_md u) (hf_th u) (hf_us u) (upd (hd_zk (hf_pk u) i) i (nI (i % 5))) (upd (hd_z (hf_pb u) i) i 0) (hd_z (hf_pf u) i) (hd_z (hf_pw u) i) (hd_zl (hf_wt u) i) (hf_fl u) (hf_tw u) (hf_tp u) (hf_tn u) (hf_an u) (hf_co u) (hf_s1 u) (hf_s2 u)) rfl rfl (by omega) (by decide) rfl d_H_clearParts_23 (fun H locs h => ?_)
        refine lv_aload_n C.1 C.2.1 d_H_clearParts_24 rfl (lv_at hl 0 rfl) ?_
        refine sd_get C h 0 5 (v := .ref (q 6)) (ci := 1) (Cn := "StockDesk$House") (T := T_H) (N := 16) rfl rfl (by decide) in_H tb_86 rfl d_H_clearParts_25 ?_
        refine lv_iload_n C.1 C.2.1 d_H_clearParts_28 rfl (lv_at hl 1 rfl) ?_
        refine lv_iconst (v := 0) C.1 C.2.1 d_H_clearParts_29 (by decide) ?_
        refine sd_iast C h 6 0 (i := i) (ws' := sd_Hx k3 q (hf_md u) (hf_th u) (hf_us u) (upd (hd_zk (hf_pk u) i) i (nI (i % 5))) (upd (hd_z (hf_pb u) i) i 0) (upd (hd_z (hf_pf u) i) i 0) (hd_z (hf_pw u) i) (hd_zl (hf_wt u) i) (hf_fl u) (hf_tw u) (hf_tp u) (hf_tn u) (hf_an u) (hf_co u) (hf_s1 u) (hf_s2 u)) rfl rfl (by omega) (by decide) rfl d_H_clearParts_30 (fun H locs h => ?_)
        refine lv_aload_n C.1 C.2.1 d_H_clearParts_31 rfl (lv_at hl 0 rfl) ?_
        refine sd_get C h 0 6 (v := .ref (q 7)) (ci := 1) (Cn := "StockDesk$House") (T := T_H) (N := 16) rfl rfl (by decide) in_H tb_87 rfl d_H_clearParts_32 ?_
        refine lv_iload_n C.1 C.2.1 d_H_clearParts_35 rfl (lv_at hl 1 rfl) ?_
        refine lv_iconst (v := 0) C.1 C.2.1 d_H_clearParts_36 (by decide) ?_
        refine sd_iast C h 7 0 (i := i) (ws' := sd_Hx k3 q (hf_md u) (hf_th u) (hf_us u) (upd (hd_zk (hf_pk u) i) i (nI (i % 5))) (upd (hd_z (hf_pb u) i) i 0) (upd (hd_z (hf_pf u) i) i 0) (upd (hd_z (hf_pw u) i) i 0) (hd_zl (hf_wt u) i) (hf_fl u) (hf_tw u) (hf_tp u) (hf_tn u) (hf_an u) (hf_co u) (hf_s1 u) (hf_s2 u)) rfl rfl (by omega) (by decide) rfl d_H_clearParts_37 (fun H locs h => ?_)
        refine lv_aload_n C.1 C.2.1 d_H_clearParts_38 rfl (lv_at hl 0 rfl) ?_
        refine sd_get C h 0 7 (v := .ref (q 8)) (ci := 1) (Cn := "StockDesk$House") (T := T_H) (N := 16) rfl rfl (by decide) in_H tb_88 rfl d_H_clearParts_39 ?_
        refine lv_iload_n C.1 C.2.1 d_H_clearParts_42 rfl (lv_at hl 1 rfl) ?_
        refine lv_lconst (v := 0) C.1 C.2.1 d_H_clearParts_43 (by decide) ?_
        refine sd_last C h 8 2 (i := i) (ws' := sd_Hx k3 q (hf_md u) (hf_th u) (hf_us u) (upd (hd_zk (hf_pk u) i) i (nI (i % 5))) (upd (hd_z (hf_pb u) i) i 0) (upd (hd_z (hf_pf u) i) i 0) (upd (hd_z (hf_pw u) i) i 0) (vp_updL (hd_zl (hf_wt u) i) i 0) (hf_fl u) (hf_tw u) (hf_tp u) (hf_tn u) (hf_an u) (hf_co u) (hf_s1 u) (hf_s2 u)) rfl rfl (by omega) (by decide) rfl d_H_clearParts_44 (fun H locs h => ?_)
        refine lv_iinc (v := nI (i + 1)) (lv' := [(1, .int (nI (i + 1))), (0, .ref (q 0))]) C.1 C.2.1 d_H_clearParts_45 hl (k := 1) rfl (nI_1 i) (by decide) rfl (fun ls hl => ?_)
        refine lv_goto (tgt := 2) C.1 C.2.1 d_H_clearParts_48 (by decide) ?_
        exact ih (i + 1) (by omega) _ _ _ h (lv_sub hl [1, 0] rfl)
  exact loop (6 - 0) 0 (by omega) _ _ _ h (lv_sub hl [1, 0] rfl)

set_option maxHeartbeats 4000000 in
set_option maxRecDepth 100000 in
theorem k_H_clear (l : Launch) (D : va_G) (k3 : ClassId × ClassId × ClassId) (sz : Nat) (q : Nat → Nat) (u : sd_HS) : Met l y_H_clear (sd_ws y_H_clear c_H_clear 1 none) ({ frames := 1, cells := 0, slots := 0, locals := 21 }) (sd_Pc D (sd_t3 k3) [.ref (q 0)] sz (sd_H k3 q u)) (sd_Qv D (sd_t3 k3) (va_A (sd_H k3 q u) sz) (fun w => w = sd_H k3 q sd_h0)) 0 0 (va_A (sd_H k3 q u) sz) := by
  refine sd_met (cc := c_H_clear) (maxL := 1) (ret := none) (by decide) (Nat.le_of_ble_eq_true rfl) (fun p e s m below meth c C hr hlk hnm hsz h ls hl => ?_)
  generalize va_A (sd_H k3 q u) sz = A at h ⊢
  have hl : lv_has ls 1 [(0, .ref (q 0))] := hl
  generalize hH : s.heap = H at h ⊢
  refine lv_aload_n C.1 C.2.1 d_H_clear_0 rfl (lv_at hl 0 rfl) ?_
  have h := sd_world h (ws' := ([]) ++ (sd_H k3 q u) ++ ([])) (by simp only [List.append_assoc, List.nil_append, List.append_nil])
  refine sd_callv h (va_runV (As := []) (rest := []) C (k_H_clearThings l D k3 H.size q u ) (sd_cwV 0 C.2.2.2.2 tb_73 tb_75 tb_0 tb_23 tb_76 rfl rfl (by decide +kernel) ⟨Nat.le_of_ble_eq_true rfl, Nat.le_of_ble_eq_true rfl⟩) (sd_preV h (q0 := 0) (T := T_H) (N := 16) rfl rfl) rfl rfl hl.1 rfl (lv_room (Nat.le_of_ble_eq_true rfl)) d_H_clear_1 ⟨Nat.le_of_ble_eq_true rfl, Nat.le_of_ble_eq_true rfl⟩) (fun w1 H locs hq h => ?_)
  obtain rfl := hq
  have h := sd_world h (ws' := sd_H k3 q (hd_cT u)) (by simp only [List.append_assoc, List.nil_append, List.append_nil])
  refine lv_aload_n C.1 C.2.1 d_H_clear_4 rfl (lv_at hl 0 rfl) ?_
  have h := sd_world h (ws' := ([]) ++ (sd_H k3 q (hd_cT u)) ++ ([])) (by simp only [List.append_assoc, List.nil_append, List.append_nil])
  refine sd_callv h (va_runV (As := []) (rest := []) C (k_H_clearParts l D k3 H.size q (hd_cT u) ) (sd_cwV 0 C.2.2.2.2 tb_77 tb_79 tb_1 tb_23 tb_80 rfl rfl (by decide +kernel) ⟨Nat.le_of_ble_eq_true rfl, Nat.le_of_ble_eq_true rfl⟩) (sd_preV h (q0 := 0) (T := T_H) (N := 16) rfl rfl) rfl rfl hl.1 rfl (lv_room (Nat.le_of_ble_eq_true rfl)) d_H_clear_5 ⟨Nat.le_of_ble_eq_true rfl, Nat.le_of_ble_eq_true rfl⟩) (fun w1 H locs hq h => ?_)
  obtain rfl := hq
  have h := sd_world h (ws' := sd_H k3 q (hd_cP (hd_cT u))) (by simp only [List.append_assoc, List.nil_append, List.append_nil])
  refine lv_aload_n C.1 C.2.1 d_H_clear_8 rfl (lv_at hl 0 rfl) ?_
  refine lv_iconst (v := 0) C.1 C.2.1 d_H_clear_9 (by decide) ?_
  refine sd_put C h 0 8 (v := .int 0) (ci := 1) (Cn := "StockDesk$House") (T := T_H) (N := 16) (ty0 := ty_H) (ws' := sd_Hx k3 q (hf_md (hd_cP (hd_cT u))) (hf_th (hd_cP (hd_cT u))) (hf_us (hd_cP (hd_cT u))) (hf_pk (hd_cP (hd_cT u))) (hf_pb (hd_cP (hd_cT u))) (hf_pf (hd_cP (hd_cT u))) (hf_pw (hd_cP (hd_cT u))) (hf_wt (hd_cP (hd_cT u))) 0 (hf_tw (hd_cP (hd_cT u))) (hf_tp (hd_cP (hd_cT u))) (hf_tn (hd_cP (hd_cT u))) (hf_an (hd_cP (hd_cT u))) (hf_co (hd_cP (hd_cT u))) (hf_s1 (hd_cP (hd_cT u))) (hf_s2 (hd_cP (hd_cT u)))) rfl rfl (by decide) in_H tyok_H nm_H tb_89 rfl rfl rfl rfl (Nat.le_of_ble_eq_true rfl) rfl d_H_clear_10 (fun H locs h => ?_)
  refine lv_aload_n C.1 C.2.1 d_H_clear_13 rfl (lv_at hl 0 rfl) ?_
  refine lv_iconst (v := 0) C.1 C.2.1 d_H_clear_14 (by decide) ?_
  refine sd_put C h 0 9 (v := .int 0) (ci := 1) (Cn := "StockDesk$House") (T := T_H) (N := 16) (ty0 := ty_H) (ws' := sd_Hx k3 q (hf_md (hd_cP (hd_cT u))) (hf_th (hd_cP (hd_cT u))) (hf_us (hd_cP (hd_cT u))) (hf_pk (hd_cP (hd_cT u))) (hf_pb (hd_cP (hd_cT u))) (hf_pf (hd_cP (hd_cT u))) (hf_pw (hd_cP (hd_cT u))) (hf_wt (hd_cP (hd_cT u))) 0 0 (hf_tp (hd_cP (hd_cT u))) (hf_tn (hd_cP (hd_cT u))) (hf_an (hd_cP (hd_cT u))) (hf_co (hd_cP (hd_cT u))) (hf_s1 (hd_cP (hd_cT u))) (hf_s2 (hd_cP (hd_cT u)))) rfl rfl (by decide) in_H tyok_H nm_H tb_91 rfl rfl rfl rfl (Nat.le_of_ble_eq_true rfl) rfl d_H_clear_15 (fun H locs h => ?_)
  refine lv_aload_n C.1 C.2.1 d_H_clear_18 rfl (lv_at hl 0 rfl) ?_
  refine lv_iconst (v := -1) C.1 C.2.1 d_H_clear_19 (by decide) ?_
  refine sd_put C h 0 10 (v := .int (-1)) (ci := 1) (Cn := "StockDesk$House") (T := T_H) (N := 16) (ty0 := ty_H) (ws' := sd_Hx k3 q (hf_md (hd_cP (hd_cT u))) (hf_th (hd_cP (hd_cT u))) (hf_us (hd_cP (hd_cT u))) (hf_pk (hd_cP (hd_cT u))) (hf_pb (hd_cP (hd_cT u))) (hf_pf (hd_cP (hd_cT u))) (hf_pw (hd_cP (hd_cT u))) (hf_wt (hd_cP (hd_cT u))) 0 0 (-1) (hf_tn (hd_cP (hd_cT u))) (hf_an (hd_cP (hd_cT u))) (hf_co (hd_cP (hd_cT u))) (hf_s1 (hd_cP (hd_cT u))) (hf_s2 (hd_cP (hd_cT u)))) rfl rfl (by decide) in_H tyok_H nm_H tb_93 rfl rfl rfl rfl (Nat.le_of_ble_eq_true rfl) rfl d_H_clear_20 (fun H locs h => ?_)
  refine lv_aload_n C.1 C.2.1 d_H_clear_23 rfl (lv_at hl 0 rfl) ?_
  refine lv_iconst (v := -1) C.1 C.2.1 d_H_clear_24 (by decide) ?_
  refine sd_put C h 0 11 (v := .int (-1)) (ci := 1) (Cn := "StockDesk$House") (T := T_H) (N := 16) (ty0 := ty_H) (ws' := sd_Hx k3 q (hf_md (hd_cP (hd_cT u))) (hf_th (hd_cP (hd_cT u))) (hf_us (hd_cP (hd_cT u))) (hf_pk (hd_cP (hd_cT u))) (hf_pb (hd_cP (hd_cT u))) (hf_pf (hd_cP (hd_cT u))) (hf_pw (hd_cP (hd_cT u))) (hf_wt (hd_cP (hd_cT u))) 0 0 (-1) (-1) (hf_an (hd_cP (hd_cT u))) (hf_co (hd_cP (hd_cT u))) (hf_s1 (hd_cP (hd_cT u))) (hf_s2 (hd_cP (hd_cT u)))) rfl rfl (by decide) in_H tyok_H nm_H tb_95 rfl rfl rfl rfl (Nat.le_of_ble_eq_true rfl) rfl d_H_clear_25 (fun H locs h => ?_)
  refine lv_aload_n C.1 C.2.1 d_H_clear_28 rfl (lv_at hl 0 rfl) ?_
  refine lv_iconst (v := 0) C.1 C.2.1 d_H_clear_29 (by decide) ?_
  refine sd_put C h 0 12 (v := .int 0) (ci := 1) (Cn := "StockDesk$House") (T := T_H) (N := 16) (ty0 := ty_H) (ws' := sd_Hx k3 q (hf_md (hd_cP (hd_cT u))) (hf_th (hd_cP (hd_cT u))) (hf_us (hd_cP (hd_cT u))) (hf_pk (hd_cP (hd_cT u))) (hf_pb (hd_cP (hd_cT u))) (hf_pf (hd_cP (hd_cT u))) (hf_pw (hd_cP (hd_cT u))) (hf_wt (hd_cP (hd_cT u))) 0 0 (-1) (-1) 0 (hf_co (hd_cP (hd_cT u))) (hf_s1 (hd_cP (hd_cT u))) (hf_s2 (hd_cP (hd_cT u)))) rfl rfl (by decide) in_H tyok_H nm_H tb_97 rfl rfl rfl rfl (Nat.le_of_ble_eq_true rfl) rfl d_H_clear_30 (fun H locs h => ?_)
  refine lv_aload_n C.1 C.2.1 d_H_clear_33 rfl (lv_at hl 0 rfl) ?_
  refine lv_iconst (v := 0) C.1 C.2.1 d_H_clear_34 (by decide) ?_
  refine sd_put C h 0 13 (v := .int 0) (ci := 1) (Cn := "StockDesk$House") (T := T_H) (N := 16) (ty0 := ty_H) (ws' := sd_Hx k3 q (hf_md (hd_cP (hd_cT u))) (hf_th (hd_cP (hd_cT u))) (hf_us (hd_cP (hd_cT u))) (hf_pk (hd_cP (hd_cT u))) (hf_pb (hd_cP (hd_cT u))) (hf_pf (hd_cP (hd_cT u))) (hf_pw (hd_cP (hd_cT u))) (hf_wt (hd_cP (hd_cT u))) 0 0 (-1) (-1) 0 0 (hf_s1 (hd_cP (hd_cT u))) (hf_s2 (hd_cP (hd_cT u)))) rfl rfl (by decide) in_H tyok_H nm_H tb_99 rfl rfl rfl rfl (Nat.le_of_ble_eq_true rfl) rfl d_H_clear_35 (fun H locs h => ?_)
  refine lv_aload_n C.1 C.2.1 d_H_clear_38 rfl (lv_at hl 0 rfl) ?_
  refine lv_iconst (v := 1) C.1 C.2.1 d_H_clear_39 (by decide) ?_
  refine sd_put C h 0 14 (v := .int 1) (ci := 1) (Cn := "StockDesk$House") (T := T_H) (N := 16) (ty0 := ty_H) (ws' := sd_Hx k3 q (hf_md (hd_cP (hd_cT u))) (hf_th (hd_cP (hd_cT u))) (hf_us (hd_cP (hd_cT u))) (hf_pk (hd_cP (hd_cT u))) (hf_pb (hd_cP (hd_cT u))) (hf_pf (hd_cP (hd_cT u))) (hf_pw (hd_cP (hd_cT u))) (hf_wt (hd_cP (hd_cT u))) 0 0 (-1) (-1) 0 0 1 (hf_s2 (hd_cP (hd_cT u)))) rfl rfl (by decide) in_H tyok_H nm_H tb_101 rfl rfl rfl rfl (Nat.le_of_ble_eq_true rfl) rfl d_H_clear_40 (fun H locs h => ?_)
  refine lv_aload_n C.1 C.2.1 d_H_clear_43 rfl (lv_at hl 0 rfl) ?_
  refine lv_iconst (v := 0) C.1 C.2.1 d_H_clear_44 (by decide) ?_
  refine sd_put C h 0 15 (v := .int 0) (ci := 1) (Cn := "StockDesk$House") (T := T_H) (N := 16) (ty0 := ty_H) (ws' := sd_Hx k3 q (hf_md (hd_cP (hd_cT u))) (hf_th (hd_cP (hd_cT u))) (hf_us (hd_cP (hd_cT u))) (hf_pk (hd_cP (hd_cT u))) (hf_pb (hd_cP (hd_cT u))) (hf_pf (hd_cP (hd_cT u))) (hf_pw (hd_cP (hd_cT u))) (hf_wt (hd_cP (hd_cT u))) 0 0 (-1) (-1) 0 0 1 0) rfl rfl (by decide) in_H tyok_H nm_H tb_102 rfl rfl rfl rfl (Nat.le_of_ble_eq_true rfl) rfl d_H_clear_45 (fun H locs h => ?_)
  have h := sd_world h (ws' := sd_H k3 q (hd_cl u)) (by simp only [sd_H, hd_make, hd_drop, hd_kind, hd_answer, hd_way, hd_tell, hd_work, hd_byte, hd_m, hd_ans, hf_md, hf_th, hf_us, hf_pk, hf_pb, hf_pf, hf_pw, hf_wt, hf_fl, hf_tw, hf_tp, hf_tn, hf_an, hf_co, hf_s1, hf_s2, hd_cT, hd_cP, hd_cl])
  have h := sd_world h (ws' := [] ++ sd_H k3 q (hd_cl u) ++ []) (by simp only [List.append_assoc, List.nil_append, List.append_nil])
  have h := sd_H_w h (v := sd_h0) (hd_cl_eq u)
  have h := sd_world h (ws' := sd_H k3 q sd_h0) (by simp only [List.append_assoc, List.nil_append, List.append_nil])
  exact sd_vret C hr hlk h rfl d_H_clear_48

set_option maxHeartbeats 4000000 in
set_option maxRecDepth 100000 in
theorem k_H_init (l : Launch) (D : va_G) (k3 : ClassId × ClassId × ClassId) (sz : Nat) (h0 : Nat) : Met l y_H_init (sd_ws y_H_init c_H_init 1 none) ({ frames := 2, cells := 8, slots := 125, locals := 41 }) (sd_Pc D (sd_t3 k3) [.ref h0] sz ([(h0, .inr (1, [.null, .null, .null, .null, .null, .null, .null, .null, .int 0, .int 0, .int 0, .int 0, .int 0, .int 0, .int 0, .int 0]))])) (sd_Qv D (sd_t3 k3) (va_A ([(h0, .inr (1, [.null, .null, .null, .null, .null, .null, .null, .null, .int 0, .int 0, .int 0, .int 0, .int 0, .int 0, .int 0, .int 0]))]) sz) (fun w => ∃ q : Nat → Nat, q 0 = h0 ∧ w = sd_H k3 q sd_h0)) 8 125 (va_A ([(h0, .inr (1, [.null, .null, .null, .null, .null, .null, .null, .null, .int 0, .int 0, .int 0, .int 0, .int 0, .int 0, .int 0, .int 0]))]) sz) := by
  refine sd_met (cc := c_H_init) (maxL := 1) (ret := none) (by decide) (Nat.le_of_ble_eq_true rfl) (fun p e s m below meth c C hr hlk hnm hsz h ls hl => ?_)
  generalize va_A ([(h0, .inr (1, [.null, .null, .null, .null, .null, .null, .null, .null, .int 0, .int 0, .int 0, .int 0, .int 0, .int 0, .int 0, .int 0]))]) sz = A at h ⊢
  have hl : lv_has ls 1 [(0, .ref h0)] := hl
  generalize hH : s.heap = H at h ⊢
  refine lv_aload_n C.1 C.2.1 d_H_init_0 rfl (lv_at hl 0 rfl) ?_
  refine W.objInit C.1 C.2.1 C.2.2.2.1 (C.2.2.2.2 _ (List.mem_cons_of_mem _ tb_68)) (C.2.2.2.2 _ (List.mem_cons_of_mem _ tb_38)) (C.2.2.2.2 _ (List.mem_cons_of_mem _ tb_39)) rfl (by rw [C.2.2.1]; exact hl.1) rfl d_H_init_1 (Nat.le_of_ble_eq_true rfl) (Nat.le_of_ble_eq_true rfl) ?_
  refine W.eq (g2 := F0 m 4 ls []) rfl ?_
  refine lv_aload_n C.1 C.2.1 d_H_init_4 rfl (lv_at hl 0 rfl) ?_
  refine lv_iconst (v := 5) C.1 C.2.1 d_H_init_5 (by decide) ?_
  refine sd_newa C h 0 (ty := .int) (a0 := (5, .inl (fun _ => 0))) (N' := 5) rfl rfl (fun _ => rfl) tb_62 (fun _ => rfl) (by decide) (by decide) (by decide) (Nat.le_of_ble_eq_true rfl) (Nat.le_of_ble_eq_true rfl) d_H_init_6 (fun q6 H h => ?_)
  refine W.widen (k := 1) (n := 5) (by decide) (by decide) ?_
  refine sd_putF C h hnm 0 0 (v := .ref q6) (ci := 1) (Cn := "StockDesk$House") (T := T_H) (N := 16) (ty0 := ty_H) (ws' := [(h0, .inr (1, [.ref q6, .null, .null, .null, .null, .null, .null, .null, .int 0, .int 0, .int 0, .int 0, .int 0, .int 0, .int 0, .int 0]))] ++ [(q6, .inl (k3.1, 5, .inl (fun _ => 0)))]) rfl rfl (by decide) in_H tyok_H nm_H tb_81 rfl rfl rfl rfl rfl (Nat.le_of_ble_eq_true rfl) rfl d_H_init_8 (fun H locs h => ?_)
  refine lv_aload_n C.1 C.2.1 d_H_init_11 rfl (lv_at hl 0 rfl) ?_
  refine lv_bipush (v := 45) C.1 C.2.1 d_H_init_12 (by decide) ?_
  refine sd_newa C h 1 (ty := .boolean) (a0 := (45, .inl (fun _ => 0))) (N' := 45) rfl rfl (fun _ => rfl) tb_136 (fun _ => rfl) (by decide) (by decide) (by decide) (Nat.le_of_ble_eq_true rfl) (Nat.le_of_ble_eq_true rfl) d_H_init_14 (fun q14 H h => ?_)
  refine W.widen (k := 2) (n := 50) (by decide) (by decide) ?_
  refine sd_putF C h hnm 0 1 (v := .ref q14) (ci := 1) (Cn := "StockDesk$House") (T := T_H) (N := 16) (ty0 := ty_H) (ws' := [(h0, .inr (1, [.ref q6, .ref q14, .null, .null, .null, .null, .null, .null, .int 0, .int 0, .int 0, .int 0, .int 0, .int 0, .int 0, .int 0]))] ++ [(q6, .inl (k3.1, 5, .inl (fun _ => 0)))] ++ [(q14, .inl (k3.2.1, 45, .inl (fun _ => 0)))]) rfl rfl (by decide) in_H tyok_H nm_H tb_82 rfl rfl rfl rfl rfl (Nat.le_of_ble_eq_true rfl) rfl d_H_init_16 (fun H locs h => ?_)
  refine lv_aload_n C.1 C.2.1 d_H_init_19 rfl (lv_at hl 0 rfl) ?_
  refine lv_bipush (v := 45) C.1 C.2.1 d_H_init_20 (by decide) ?_
  refine sd_newa C h 0 (ty := .int) (a0 := (45, .inl (fun _ => 0))) (N' := 45) rfl rfl (fun _ => rfl) tb_62 (fun _ => rfl) (by decide) (by decide) (by decide) (Nat.le_of_ble_eq_true rfl) (Nat.le_of_ble_eq_true rfl) d_H_init_22 (fun q22 H h => ?_)
  refine W.widen (k := 3) (n := 95) (by decide) (by decide) ?_
  refine sd_putF C h hnm 0 2 (v := .ref q22) (ci := 1) (Cn := "StockDesk$House") (T := T_H) (N := 16) (ty0 := ty_H) (ws' := [(h0, .inr (1, [.ref q6, .ref q14, .ref q22, .null, .null, .null, .null, .null, .int 0, .int 0, .int 0, .int 0, .int 0, .int 0, .int 0, .int 0]))] ++ [(q6, .inl (k3.1, 5, .inl (fun _ => 0)))] ++ [(q14, .inl (k3.2.1, 45, .inl (fun _ => 0)))] ++ [(q22, .inl (k3.1, 45, .inl (fun _ => 0)))]) rfl rfl (by decide) in_H tyok_H nm_H tb_83 rfl rfl rfl rfl rfl (Nat.le_of_ble_eq_true rfl) rfl d_H_init_24 (fun H locs h => ?_)
  refine lv_aload_n C.1 C.2.1 d_H_init_27 rfl (lv_at hl 0 rfl) ?_
  refine lv_bipush (v := 6) C.1 C.2.1 d_H_init_28 (by decide) ?_
  refine sd_newa C h 0 (ty := .int) (a0 := (6, .inl (fun _ => 0))) (N' := 6) rfl rfl (fun _ => rfl) tb_62 (fun _ => rfl) (by decide) (by decide) (by decide) (Nat.le_of_ble_eq_true rfl) (Nat.le_of_ble_eq_true rfl) d_H_init_30 (fun q30 H h => ?_)
  refine W.widen (k := 4) (n := 101) (by decide) (by decide) ?_
  refine sd_putF C h hnm 0 3 (v := .ref q30) (ci := 1) (Cn := "StockDesk$House") (T := T_H) (N := 16) (ty0 := ty_H) (ws' := [(h0, .inr (1, [.ref q6, .ref q14, .ref q22, .ref q30, .null, .null, .null, .null, .int 0, .int 0, .int 0, .int 0, .int 0, .int 0, .int 0, .int 0]))] ++ [(q6, .inl (k3.1, 5, .inl (fun _ => 0)))] ++ [(q14, .inl (k3.2.1, 45, .inl (fun _ => 0)))] ++ [(q22, .inl (k3.1, 45, .inl (fun _ => 0)))] ++ [(q30, .inl (k3.1, 6, .inl (fun _ => 0)))]) rfl rfl (by decide) in_H tyok_H nm_H tb_84 rfl rfl rfl rfl rfl (Nat.le_of_ble_eq_true rfl) rfl d_H_init_32 (fun H locs h => ?_)
  refine lv_aload_n C.1 C.2.1 d_H_init_35 rfl (lv_at hl 0 rfl) ?_
  refine lv_bipush (v := 6) C.1 C.2.1 d_H_init_36 (by decide) ?_
  refine sd_newa C h 0 (ty := .int) (a0 := (6, .inl (fun _ => 0))) (N' := 6) rfl rfl (fun _ => rfl) tb_62 (fun _ => rfl) (by decide) (by decide) (by decide) (Nat.le_of_ble_eq_true rfl) (Nat.le_of_ble_eq_true rfl) d_H_init_38 (fun q38 H h => ?_)
  refine W.widen (k := 5) (n := 107) (by decide) (by decide) ?_
  refine sd_putF C h hnm 0 4 (v := .ref q38) (ci := 1) (Cn := "StockDesk$House") (T := T_H) (N := 16) (ty0 := ty_H) (ws' := [(h0, .inr (1, [.ref q6, .ref q14, .ref q22, .ref q30, .ref q38, .null, .null, .null, .int 0, .int 0, .int 0, .int 0, .int 0, .int 0, .int 0, .int 0]))] ++ [(q6, .inl (k3.1, 5, .inl (fun _ => 0)))] ++ [(q14, .inl (k3.2.1, 45, .inl (fun _ => 0)))] ++ [(q22, .inl (k3.1, 45, .inl (fun _ => 0)))] ++ [(q30, .inl (k3.1, 6, .inl (fun _ => 0)))] ++ [(q38, .inl (k3.1, 6, .inl (fun _ => 0)))]) rfl rfl (by decide) in_H tyok_H nm_H tb_85 rfl rfl rfl rfl rfl (Nat.le_of_ble_eq_true rfl) rfl d_H_init_40 (fun H locs h => ?_)
  refine lv_aload_n C.1 C.2.1 d_H_init_43 rfl (lv_at hl 0 rfl) ?_
  refine lv_bipush (v := 6) C.1 C.2.1 d_H_init_44 (by decide) ?_
  refine sd_newa C h 0 (ty := .int) (a0 := (6, .inl (fun _ => 0))) (N' := 6) rfl rfl (fun _ => rfl) tb_62 (fun _ => rfl) (by decide) (by decide) (by decide) (Nat.le_of_ble_eq_true rfl) (Nat.le_of_ble_eq_true rfl) d_H_init_46 (fun q46 H h => ?_)
  refine W.widen (k := 6) (n := 113) (by decide) (by decide) ?_
  refine sd_putF C h hnm 0 5 (v := .ref q46) (ci := 1) (Cn := "StockDesk$House") (T := T_H) (N := 16) (ty0 := ty_H) (ws' := [(h0, .inr (1, [.ref q6, .ref q14, .ref q22, .ref q30, .ref q38, .ref q46, .null, .null, .int 0, .int 0, .int 0, .int 0, .int 0, .int 0, .int 0, .int 0]))] ++ [(q6, .inl (k3.1, 5, .inl (fun _ => 0)))] ++ [(q14, .inl (k3.2.1, 45, .inl (fun _ => 0)))] ++ [(q22, .inl (k3.1, 45, .inl (fun _ => 0)))] ++ [(q30, .inl (k3.1, 6, .inl (fun _ => 0)))] ++ [(q38, .inl (k3.1, 6, .inl (fun _ => 0)))] ++ [(q46, .inl (k3.1, 6, .inl (fun _ => 0)))]) rfl rfl (by decide) in_H tyok_H nm_H tb_86 rfl rfl rfl rfl rfl (Nat.le_of_ble_eq_true rfl) rfl d_H_init_48 (fun H locs h => ?_)
  refine lv_aload_n C.1 C.2.1 d_H_init_51 rfl (lv_at hl 0 rfl) ?_
  refine lv_bipush (v := 6) C.1 C.2.1 d_H_init_52 (by decide) ?_
  refine sd_newa C h 0 (ty := .int) (a0 := (6, .inl (fun _ => 0))) (N' := 6) rfl rfl (fun _ => rfl) tb_62 (fun _ => rfl) (by decide) (by decide) (by decide) (Nat.le_of_ble_eq_true rfl) (Nat.le_of_ble_eq_true rfl) d_H_init_54 (fun q54 H h => ?_)
  refine W.widen (k := 7) (n := 119) (by decide) (by decide) ?_
  refine sd_putF C h hnm 0 6 (v := .ref q54) (ci := 1) (Cn := "StockDesk$House") (T := T_H) (N := 16) (ty0 := ty_H) (ws' := [(h0, .inr (1, [.ref q6, .ref q14, .ref q22, .ref q30, .ref q38, .ref q46, .ref q54, .null, .int 0, .int 0, .int 0, .int 0, .int 0, .int 0, .int 0, .int 0]))] ++ [(q6, .inl (k3.1, 5, .inl (fun _ => 0)))] ++ [(q14, .inl (k3.2.1, 45, .inl (fun _ => 0)))] ++ [(q22, .inl (k3.1, 45, .inl (fun _ => 0)))] ++ [(q30, .inl (k3.1, 6, .inl (fun _ => 0)))] ++ [(q38, .inl (k3.1, 6, .inl (fun _ => 0)))] ++ [(q46, .inl (k3.1, 6, .inl (fun _ => 0)))] ++ [(q54, .inl (k3.1, 6, .inl (fun _ => 0)))]) rfl rfl (by decide) in_H tyok_H nm_H tb_87 rfl rfl rfl rfl rfl (Nat.le_of_ble_eq_true rfl) rfl d_H_init_56 (fun H locs h => ?_)
  refine lv_aload_n C.1 C.2.1 d_H_init_59 rfl (lv_at hl 0 rfl) ?_
  refine lv_bipush (v := 6) C.1 C.2.1 d_H_init_60 (by decide) ?_
  refine sd_newa C h 2 (ty := .long) (a0 := (6, .inr (.inl (fun _ => 0)))) (N' := 6) rfl rfl (fun _ => rfl) tb_137 (fun _ => rfl) (by decide) (by decide) (by decide) (Nat.le_of_ble_eq_true rfl) (Nat.le_of_ble_eq_true rfl) d_H_init_62 (fun q62 H h => ?_)
  refine W.widen (k := 8) (n := 125) (by decide) (by decide) ?_
  refine sd_putF C h hnm 0 7 (v := .ref q62) (ci := 1) (Cn := "StockDesk$House") (T := T_H) (N := 16) (ty0 := ty_H) (ws' := [(h0, .inr (1, [.ref q6, .ref q14, .ref q22, .ref q30, .ref q38, .ref q46, .ref q54, .ref q62, .int 0, .int 0, .int 0, .int 0, .int 0, .int 0, .int 0, .int 0]))] ++ [(q6, .inl (k3.1, 5, .inl (fun _ => 0)))] ++ [(q14, .inl (k3.2.1, 45, .inl (fun _ => 0)))] ++ [(q22, .inl (k3.1, 45, .inl (fun _ => 0)))] ++ [(q30, .inl (k3.1, 6, .inl (fun _ => 0)))] ++ [(q38, .inl (k3.1, 6, .inl (fun _ => 0)))] ++ [(q46, .inl (k3.1, 6, .inl (fun _ => 0)))] ++ [(q54, .inl (k3.1, 6, .inl (fun _ => 0)))] ++ [(q62, .inl (k3.2.2, 6, .inr (.inl (fun _ => 0))))]) rfl rfl (by decide) in_H tyok_H nm_H tb_88 rfl rfl rfl rfl rfl (Nat.le_of_ble_eq_true rfl) rfl d_H_init_64 (fun H locs h => ?_)
  refine lv_aload_n C.1 C.2.1 d_H_init_67 rfl (lv_at hl 0 rfl) ?_
  have h := sd_world h (ws' := sd_H k3 (sd_q9 h0 q6 q14 q22 q30 q38 q46 q54 q62) sd_z0) rfl
  have h := sd_world h (ws' := ([]) ++ (sd_H k3 (sd_q9 h0 q6 q14 q22 q30 q38 q46 q54 q62) sd_z0) ++ ([])) (by simp only [List.append_assoc, List.nil_append, List.append_nil])
  refine sd_callv h (va_runV (As := []) (rest := []) C (k_H_clear l D k3 H.size (sd_q9 h0 q6 q14 q22 q30 q38 q46 q54 q62) sd_z0 ) (sd_cwV 0 C.2.2.2.2 tb_69 tb_70 tb_71 tb_23 tb_72 rfl rfl (by decide +kernel) ⟨Nat.le_of_ble_eq_true rfl, Nat.le_of_ble_eq_true rfl⟩) (sd_preV h (q0 := 0) (T := T_H) (N := 16) rfl rfl) rfl rfl hl.1 rfl (lv_room (Nat.le_of_ble_eq_true rfl)) d_H_init_68 ⟨Nat.le_of_ble_eq_true rfl, Nat.le_of_ble_eq_true rfl⟩) (fun w1 H locs hq h => ?_)
  obtain rfl := hq
  have h := sd_world h (ws' := sd_H k3 (sd_q9 h0 q6 q14 q22 q30 q38 q46 q54 q62) sd_h0) (by simp only [List.append_assoc, List.nil_append, List.append_nil])
  exact sd_vret C hr hlk h ⟨_, rfl, rfl⟩ d_H_init_71
