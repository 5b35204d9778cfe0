/-! the reference's answers: codes of what is thrown -/
def sp_cd (L : List String) (E : String) : Int32 := nI ((L.idxOf E + 1) % (L.length + 1))
theorem sm_px {S : String × Int64 × sd_S} {E : String} {o : sd_S} {mo : sd_MS} {L : List String} {c : Int32} {P : Prop} (F : sd_MS → va_W) (e : S = sp_no E o) (hE : ¬ E = "") (hm : sm_all mo o) (hc : mf_tc mo = c) (hcd : c = sp_cd L E) : ∃ m9, F mo = F m9 ∧ sm_all m9 S.2.2 ∧ mf_tc m9 = sp_cd L S.1 ∧ (S.1 = "" → P) := by
  subst e
  exact ⟨mo, rfl, hm, hc.trans hcd, fun z => absurd z hE⟩
theorem sm_pr {S : String × Int64 × sd_S} {v : Int64} {o : sd_S} {mo : sd_MS} {L : List String} {P : Prop} (F : sd_MS → va_W) (e : S = ("", v, o)) (hm : sm_all mo o) (hc : mf_tc mo = 0) (hcd : 0 = sp_cd L "") (hP : S = ("", v, o) → P) : ∃ m9, F mo = F m9 ∧ sm_all m9 S.2.2 ∧ mf_tc m9 = sp_cd L S.1 ∧ (S.1 = "" → P) := by
  have h := hP e
  subst e
  exact ⟨mo, rfl, hm, hc.trans hcd, fun _ => h⟩
theorem sm_acts {mo : sd_MS} {o : sd_S} (hm : sm_all mo o) (ho : sS_ok o) : mf_ac mo = 60 ↔ sp_full o := by
  rw [hm.1]
  constructor
  · intro e
    have : o.1 = 60 := sd_inj (by have := ho.1; omega) (by decide) e
    unfold sp_full
    omega
  · intro e
    have : o.1 = 60 := by have := ho.1; unfold sp_full at e; omega
    rw [this]
    rfl
theorem sm_made {n : Nat} (hn : n ≤ 9) : nI n = 9 ↔ ¬ nI n < 9 := by
  constructor
  · intro e h
    rw [e] at h
    exact absurd h (by decide)
  · intro h
    have : n = 9 := by
      rcases Nat.lt_or_ge n 9 with q | q
      · exact absurd ((nI_ltI (a := n) (b := 9) (by omega) (by decide)).mpr q) h
      · omega
    rw [this]
    rfl
theorem sv_make {o : sd_S} {k n : Nat} (hk : k < 5) (hn : n < 9) (hm : hf_md (sS_u o) k = nI n) : hf_md (sS_u (sS_put o 0 (nI k) 0 0)) k = hf_md (sS_u o) k + 1 := by
  rw [sS_u_put]
  have e : sd_do (sS_u o) 0 (nI k) 0 0 = hd_make (sS_u o) k n := by simp only [sd_do, sd_cl5 (show k < 9 by omega), hm, sd_cl5 hn, if_true]
  rw [e]
  show upd (hf_md (sS_u o)) k (hf_md (sS_u o) k + 1) k = _
  rw [pk_us]
theorem sv_drop {o : sd_S} {k j i : Nat} (hk : k < 5) (h9 : j ≤ 9) : hf_us (sS_u (sS_put o 1 (nI k) (nI j) 0)) i = hf_us (sS_u o) i := by
  rw [sS_u_put]
  have e : sd_do (sS_u o) 1 (nI k) (nI j) 0 = hd_drop (sS_u o) k j := by simp only [sd_do, sd_cl5 (show k < 9 by omega), sd_cl10 h9]; rfl
  rw [e]
  rfl
theorem sv_byte {o : sd_S} {x : Int32} : hf_co (sS_u (sS_put o 6 x 0 0)) = hf_co (sS_u o) + 1 := by
  rw [sS_u_put]
  rfl
theorem sv_ans {mo : sd_MS} {u : sd_HS} {pt : Nat} {y a : Int32} (r : sm_rel mo u) (hp : pt < 6) : (mf_pb mo pt).toInt64 + (mf_pf mo pt).toInt64 * a.toInt64 + y.toInt64 + mf_wt mo pt = hd_ans u pt y a := by
  rw [r.pb pt hp, r.pf pt hp, r.wt pt hp]
  rfl
theorem sm_rng {y : Int32} (h1 : ¬ y ≤ 0) (h9 : ¬ (10 : Int32) ≤ y) : ∃ j, 1 ≤ j ∧ j ≤ 9 ∧ y = nI j := by
  refine sd_rng (fun z => h1 ?_) (fun z => h9 ?_)
  · rw [Int32.lt_iff_toInt_lt] at z
    rw [Int32.le_iff_toInt_le]
    have : (1 : Int32).toInt = 1 := rfl
    have : (0 : Int32).toInt = 0 := rfl
    omega
  · rw [Int32.lt_iff_toInt_lt] at z
    rw [Int32.le_iff_toInt_le]
    have : (9 : Int32).toInt = 9 := rfl
    have : (10 : Int32).toInt = 10 := rfl
    omega
theorem sm_hasj {u : sd_HS} {k j : Nat} (h1 : 1 ≤ j) (h9 : j ≤ 9) (h : ¬ hf_th u (k * 9 + j - 1) = 0) : hd_has u k (nI j) :=
  ⟨fun z => absurd ((nI_ltI (a := j) (b := 1) (by omega) (by decide)).mp z) (by omega), fun z => absurd ((nI_ltI (a := 9) (b := j) (by decide) (by omega)).mp z) (by omega), by rw [nI_clamp (by omega)]; exact h⟩
set_option maxHeartbeats 4000000 in
set_option maxRecDepth 100000 in
theorem k_M_fresh (l : Launch) (D : va_G) (k3 : ClassId × ClassId × ClassId) (sz : Nat) (q : Nat → Nat) (mo : sd_MS) : Met l y_M_fresh (sd_ws y_M_fresh c_M_fresh 2 none) ({ frames := 0, cells := 0, slots := 0, locals := 0 }) (sd_Pc D (sd_t3 k3) [.ref (q 0)] sz (sd_M k3 q mo)) (sd_Qv D (sd_t3 k3) (va_A (sd_M k3 q mo) sz) (fun w => w = sd_M k3 q (mm_fresh mo))) 0 0 (va_A (sd_M k3 q mo) sz) := by
  refine sd_met (cc := c_M_fresh) (maxL := 2) (ret := none) (by decide) (Nat.le_of_ble_eq_true rfl) (fun p e s m below meth c C hr hlk hnm hsz h ls hl => ?_)
  generalize va_A (sd_M k3 q mo) sz = A at h ⊢
  have hl : lv_has ls 2 [(0, .ref (q 0))] := hl
  generalize hH : s.heap = H at h ⊢
  refine lv_iconst (v := 0) C.1 C.2.1 d_M_fresh_0 (by decide) ?_
  refine lv_istore_n (lv' := [(1, .int 0), (0, .ref (q 0))]) C.1 C.2.1 d_M_fresh_1 rfl hl (by decide) rfl (fun ls hl => ?_)
  have loop1 : ∀ (d i : Nat), i + d = 5 → ∀ (H : Heap) (locs : List Loc) (ls : Array Slot), sd_w D A s (sd_t3 k3) (sd_Mx k3 q (mf_tc mo) (mf_ac mo) (mf_aa mo) (hd_z (mf_md mo) i) (mf_th mo) (mf_us mo) (mf_pk mo) (mf_pb mo) (mf_pf mo) (mf_wt mo) (mf_pw mo) (mf_fl mo) (mf_tw mo) (mf_tp mo) (mf_tn mo) (mf_an mo) (mf_co mo) (mf_s1 mo) (mf_s2 mo)) H locs → lv_has ls 2 [(0, .ref (q 0)), (1, .int (nI i))] → W p l e ({ frames := 0, cells := 0, slots := 0, locals := 0 }) s m [.ref (q 0)].toArray below meth c H locs 0 0 (MQ below (sd_Qv D (sd_t3 k3) (A) (fun w => w = sd_M k3 q (mm_fresh mo))) [.ref (q 0)].toArray s 0 0 A) (F0 m 2 ls []) := by
    intro d
    induction d with
    | zero =>
      intro i hi H locs ls h hl
      have hi : 5 = i := by omega
      subst hi
      refine lv_iload_n C.1 C.2.1 d_M_fresh_2 rfl (lv_at hl 1 rfl) ?_
      refine lv_iconst (v := 5) C.1 C.2.1 d_M_fresh_3 (by decide) ?_
      refine lv_icmp_ge (tgt := 20) C.1 C.2.1 d_M_fresh_4 (by decide) (fun c4 => ?_) (fun c4 => ?_)
      · refine lv_iconst (v := 0) C.1 C.2.1 d_M_fresh_20 (by decide) ?_
        refine lv_istore_n (lv' := [(1, .int 0), (0, .ref (q 0))]) C.1 C.2.1 d_M_fresh_21 rfl hl (by decide) rfl (fun ls hl => ?_)
        have loop2 : ∀ (d i : Nat), i + d = 50 → ∀ (H : Heap) (locs : List Loc) (ls : Array Slot), sd_w D A s (sd_t3 k3) (sd_Mx k3 q (mf_tc mo) (mf_ac mo) (mf_aa mo) (hd_z (mf_md mo) 5) (hd_z (mf_th mo) i) (hd_z (mf_us mo) i) (mf_pk mo) (mf_pb mo) (mf_pf mo) (mf_wt mo) (mf_pw mo) (mf_fl mo) (mf_tw mo) (mf_tp mo) (mf_tn mo) (mf_an mo) (mf_co mo) (mf_s1 mo) (mf_s2 mo)) H locs → lv_has ls 2 [(0, .ref (q 0)), (1, .int (nI i))] → W p l e ({ frames := 0, cells := 0, slots := 0, locals := 0 }) s m [.ref (q 0)].toArray below meth c H locs 0 0 (MQ below (sd_Qv D (sd_t3 k3) (A) (fun w => w = sd_M k3 q (mm_fresh mo))) [.ref (q 0)].toArray s 0 0 A) (F0 m 22 ls []) := by
          intro d
          induction d with
          | zero =>
            intro i hi H locs ls h hl
            have hi : 50 = i := by omega
            subst hi
            refine lv_iload_n C.1 C.2.1 d_M_fresh_22 rfl (lv_at hl 1 rfl) ?_
            refine lv_bipush (v := 50) C.1 C.2.1 d_M_fresh_23 (by decide) ?_
            refine lv_icmp_ge (tgt := 48) C.1 C.2.1 d_M_fresh_25 (by decide) (fun c25 => ?_) (fun c25 => ?_)
            · refine lv_iconst (v := 0) C.1 C.2.1 d_M_fresh_48 (by decide) ?_
              refine lv_istore_n (lv' := [(1, .int 0), (0, .ref (q 0))]) C.1 C.2.1 d_M_fresh_49 rfl hl (by decide) rfl (fun ls hl => ?_)
              have loop3 : ∀ (d i : Nat), i + d = 6 → ∀ (H : Heap) (locs : List Loc) (ls : Array Slot), sd_w D A s (sd_t3 k3) (sd_Mx k3 q (mf_tc mo) (mf_ac mo) (mf_aa mo) (hd_z (mf_md mo) 5) (hd_z (mf_th mo) 50) (hd_z (mf_us mo) 50) (hd_zk (mf_pk mo) i) (hd_z (mf_pb mo) i) (hd_z (mf_pf mo) i) (hd_zl (mf_wt mo) i) (hd_z (mf_pw mo) i) (mf_fl mo) (mf_tw mo) (mf_tp mo) (mf_tn mo) (mf_an mo) (mf_co mo) (mf_s1 mo) (mf_s2 mo)) H locs → lv_has ls 2 [(0, .ref (q 0)), (1, .int (nI i))] → W p l e ({ frames := 0, cells := 0, slots := 0, locals := 0 }) s m [.ref (q 0)].toArray below meth c H locs 0 0 (MQ below (sd_Qv D (sd_t3 k3) (A) (fun w => w = sd_M k3 q (mm_fresh mo))) [.ref (q 0)].toArray s 0 0 A) (F0 m 50 ls []) := by
                intro d
                induction d with
                | zero =>
                  intro i hi H locs ls h hl
                  have hi : 6 = i := by omega
                  subst hi
                  refine lv_iload_n C.1 C.2.1 d_M_fresh_50 rfl (lv_at hl 1 rfl) ?_
                  refine lv_bipush (v := 6) C.1 C.2.1 d_M_fresh_51 (by decide) ?_
                  refine lv_icmp_ge (tgt := 99) C.1 C.2.1 d_M_fresh_53 (by decide) (fun c53 => ?_) (fun c53 => ?_)
                  · refine lv_aload_n C.1 C.2.1 d_M_fresh_99 rfl (lv_at hl 0 rfl) ?_
                    refine lv_iconst (v := 0) C.1 C.2.1 d_M_fresh_100 (by decide) ?_
                    refine sd_put C h 0 11 (v := .int 0) (ci := 3) (Cn := "StockDeskModel") (T := T_M) (N := 19) (ty0 := ty_M) (ws' := sd_Mx k3 q (mf_tc mo) (mf_ac mo) (mf_aa mo) (hd_z (mf_md mo) 5) (hd_z (mf_th mo) 50) (hd_z (mf_us mo) 50) (hd_zk (mf_pk mo) 6) (hd_z (mf_pb mo) 6) (hd_z (mf_pf mo) 6) (hd_zl (mf_wt mo) 6) (hd_z (mf_pw mo) 6) 0 (mf_tw mo) (mf_tp mo) (mf_tn mo) (mf_an mo) (mf_co mo) (mf_s1 mo) (mf_s2 mo)) rfl rfl (by decide) in_M tyok_M nm_M tb_521 rfl rfl rfl rfl (Nat.le_of_ble_eq_true rfl) rfl d_M_fresh_101 (fun H locs h => ?_)
                    refine lv_aload_n C.1 C.2.1 d_M_fresh_104 rfl (lv_at hl 0 rfl) ?_
                    refine lv_iconst (v := 0) C.1 C.2.1 d_M_fresh_105 (by decide) ?_
                    refine sd_put C h 0 12 (v := .int 0) (ci := 3) (Cn := "StockDeskModel") (T := T_M) (N := 19) (ty0 := ty_M) (ws' := sd_Mx k3 q (mf_tc mo) (mf_ac mo) (mf_aa mo) (hd_z (mf_md mo) 5) (hd_z (mf_th mo) 50) (hd_z (mf_us mo) 50) (hd_zk (mf_pk mo) 6) (hd_z (mf_pb mo) 6) (hd_z (mf_pf mo) 6) (hd_zl (mf_wt mo) 6) (hd_z (mf_pw mo) 6) 0 0 (mf_tp mo) (mf_tn mo) (mf_an mo) (mf_co mo) (mf_s1 mo) (mf_s2 mo)) rfl rfl (by decide) in_M tyok_M nm_M tb_522 rfl rfl rfl rfl (Nat.le_of_ble_eq_true rfl) rfl d_M_fresh_106 (fun H locs h => ?_)
                    refine lv_aload_n C.1 C.2.1 d_M_fresh_109 rfl (lv_at hl 0 rfl) ?_
                    refine lv_iconst (v := -1) C.1 C.2.1 d_M_fresh_110 (by decide) ?_
                    refine sd_put C h 0 13 (v := .int (-1)) (ci := 3) (Cn := "StockDeskModel") (T := T_M) (N := 19) (ty0 := ty_M) (ws' := sd_Mx k3 q (mf_tc mo) (mf_ac mo) (mf_aa mo) (hd_z (mf_md mo) 5) (hd_z (mf_th mo) 50) (hd_z (mf_us mo) 50) (hd_zk (mf_pk mo) 6) (hd_z (mf_pb mo) 6) (hd_z (mf_pf mo) 6) (hd_zl (mf_wt mo) 6) (hd_z (mf_pw mo) 6) 0 0 (-1) (mf_tn mo) (mf_an mo) (mf_co mo) (mf_s1 mo) (mf_s2 mo)) rfl rfl (by decide) in_M tyok_M nm_M tb_523 rfl rfl rfl rfl (Nat.le_of_ble_eq_true rfl) rfl d_M_fresh_111 (fun H locs h => ?_)
                    refine lv_aload_n C.1 C.2.1 d_M_fresh_114 rfl (lv_at hl 0 rfl) ?_
                    refine lv_iconst (v := -1) C.1 C.2.1 d_M_fresh_115 (by decide) ?_
                    refine sd_put C h 0 14 (v := .int (-1)) (ci := 3) (Cn := "StockDeskModel") (T := T_M) (N := 19) (ty0 := ty_M) (ws' := sd_Mx k3 q (mf_tc mo) (mf_ac mo) (mf_aa mo) (hd_z (mf_md mo) 5) (hd_z (mf_th mo) 50) (hd_z (mf_us mo) 50) (hd_zk (mf_pk mo) 6) (hd_z (mf_pb mo) 6) (hd_z (mf_pf mo) 6) (hd_zl (mf_wt mo) 6) (hd_z (mf_pw mo) 6) 0 0 (-1) (-1) (mf_an mo) (mf_co mo) (mf_s1 mo) (mf_s2 mo)) rfl rfl (by decide) in_M tyok_M nm_M tb_524 rfl rfl rfl rfl (Nat.le_of_ble_eq_true rfl) rfl d_M_fresh_116 (fun H locs h => ?_)
                    refine lv_aload_n C.1 C.2.1 d_M_fresh_119 rfl (lv_at hl 0 rfl) ?_
                    refine lv_iconst (v := 0) C.1 C.2.1 d_M_fresh_120 (by decide) ?_
                    refine sd_put C h 0 15 (v := .int 0) (ci := 3) (Cn := "StockDeskModel") (T := T_M) (N := 19) (ty0 := ty_M) (ws' := sd_Mx k3 q (mf_tc mo) (mf_ac mo) (mf_aa mo) (hd_z (mf_md mo) 5) (hd_z (mf_th mo) 50) (hd_z (mf_us mo) 50) (hd_zk (mf_pk mo) 6) (hd_z (mf_pb mo) 6) (hd_z (mf_pf mo) 6) (hd_zl (mf_wt mo) 6) (hd_z (mf_pw mo) 6) 0 0 (-1) (-1) 0 (mf_co mo) (mf_s1 mo) (mf_s2 mo)) rfl rfl (by decide) in_M tyok_M nm_M tb_525 rfl rfl rfl rfl (Nat.le_of_ble_eq_true rfl) rfl d_M_fresh_121 (fun H locs h => ?_)
                    refine lv_aload_n C.1 C.2.1 d_M_fresh_124 rfl (lv_at hl 0 rfl) ?_
                    refine lv_iconst (v := 0) C.1 C.2.1 d_M_fresh_125 (by decide) ?_
                    refine sd_put C h 0 16 (v := .int 0) (ci := 3) (Cn := "StockDeskModel") (T := T_M) (N := 19) (ty0 := ty_M) (ws' := sd_Mx k3 q (mf_tc mo) (mf_ac mo) (mf_aa mo) (hd_z (mf_md mo) 5) (hd_z (mf_th mo) 50) (hd_z (mf_us mo) 50) (hd_zk (mf_pk mo) 6) (hd_z (mf_pb mo) 6) (hd_z (mf_pf mo) 6) (hd_zl (mf_wt mo) 6) (hd_z (mf_pw mo) 6) 0 0 (-1) (-1) 0 0 (mf_s1 mo) (mf_s2 mo)) rfl rfl (by decide) in_M tyok_M nm_M tb_526 rfl rfl rfl rfl (Nat.le_of_ble_eq_true rfl) rfl d_M_fresh_126 (fun H locs h => ?_)
                    refine lv_aload_n C.1 C.2.1 d_M_fresh_129 rfl (lv_at hl 0 rfl) ?_
                    refine lv_iconst (v := 1) C.1 C.2.1 d_M_fresh_130 (by decide) ?_
                    refine sd_put C h 0 17 (v := .int 1) (ci := 3) (Cn := "StockDeskModel") (T := T_M) (N := 19) (ty0 := ty_M) (ws' := sd_Mx k3 q (mf_tc mo) (mf_ac mo) (mf_aa mo) (hd_z (mf_md mo) 5) (hd_z (mf_th mo) 50) (hd_z (mf_us mo) 50) (hd_zk (mf_pk mo) 6) (hd_z (mf_pb mo) 6) (hd_z (mf_pf mo) 6) (hd_zl (mf_wt mo) 6) (hd_z (mf_pw mo) 6) 0 0 (-1) (-1) 0 0 1 (mf_s2 mo)) rfl rfl (by decide) in_M tyok_M nm_M tb_527 rfl rfl rfl rfl (Nat.le_of_ble_eq_true rfl) rfl d_M_fresh_131 (fun H locs h => ?_)
                    refine lv_aload_n C.1 C.2.1 d_M_fresh_134 rfl (lv_at hl 0 rfl) ?_
                    refine lv_iconst (v := 0) C.1 C.2.1 d_M_fresh_135 (by decide) ?_
                    refine sd_put C h 0 18 (v := .int 0) (ci := 3) (Cn := "StockDeskModel") (T := T_M) (N := 19) (ty0 := ty_M) (ws' := sd_Mx k3 q (mf_tc mo) (mf_ac mo) (mf_aa mo) (hd_z (mf_md mo) 5) (hd_z (mf_th mo) 50) (hd_z (mf_us mo) 50) (hd_zk (mf_pk mo) 6) (hd_z (mf_pb mo) 6) (hd_z (mf_pf mo) 6) (hd_zl (mf_wt mo) 6) (hd_z (mf_pw mo) 6) 0 0 (-1) (-1) 0 0 1 0) rfl rfl (by decide) in_M tyok_M nm_M tb_528 rfl rfl rfl rfl (Nat.le_of_ble_eq_true rfl) rfl d_M_fresh_136 (fun H locs h => ?_)
                    have h := sd_world h (ws' := sd_M k3 q (mm_fresh mo)) (by simp only [sd_M, mm_tc, mm_make, mm_drop, mm_kind, mm_answer, mm_way, mm_tell, mm_work, mm_byte, mm_keep, mm_dec, mm_fresh, hd_m, mf_tc, mf_ac, mf_aa, mf_md, mf_th, mf_us, mf_pk, mf_pb, mf_pf, mf_wt, mf_pw, mf_fl, mf_tw, mf_tp, mf_tn, mf_an, mf_co, mf_s1, mf_s2])
                    exact sd_vret C hr hlk h rfl d_M_fresh_139
                  · exact absurd (nI_le (a := 6) (b := 6) (by omega) (by decide)) c53
                | succ d ih =>
                  intro i hi H locs ls h hl
                  refine lv_iload_n C.1 C.2.1 d_M_fresh_50 rfl (lv_at hl 1 rfl) ?_
                  refine lv_bipush (v := 6) C.1 C.2.1 d_M_fresh_51 (by decide) ?_
                  refine lv_icmp_ge (tgt := 99) C.1 C.2.1 d_M_fresh_53 (by decide) (fun c53 => ?_) (fun c53 => ?_)
                  · exact absurd c53 (nI_ge (a := i) (b := 6) (by omega) (by decide))
                  · refine lv_aload_n C.1 C.2.1 d_M_fresh_56 rfl (lv_at hl 0 rfl) ?_
                    refine sd_get C h 0 6 (v := .ref (q 5)) (ci := 3) (Cn := "StockDeskModel") (T := T_M) (N := 19) rfl rfl (by decide) in_M tb_516 rfl d_M_fresh_57 ?_
                    refine lv_iload_n C.1 C.2.1 d_M_fresh_60 rfl (lv_at hl 1 rfl) ?_
                    refine lv_iload_n C.1 C.2.1 d_M_fresh_61 rfl (lv_at hl 1 rfl) ?_
                    refine lv_iconst (v := 5) C.1 C.2.1 d_M_fresh_62 (by decide) ?_
                    refine lv_irem C.1 C.2.1 d_M_fresh_63 (by decide) ?_
                    refine sd_top (v := .int ((nI i) - (nI i) / 5 * 5)) (v' := .int (nI (i % 5))) (congrArg Value.int (pk_rem (a := i) (d := 5) (by omega) (by decide) (by decide))) ?_
                    refine sd_iast C h 5 0 (i := i) (ws' := sd_Mx k3 q (mf_tc mo) (mf_ac mo) (mf_aa mo) (hd_z (mf_md mo) 5) (hd_z (mf_th mo) 50) (hd_z (mf_us mo) 50) (upd (hd_zk (mf_pk mo) i) i (nI (i % 5))) (hd_z (mf_pb mo) i) (hd_z (mf_pf mo) i) (hd_zl (mf_wt mo) i) (hd_z (mf_pw mo) i) (mf_fl mo) (mf_tw mo) (mf_tp mo) (mf_tn mo) (mf_an mo) (mf_co mo) (mf_s1 mo) (mf_s2 mo)) rfl rfl (by omega) (by decide) rfl d_M_fresh_64 (fun H locs h => ?_)
                    refine lv_aload_n C.1 C.2.1 d_M_fresh_65 rfl (lv_at hl 0 rfl) ?_
                    refine sd_get C h 0 7 (v := .ref (q 6)) (ci := 3) (Cn := "StockDeskModel") (T := T_M) (N := 19) rfl rfl (by decide) in_M tb_517 rfl d_M_fresh_66 ?_
                    refine lv_iload_n C.1 C.2.1 d_M_fresh_69 rfl (lv_at hl 1 rfl) ?_
                    refine lv_iconst (v := 0) C.1 C.2.1 d_M_fresh_70 (by decide) ?_
                    refine sd_iast C h 6 0 (i := i) (ws' := sd_Mx k3 q (mf_tc mo) (mf_ac mo) (mf_aa mo) (hd_z (mf_md mo) 5) (hd_z (mf_th mo) 50) (hd_z (mf_us mo) 50) (upd (hd_zk (mf_pk mo) i) i (nI (i % 5))) (upd (hd_z (mf_pb mo) i) i 0) (hd_z (mf_pf mo) i) (hd_zl (mf_wt mo) i) (hd_z (mf_pw mo) i) (mf_fl mo) (mf_tw mo) (mf_tp mo) (mf_tn mo) (mf_an mo) (mf_co mo) (mf_s1 mo) (mf_s2 mo)) rfl rfl (by omega) (by decide) rfl d_M_fresh_71 (fun H locs h => ?_)
                    refine lv_aload_n C.1 C.2.1 d_M_fresh_72 rfl (lv_at hl 0 rfl) ?_
                    refine sd_get C h 0 8 (v := .ref (q 7)) (ci := 3) (Cn := "StockDeskModel") (T := T_M) (N := 19) rfl rfl (by decide) in_M tb_518 rfl d_M_fresh_73 ?_
                    refine lv_iload_n C.1 C.2.1 d_M_fresh_76 rfl (lv_at hl 1 rfl) ?_
                    refine lv_iconst (v := 0) C.1 C.2.1 d_M_fresh_77 (by decide) ?_
                    refine sd_iast C h 7 0 (i := i) (ws' := sd_Mx k3 q (mf_tc mo) (mf_ac mo) (mf_aa mo) (hd_z (mf_md mo) 5) (hd_z (mf_th mo) 50) (hd_z (mf_us mo) 50) (upd (hd_zk (mf_pk mo) i) i (nI (i % 5))) (upd (hd_z (mf_pb mo) i) i 0) (upd (hd_z (mf_pf mo) i) i 0) (hd_zl (mf_wt mo) i) (hd_z (mf_pw mo) i) (mf_fl mo) (mf_tw mo) (mf_tp mo) (mf_tn mo) (mf_an mo) (mf_co mo) (mf_s1 mo) (mf_s2 mo)) rfl rfl (by omega) (by decide) rfl d_M_fresh_78 (fun H locs h => ?_)
                    refine lv_aload_n C.1 C.2.1 d_M_fresh_79 rfl (lv_at hl 0 rfl) ?_
                    refine sd_get C h 0 9 (v := .ref (q 8)) (ci := 3) (Cn := "StockDeskModel") (T := T_M) (N := 19) rfl rfl (by decide) in_M tb_519 rfl d_M_fresh_80 ?_
                    refine lv_iload_n C.1 C.2.1 d_M_fresh_83 rfl (lv_at hl 1 rfl) ?_
                    refine lv_lconst (v := 0) C.1 C.2.1 d_M_fresh_84 (by decide) ?_
                    refine sd_last C h 8 2 (i := i) (ws' := sd_Mx k3 q (mf_tc mo) (mf_ac mo) (mf_aa mo) (hd_z (mf_md mo) 5) (hd_z (mf_th mo) 50) (hd_z (mf_us mo) 50) (upd (hd_zk (mf_pk mo) i) i (nI (i % 5))) (upd (hd_z (mf_pb mo) i) i 0) (upd (hd_z (mf_pf mo) i) i 0) (vp_updL (hd_zl (mf_wt mo) i) i 0) (hd_z (mf_pw mo) i) (mf_fl mo) (mf_tw mo) (mf_tp mo) (mf_tn mo) (mf_an mo) (mf_co mo) (mf_s1 mo) (mf_s2 mo)) rfl rfl (by omega) (by decide) rfl d_M_fresh_85 (fun H locs h => ?_)
                    refine lv_aload_n C.1 C.2.1 d_M_fresh_86 rfl (lv_at hl 0 rfl) ?_
                    refine sd_get C h 0 10 (v := .ref (q 9)) (ci := 3) (Cn := "StockDeskModel") (T := T_M) (N := 19) rfl rfl (by decide) in_M tb_520 rfl d_M_fresh_87 ?_
                    refine lv_iload_n C.1 C.2.1 d_M_fresh_90 rfl (lv_at hl 1 rfl) ?_
                    refine lv_iconst (v := 0) C.1 C.2.1 d_M_fresh_91 (by decide) ?_
                    refine sd_iast C h 9 0 (i := i) (ws' := sd_Mx k3 q (mf_tc mo) (mf_ac mo) (mf_aa mo) (hd_z (mf_md mo) 5) (hd_z (mf_th mo) 50) (hd_z (mf_us mo) 50) (upd (hd_zk (mf_pk mo) i) i (nI (i % 5))) (upd (hd_z (mf_pb mo) i) i 0) (upd (hd_z (mf_pf mo) i) i 0) (vp_updL (hd_zl (mf_wt mo) i) i 0) (upd (hd_z (mf_pw mo) i) i 0) (mf_fl mo) (mf_tw mo) (mf_tp mo) (mf_tn mo) (mf_an mo) (mf_co mo) (mf_s1 mo) (mf_s2 mo)) rfl rfl (by omega) (by decide) rfl d_M_fresh_92 (fun H locs h => ?_)
                    refine lv_iinc (v := nI (i + 1)) (lv' := [(1, .int (nI (i + 1))), (0, .ref (q 0))]) C.1 C.2.1 d_M_fresh_93 hl (k := 1) rfl (nI_1 i) (by decide) rfl (fun ls hl => ?_)
                    refine lv_goto (tgt := 50) C.1 C.2.1 d_M_fresh_96 (by decide) ?_
                    exact ih (i + 1) (by omega) _ _ _ h (lv_sub hl [1, 0] rfl)
              exact loop3 (6 - 0) 0 (by omega) _ _ _ h (lv_sub hl [1, 0] rfl)
            · exact absurd (nI_le (a := 50) (b := 50) (by omega) (by decide)) c25
          | succ d ih =>
            intro i hi H locs ls h hl
            refine lv_iload_n C.1 C.2.1 d_M_fresh_22 rfl (lv_at hl 1 rfl) ?_
            refine lv_bipush (v := 50) C.1 C.2.1 d_M_fresh_23 (by decide) ?_
            refine lv_icmp_ge (tgt := 48) C.1 C.2.1 d_M_fresh_25 (by decide) (fun c25 => ?_) (fun c25 => ?_)
            · exact absurd c25 (nI_ge (a := i) (b := 50) (by omega) (by decide))
            · refine lv_aload_n C.1 C.2.1 d_M_fresh_28 rfl (lv_at hl 0 rfl) ?_
              refine sd_get C h 0 4 (v := .ref (q 3)) (ci := 3) (Cn := "StockDeskModel") (T := T_M) (N := 19) rfl rfl (by decide) in_M tb_514 rfl d_M_fresh_29 ?_
              refine lv_iload_n C.1 C.2.1 d_M_fresh_32 rfl (lv_at hl 1 rfl) ?_
              refine lv_iconst (v := 0) C.1 C.2.1 d_M_fresh_33 (by decide) ?_
              refine sd_zast C h 3 1 (i := i) (ws' := sd_Mx k3 q (mf_tc mo) (mf_ac mo) (mf_aa mo) (hd_z (mf_md mo) 5) (upd (hd_z (mf_th mo) i) i 0) (hd_z (mf_us mo) i) (mf_pk mo) (mf_pb mo) (mf_pf mo) (mf_wt mo) (mf_pw mo) (mf_fl mo) (mf_tw mo) (mf_tp mo) (mf_tn mo) (mf_an mo) (mf_co mo) (mf_s1 mo) (mf_s2 mo)) rfl rfl (by omega) (by decide) rfl rfl d_M_fresh_34 (fun H locs h => ?_)
              refine lv_aload_n C.1 C.2.1 d_M_fresh_35 rfl (lv_at hl 0 rfl) ?_
              refine sd_get C h 0 5 (v := .ref (q 4)) (ci := 3) (Cn := "StockDeskModel") (T := T_M) (N := 19) rfl rfl (by decide) in_M tb_515 rfl d_M_fresh_36 ?_
              refine lv_iload_n C.1 C.2.1 d_M_fresh_39 rfl (lv_at hl 1 rfl) ?_
              refine lv_iconst (v := 0) C.1 C.2.1 d_M_fresh_40 (by decide) ?_
              refine sd_iast C h 4 0 (i := i) (ws' := sd_Mx k3 q (mf_tc mo) (mf_ac mo) (mf_aa mo) (hd_z (mf_md mo) 5) (upd (hd_z (mf_th mo) i) i 0) (upd (hd_z (mf_us mo) i) i 0) (mf_pk mo) (mf_pb mo) (mf_pf mo) (mf_wt mo) (mf_pw mo) (mf_fl mo) (mf_tw mo) (mf_tp mo) (mf_tn mo) (mf_an mo) (mf_co mo) (mf_s1 mo) (mf_s2 mo)) rfl rfl (by omega) (by decide) rfl d_M_fresh_41 (fun H locs h => ?_)
              refine lv_iinc (v := nI (i + 1)) (lv' := [(1, .int (nI (i + 1))), (0, .ref (q 0))]) C.1 C.2.1 d_M_fresh_42 hl (k := 1) rfl (nI_1 i) (by decide) rfl (fun ls hl => ?_)
              refine lv_goto (tgt := 22) C.1 C.2.1 d_M_fresh_45 (by decide) ?_
              exact ih (i + 1) (by omega) _ _ _ h (lv_sub hl [1, 0] rfl)
        exact loop2 (50 - 0) 0 (by omega) _ _ _ h (lv_sub hl [1, 0] rfl)
      · exact absurd (nI_le (a := 5) (b := 5) (by omega) (by decide)) c4
    | succ d ih =>
      intro i hi H locs ls h hl
      refine lv_iload_n C.1 C.2.1 d_M_fresh_2 rfl (lv_at hl 1 rfl) ?_
      refine lv_iconst (v := 5) C.1 C.2.1 d_M_fresh_3 (by decide) ?_
      refine lv_icmp_ge (tgt := 20) C.1 C.2.1 d_M_fresh_4 (by decide) (fun c4 => ?_) (fun c4 => ?_)
      · exact absurd c4 (nI_ge (a := i) (b := 5) (by omega) (by decide))
      · refine lv_aload_n C.1 C.2.1 d_M_fresh_7 rfl (lv_at hl 0 rfl) ?_
        refine sd_get C h 0 3 (v := .ref (q 2)) (ci := 3) (Cn := "StockDeskModel") (T := T_M) (N := 19) rfl rfl (by decide) in_M tb_513 rfl d_M_fresh_8 ?_
        refine lv_iload_n C.1 C.2.1 d_M_fresh_11 rfl (lv_at hl 1 rfl) ?_
        refine lv_iconst (v := 0) C.1 C.2.1 d_M_fresh_12 (by decide) ?_
        refine sd_iast C h 2 0 (i := i) (ws' := sd_Mx k3 q (mf_tc mo) (mf_ac mo) (mf_aa mo) (upd (hd_z (mf_md mo) i) i 0) (mf_th mo) (mf_us mo) (mf_pk mo) (mf_pb mo) (mf_pf mo) (mf_wt mo) (mf_pw mo) (mf_fl mo) (mf_tw mo) (mf_tp mo) (mf_tn mo) (mf_an mo) (mf_co mo) (mf_s1 mo) (mf_s2 mo)) rfl rfl (by omega) (by decide) rfl d_M_fresh_13 (fun H locs h => ?_)
        refine lv_iinc (v := nI (i + 1)) (lv' := [(1, .int (nI (i + 1))), (0, .ref (q 0))]) C.1 C.2.1 d_M_fresh_14 hl (k := 1) rfl (nI_1 i) (by decide) rfl (fun ls hl => ?_)
        refine lv_goto (tgt := 2) C.1 C.2.1 d_M_fresh_17 (by decide) ?_
        exact ih (i + 1) (by omega) _ _ _ h (lv_sub hl [1, 0] rfl)
  exact loop1 (5 - 0) 0 (by omega) _ _ _ h (lv_sub hl [1, 0] rfl)

set_option maxHeartbeats 4000000 in
set_option maxRecDepth 100000 in
theorem k_M_notT (l : Launch) (D : va_G) (k3 : ClassId × ClassId × ClassId) (sz : Nat) (x : Int32) (b : Int32) (f : Int32) (hb : x < b ∨ f < x) : Met l y_M_not (sd_ws y_M_not c_M_not 3 (some FieldType.boolean)) ({ frames := 0, cells := 0, slots := 0, locals := 0 }) (sd_Pc D (sd_t3 k3) [.int x, .int b, .int f] sz ([])) (sd_Qi D (sd_t3 k3) (va_A ([]) sz) (fun r w => r = 1 ∧ w = [])) 0 0 (va_A ([]) sz) := by
  refine sd_met (cc := c_M_not) (maxL := 3) (ret := some .boolean) (by decide) (Nat.le_of_ble_eq_true rfl) (fun p e s m below meth c C hr hlk hnm hsz h ls hl => ?_)
  generalize va_A ([]) sz = A at h ⊢
  have hl : lv_has ls 3 [(0, .int x), (1, .int b), (2, .int f)] := hl
  generalize hH : s.heap = H at h ⊢
  refine lv_iload_n C.1 C.2.1 d_M_not_0 rfl (lv_at hl 0 rfl) ?_
  refine lv_iload_n C.1 C.2.1 d_M_not_1 rfl (lv_at hl 1 rfl) ?_
  refine lv_icmp_lt (tgt := 10) C.1 C.2.1 d_M_not_2 (by decide) (fun c2 => ?_) (fun c2 => ?_)
  · refine lv_iconst (v := 1) C.1 C.2.1 d_M_not_10 (by decide) ?_
    refine lv_goto (tgt := 15) C.1 C.2.1 d_M_not_11 (by decide) ?_
    exact sd_zret (v := 1) C hr rfl hlk h ⟨rfl, rfl⟩ d_M_not_15
  · refine lv_iload_n C.1 C.2.1 d_M_not_5 rfl (lv_at hl 0 rfl) ?_
    refine lv_iload_n C.1 C.2.1 d_M_not_6 rfl (lv_at hl 2 rfl) ?_
    refine lv_icmp_le (tgt := 14) C.1 C.2.1 d_M_not_7 (by decide) (fun c7 => ?_) (fun c7 => ?_)
    · exact hb.elim (fun z => absurd z c2) (fun z => absurd c7 (Int32.not_le.mpr z))
    · refine lv_iconst (v := 1) C.1 C.2.1 d_M_not_10 (by decide) ?_
      refine lv_goto (tgt := 15) C.1 C.2.1 d_M_not_11 (by decide) ?_
      exact sd_zret (v := 1) C hr rfl hlk h ⟨rfl, rfl⟩ d_M_not_15

set_option maxHeartbeats 4000000 in
set_option maxRecDepth 100000 in
theorem k_M_notF (l : Launch) (D : va_G) (k3 : ClassId × ClassId × ClassId) (sz : Nat) (x : Int32) (b : Int32) (f : Int32) (hb : ¬ (x < b ∨ f < x)) : Met l y_M_not (sd_ws y_M_not c_M_not 3 (some FieldType.boolean)) ({ frames := 0, cells := 0, slots := 0, locals := 0 }) (sd_Pc D (sd_t3 k3) [.int x, .int b, .int f] sz ([])) (sd_Qi D (sd_t3 k3) (va_A ([]) sz) (fun r w => r = 0 ∧ w = [])) 0 0 (va_A ([]) sz) := by
  refine sd_met (cc := c_M_not) (maxL := 3) (ret := some .boolean) (by decide) (Nat.le_of_ble_eq_true rfl) (fun p e s m below meth c C hr hlk hnm hsz h ls hl => ?_)
  generalize va_A ([]) sz = A at h ⊢
  have hl : lv_has ls 3 [(0, .int x), (1, .int b), (2, .int f)] := hl
  generalize hH : s.heap = H at h ⊢
  refine lv_iload_n C.1 C.2.1 d_M_not_0 rfl (lv_at hl 0 rfl) ?_
  refine lv_iload_n C.1 C.2.1 d_M_not_1 rfl (lv_at hl 1 rfl) ?_
  refine lv_icmp_lt (tgt := 10) C.1 C.2.1 d_M_not_2 (by decide) (fun c2 => ?_) (fun c2 => ?_)
  · exact absurd (Or.inl c2) hb
  · refine lv_iload_n C.1 C.2.1 d_M_not_5 rfl (lv_at hl 0 rfl) ?_
    refine lv_iload_n C.1 C.2.1 d_M_not_6 rfl (lv_at hl 2 rfl) ?_
    refine lv_icmp_le (tgt := 14) C.1 C.2.1 d_M_not_7 (by decide) (fun c7 => ?_) (fun c7 => ?_)
    · refine lv_iconst (v := 0) C.1 C.2.1 d_M_not_14 (by decide) ?_
      exact sd_zret (v := 0) C hr rfl hlk h ⟨rfl, rfl⟩ d_M_not_15
    · exact absurd (Or.inr (Int32.not_le.mp c7)) hb

set_option maxHeartbeats 4000000 in
set_option maxRecDepth 100000 in
theorem k_M_isThereT (l : Launch) (D : va_G) (k3 : ClassId × ClassId × ClassId) (sz : Nat) (q : Nat → Nat) (mo : sd_MS) (u : sd_HS) (k : Nat) (j : Nat) (hr9 : sm_rel mo u) (hk : k < 5) (h1 : 1 ≤ j) (h9 : j ≤ 9) (hh : ¬ hf_th u (k * 9 + j - 1) = 0) : Met l y_M_isThere (sd_ws y_M_isThere c_M_isThere 3 (some FieldType.boolean)) ({ frames := 0, cells := 0, slots := 0, locals := 0 }) (sd_Pc D (sd_t3 k3) [.ref (q 0), .int (nI k), .int (nI j)] sz (sd_M k3 q mo)) (sd_Qi D (sd_t3 k3) (va_A (sd_M k3 q mo) sz) (fun r w => r = 1 ∧ w = sd_M k3 q mo)) 0 0 (va_A (sd_M k3 q mo) sz) := by
  refine sd_met (cc := c_M_isThere) (maxL := 3) (ret := some .boolean) (by decide) (Nat.le_of_ble_eq_true rfl) (fun p e s m below meth c C hr hlk hnm hsz h ls hl => ?_)
  generalize va_A (sd_M k3 q mo) sz = A at h ⊢
  have hl : lv_has ls 3 [(0, .ref (q 0)), (1, .int (nI k)), (2, .int (nI j))] := hl
  generalize hH : s.heap = H at h ⊢
  refine lv_iload_n C.1 C.2.1 d_M_isThere_0 rfl (lv_at hl 2 rfl) ?_
  refine lv_if_le (tgt := 28) C.1 C.2.1 d_M_isThere_1 (by decide) (fun c1 => ?_) (fun c1 => ?_)
  · exact absurd c1 (nI_nle (by omega) (by omega))
  · refine lv_iload_n C.1 C.2.1 d_M_isThere_4 rfl (lv_at hl 2 rfl) ?_
    refine lv_bipush (v := 10) C.1 C.2.1 d_M_isThere_5 (by decide) ?_
    refine lv_icmp_ge (tgt := 28) C.1 C.2.1 d_M_isThere_7 (by decide) (fun c7 => ?_) (fun c7 => ?_)
    · exact absurd c7 (nI_ge (a := j) (b := 10) (by omega) (by decide))
    · refine lv_aload_n C.1 C.2.1 d_M_isThere_10 rfl (lv_at hl 0 rfl) ?_
      refine sd_get C h 0 4 (v := .ref (q 3)) (ci := 3) (Cn := "StockDeskModel") (T := T_M) (N := 19) rfl rfl (by decide) in_M tb_514 rfl d_M_isThere_11 ?_
      refine lv_bipush (v := 10) C.1 C.2.1 d_M_isThere_14 (by decide) ?_
      refine lv_iload_n C.1 C.2.1 d_M_isThere_16 rfl (lv_at hl 1 rfl) ?_
      refine lv_imul C.1 C.2.1 d_M_isThere_17 ?_
      refine lv_iload_n C.1 C.2.1 d_M_isThere_18 rfl (lv_at hl 2 rfl) ?_
      refine lv_iadd C.1 C.2.1 d_M_isThere_19 ?_
      refine sd_top (v := .int ((10 * (nI k)) + (nI j))) (v' := .int (nI (10 * k + j))) (congrArg Value.int (sm_ix k j)) ?_
      refine sd_zald C h 3 1 (i := (10 * k + j)) rfl rfl (by omega) (by decide) d_M_isThere_20 ?_
      refine lv_if_eq (tgt := 28) C.1 C.2.1 d_M_isThere_21 (by decide) (fun c21 => ?_) (fun c21 => ?_)
      · exact absurd ((hr9.th k j hk h1 h9).symm.trans c21) hh
      · refine lv_iconst (v := 1) C.1 C.2.1 d_M_isThere_24 (by decide) ?_
        refine lv_goto (tgt := 29) C.1 C.2.1 d_M_isThere_25 (by decide) ?_
        exact sd_zret (v := 1) C hr rfl hlk h ⟨rfl, rfl⟩ d_M_isThere_29

set_option maxHeartbeats 4000000 in
set_option maxRecDepth 100000 in
theorem k_M_isThereF (l : Launch) (D : va_G) (k3 : ClassId × ClassId × ClassId) (sz : Nat) (q : Nat → Nat) (mo : sd_MS) (u : sd_HS) (k : Nat) (y : Int32) (hr9 : sm_rel mo u) (hk : k < 5) (hh : ¬ hd_has u k y) : Met l y_M_isThere (sd_ws y_M_isThere c_M_isThere 3 (some FieldType.boolean)) ({ frames := 0, cells := 0, slots := 0, locals := 0 }) (sd_Pc D (sd_t3 k3) [.ref (q 0), .int (nI k), .int y] sz (sd_M k3 q mo)) (sd_Qi D (sd_t3 k3) (va_A (sd_M k3 q mo) sz) (fun r w => r = 0 ∧ w = sd_M k3 q mo)) 0 0 (va_A (sd_M k3 q mo) sz) := by
  refine sd_met (cc := c_M_isThere) (maxL := 3) (ret := some .boolean) (by decide) (Nat.le_of_ble_eq_true rfl) (fun p e s m below meth c C hr hlk hnm hsz h ls hl => ?_)
  generalize va_A (sd_M k3 q mo) sz = A at h ⊢
  have hl : lv_has ls 3 [(0, .ref (q 0)), (1, .int (nI k)), (2, .int y)] := hl
  generalize hH : s.heap = H at h ⊢
  refine lv_iload_n C.1 C.2.1 d_M_isThere_0 rfl (lv_at hl 2 rfl) ?_
  refine lv_if_le (tgt := 28) C.1 C.2.1 d_M_isThere_1 (by decide) (fun c1 => ?_) (fun c1 => ?_)
  · refine lv_iconst (v := 0) C.1 C.2.1 d_M_isThere_28 (by decide) ?_
    exact sd_zret (v := 0) C hr rfl hlk h ⟨rfl, rfl⟩ d_M_isThere_29
  · refine lv_iload_n C.1 C.2.1 d_M_isThere_4 rfl (lv_at hl 2 rfl) ?_
    refine lv_bipush (v := 10) C.1 C.2.1 d_M_isThere_5 (by decide) ?_
    refine lv_icmp_ge (tgt := 28) C.1 C.2.1 d_M_isThere_7 (by decide) (fun c7 => ?_) (fun c7 => ?_)
    · refine lv_iconst (v := 0) C.1 C.2.1 d_M_isThere_28 (by decide) ?_
      exact sd_zret (v := 0) C hr rfl hlk h ⟨rfl, rfl⟩ d_M_isThere_29
    · obtain ⟨j, h1, h9, rfl⟩ := sm_rng c1 c7
      refine lv_aload_n C.1 C.2.1 d_M_isThere_10 rfl (lv_at hl 0 rfl) ?_
      refine sd_get C h 0 4 (v := .ref (q 3)) (ci := 3) (Cn := "StockDeskModel") (T := T_M) (N := 19) rfl rfl (by decide) in_M tb_514 rfl d_M_isThere_11 ?_
      refine lv_bipush (v := 10) C.1 C.2.1 d_M_isThere_14 (by decide) ?_
      refine lv_iload_n C.1 C.2.1 d_M_isThere_16 rfl (lv_at hl 1 rfl) ?_
      refine lv_imul C.1 C.2.1 d_M_isThere_17 ?_
      refine lv_iload_n C.1 C.2.1 d_M_isThere_18 rfl (lv_at hl 2 rfl) ?_
      refine lv_iadd C.1 C.2.1 d_M_isThere_19 ?_
      refine sd_top (v := .int ((10 * (nI k)) + (nI j))) (v' := .int (nI (10 * k + j))) (congrArg Value.int (sm_ix k j)) ?_
      refine sd_zald C h 3 1 (i := (10 * k + j)) rfl rfl (by omega) (by decide) d_M_isThere_20 ?_
      refine lv_if_eq (tgt := 28) C.1 C.2.1 d_M_isThere_21 (by decide) (fun c21 => ?_) (fun c21 => ?_)
      · refine lv_iconst (v := 0) C.1 C.2.1 d_M_isThere_28 (by decide) ?_
        exact sd_zret (v := 0) C hr rfl hlk h ⟨rfl, rfl⟩ d_M_isThere_29
      · exact absurd (sm_hasj (j := j) h1 h9 (fun z => c21 ((hr9.th k j hk h1 h9).trans z))) hh

set_option maxHeartbeats 4000000 in
set_option maxRecDepth 100000 in
theorem k_M_calls (l : Launch) (D : va_G) (k3 : ClassId × ClassId × ClassId) (sz : Nat) (q : Nat → Nat) (mo : sd_MS) (pt : Nat) (k : Nat) (j : Nat) (a : Int32) (hp : pt < 6) (hk : k < 5) (h1 : 1 ≤ j) (h9 : j ≤ 9) (hkp : mf_pk mo pt = nI k) : Met l y_M_calls (sd_ws y_M_calls c_M_calls 5 none) ({ frames := 0, cells := 0, slots := 0, locals := 0 }) (sd_Pc D (sd_t3 k3) [.ref (q 0), .int (nI pt), .int (nI j), .int a] sz (sd_M k3 q mo)) (sd_Qv D (sd_t3 k3) (va_A (sd_M k3 q mo) sz) (fun w => w = sd_M k3 q (mm_call mo pt k j a))) 0 0 (va_A (sd_M k3 q mo) sz) := by
  refine sd_met (cc := c_M_calls) (maxL := 5) (ret := none) (by decide) (Nat.le_of_ble_eq_true rfl) (fun p e s m below meth c C hr hlk hnm hsz h ls hl => ?_)
  generalize va_A (sd_M k3 q mo) sz = A at h ⊢
  have hl : lv_has ls 5 [(0, .ref (q 0)), (1, .int (nI pt)), (2, .int (nI j)), (3, .int a)] := hl
  generalize hH : s.heap = H at h ⊢
  refine lv_aload_n C.1 C.2.1 d_M_calls_0 rfl (lv_at hl 0 rfl) ?_
  refine sd_get C h 0 10 (v := .ref (q 9)) (ci := 3) (Cn := "StockDeskModel") (T := T_M) (N := 19) rfl rfl (by decide) in_M tb_520 rfl d_M_calls_1 ?_
  refine lv_iload_n C.1 C.2.1 d_M_calls_4 rfl (lv_at hl 1 rfl) ?_
  refine sd_iald C h 9 0 (i := pt) rfl rfl (by omega) (by decide) d_M_calls_5 ?_
  refine lv_if_le (tgt := 40) C.1 C.2.1 d_M_calls_6 (by decide) (fun c6 => ?_) (fun c6 => ?_)
  · refine lv_bipush (v := 10) C.1 C.2.1 d_M_calls_40 (by decide) ?_
    refine lv_aload_n C.1 C.2.1 d_M_calls_42 rfl (lv_at hl 0 rfl) ?_
    refine sd_get C h 0 6 (v := .ref (q 5)) (ci := 3) (Cn := "StockDeskModel") (T := T_M) (N := 19) rfl rfl (by decide) in_M tb_516 rfl d_M_calls_43 ?_
    refine lv_iload_n C.1 C.2.1 d_M_calls_46 rfl (lv_at hl 1 rfl) ?_
    refine sd_iald C h 5 0 (i := pt) rfl rfl (by omega) (by decide) d_M_calls_47 ?_
    refine sd_top (v := .int ((mf_pk mo) pt)) (v' := .int (nI k)) (congrArg Value.int (hkp)) ?_
    refine lv_imul C.1 C.2.1 d_M_calls_48 ?_
    refine lv_iload_n C.1 C.2.1 d_M_calls_49 rfl (lv_at hl 2 rfl) ?_
    refine lv_iadd C.1 C.2.1 d_M_calls_50 ?_
    refine sd_top (v := .int ((10 * (nI k)) + (nI j))) (v' := .int (nI (10 * k + j))) (congrArg Value.int (sm_ix k j)) ?_
    refine lv_istore (lv' := [(4, .int (nI (10 * k + j))), (0, .ref (q 0)), (1, .int (nI pt)), (2, .int (nI j)), (3, .int a)]) C.1 C.2.1 d_M_calls_51 hl (by decide) rfl (fun ls hl => ?_)
    refine lv_aload_n C.1 C.2.1 d_M_calls_53 rfl (lv_at hl 1 rfl) ?_
    refine sd_get C h 0 5 (v := .ref (q 4)) (ci := 3) (Cn := "StockDeskModel") (T := T_M) (N := 19) rfl rfl (by decide) in_M tb_515 rfl d_M_calls_54 ?_
    refine lv_iload C.1 C.2.1 d_M_calls_57 (lv_at hl 0 rfl) ?_
    refine lv_aload_n C.1 C.2.1 d_M_calls_59 rfl (lv_at hl 1 rfl) ?_
    refine sd_get C h 0 5 (v := .ref (q 4)) (ci := 3) (Cn := "StockDeskModel") (T := T_M) (N := 19) rfl rfl (by decide) in_M tb_515 rfl d_M_calls_60 ?_
    refine lv_iload C.1 C.2.1 d_M_calls_63 (lv_at hl 0 rfl) ?_
    refine sd_iald C h 4 0 (i := (10 * k + j)) rfl rfl (by omega) (by decide) d_M_calls_65 ?_
    refine lv_iconst (v := 1) C.1 C.2.1 d_M_calls_66 (by decide) ?_
    refine lv_iadd C.1 C.2.1 d_M_calls_67 ?_
    refine sd_iast C h 4 0 (i := (10 * k + j)) (ws' := sd_Mx k3 q (mf_tc mo) (mf_ac mo) (mf_aa mo) (mf_md mo) (mf_th mo) (upd (mf_us mo) (10 * k + j) (((mf_us mo) (10 * k + j)) + 1)) (mf_pk mo) (mf_pb mo) (mf_pf mo) (mf_wt mo) (mf_pw mo) (mf_fl mo) (mf_tw mo) (mf_tp mo) (mf_tn mo) (mf_an mo) (mf_co mo) (mf_s1 mo) (mf_s2 mo)) rfl rfl (by omega) (by decide) rfl d_M_calls_68 (fun H locs h => ?_)
    refine lv_aload_n C.1 C.2.1 d_M_calls_69 rfl (lv_at hl 1 rfl) ?_
    refine sd_get C h 0 9 (v := .ref (q 8)) (ci := 3) (Cn := "StockDeskModel") (T := T_M) (N := 19) rfl rfl (by decide) in_M tb_519 rfl d_M_calls_70 ?_
    refine lv_iload_n C.1 C.2.1 d_M_calls_73 rfl (lv_at hl 2 rfl) ?_
    refine lv_aload_n C.1 C.2.1 d_M_calls_74 rfl (lv_at hl 1 rfl) ?_
    refine sd_get C h 0 9 (v := .ref (q 8)) (ci := 3) (Cn := "StockDeskModel") (T := T_M) (N := 19) rfl rfl (by decide) in_M tb_519 rfl d_M_calls_75 ?_
    refine lv_iload_n C.1 C.2.1 d_M_calls_78 rfl (lv_at hl 2 rfl) ?_
    refine sd_lald C h 8 2 (i := pt) rfl rfl (by omega) (by decide) d_M_calls_79 ?_
    refine lv_iload_n C.1 C.2.1 d_M_calls_80 rfl (lv_at hl 4 rfl) ?_
    refine lv_i2l (v := a.toInt64) C.1 C.2.1 d_M_calls_81 rfl ?_
    refine lv_ladd C.1 C.2.1 d_M_calls_82 ?_
    refine sd_last C h 8 2 (i := pt) (ws' := sd_Mx k3 q (mf_tc mo) (mf_ac mo) (mf_aa mo) (mf_md mo) (mf_th mo) (upd (mf_us mo) (10 * k + j) (((mf_us mo) (10 * k + j)) + 1)) (mf_pk mo) (mf_pb mo) (mf_pf mo) (vp_updL (mf_wt mo) pt (((mf_wt mo) pt) + a.toInt64)) (mf_pw mo) (mf_fl mo) (mf_tw mo) (mf_tp mo) (mf_tn mo) (mf_an mo) (mf_co mo) (mf_s1 mo) (mf_s2 mo)) rfl rfl (by omega) (by decide) rfl d_M_calls_83 (fun H locs h => ?_)
    refine lv_aload_n C.1 C.2.1 d_M_calls_84 rfl (lv_at hl 1 rfl) ?_
    refine lv_dup C.1 C.2.1 d_M_calls_85 rfl ?_
    refine sd_get C h 0 15 (v := .int (mf_an mo)) (ci := 3) (Cn := "StockDeskModel") (T := T_M) (N := 19) rfl rfl (by decide) in_M tb_525 rfl d_M_calls_86 ?_
    refine lv_iconst (v := 1) C.1 C.2.1 d_M_calls_89 (by decide) ?_
    refine lv_iadd C.1 C.2.1 d_M_calls_90 ?_
    refine sd_put C h 0 15 (v := .int ((mf_an mo) + 1)) (ci := 3) (Cn := "StockDeskModel") (T := T_M) (N := 19) (ty0 := ty_M) (ws' := sd_Mx k3 q (mf_tc mo) (mf_ac mo) (mf_aa mo) (mf_md mo) (mf_th mo) (upd (mf_us mo) (10 * k + j) (((mf_us mo) (10 * k + j)) + 1)) (mf_pk mo) (mf_pb mo) (mf_pf mo) (vp_updL (mf_wt mo) pt (((mf_wt mo) pt) + a.toInt64)) (mf_pw mo) (mf_fl mo) (mf_tw mo) (mf_tp mo) (mf_tn mo) ((mf_an mo) + 1) (mf_co mo) (mf_s1 mo) (mf_s2 mo)) rfl rfl (by decide) in_M tyok_M nm_M tb_525 rfl rfl rfl rfl (Nat.le_of_ble_eq_true rfl) rfl d_M_calls_91 (fun H locs h => ?_)
    have h := sd_world h (ws' := sd_M k3 q (mm_work mo pt k j a)) (by simp only [sd_M, mm_tc, mm_make, mm_drop, mm_kind, mm_answer, mm_way, mm_tell, mm_work, mm_byte, mm_keep, mm_dec, mm_fresh, hd_m, mf_tc, mf_ac, mf_aa, mf_md, mf_th, mf_us, mf_pk, mf_pb, mf_pf, mf_wt, mf_pw, mf_fl, mf_tw, mf_tp, mf_tn, mf_an, mf_co, mf_s1, mf_s2])
    exact sd_vret C hr hlk h (by unfold mm_call; rw [if_pos c6]) d_M_calls_94
  · refine lv_aload_n C.1 C.2.1 d_M_calls_9 rfl (lv_at hl 0 rfl) ?_
    refine lv_dup C.1 C.2.1 d_M_calls_10 rfl ?_
    refine sd_get C h 0 11 (v := .int (mf_fl mo)) (ci := 3) (Cn := "StockDeskModel") (T := T_M) (N := 19) rfl rfl (by decide) in_M tb_521 rfl d_M_calls_11 ?_
    refine lv_iconst (v := 1) C.1 C.2.1 d_M_calls_14 (by decide) ?_
    refine lv_iadd C.1 C.2.1 d_M_calls_15 ?_
    refine sd_put C h 0 11 (v := .int ((mf_fl mo) + 1)) (ci := 3) (Cn := "StockDeskModel") (T := T_M) (N := 19) (ty0 := ty_M) (ws' := sd_Mx k3 q (mf_tc mo) (mf_ac mo) (mf_aa mo) (mf_md mo) (mf_th mo) (mf_us mo) (mf_pk mo) (mf_pb mo) (mf_pf mo) (mf_wt mo) (mf_pw mo) ((mf_fl mo) + 1) (mf_tw mo) (mf_tp mo) (mf_tn mo) (mf_an mo) (mf_co mo) (mf_s1 mo) (mf_s2 mo)) rfl rfl (by decide) in_M tyok_M nm_M tb_521 rfl rfl rfl rfl (Nat.le_of_ble_eq_true rfl) rfl d_M_calls_16 (fun H locs h => ?_)
    refine lv_aload_n C.1 C.2.1 d_M_calls_19 rfl (lv_at hl 0 rfl) ?_
    refine lv_aload_n C.1 C.2.1 d_M_calls_20 rfl (lv_at hl 0 rfl) ?_
    refine sd_get C h 0 10 (v := .ref (q 9)) (ci := 3) (Cn := "StockDeskModel") (T := T_M) (N := 19) rfl rfl (by decide) in_M tb_520 rfl d_M_calls_21 ?_
    refine lv_iload_n C.1 C.2.1 d_M_calls_24 rfl (lv_at hl 1 rfl) ?_
    refine sd_iald C h 9 0 (i := pt) rfl rfl (by omega) (by decide) d_M_calls_25 ?_
    refine sd_put C h 0 12 (v := .int ((mf_pw mo) pt)) (ci := 3) (Cn := "StockDeskModel") (T := T_M) (N := 19) (ty0 := ty_M) (ws' := sd_Mx k3 q (mf_tc mo) (mf_ac mo) (mf_aa mo) (mf_md mo) (mf_th mo) (mf_us mo) (mf_pk mo) (mf_pb mo) (mf_pf mo) (mf_wt mo) (mf_pw mo) ((mf_fl mo) + 1) ((mf_pw mo) pt) (mf_tp mo) (mf_tn mo) (mf_an mo) (mf_co mo) (mf_s1 mo) (mf_s2 mo)) rfl rfl (by decide) in_M tyok_M nm_M tb_522 rfl rfl rfl rfl (Nat.le_of_ble_eq_true rfl) rfl d_M_calls_26 (fun H locs h => ?_)
    refine lv_aload_n C.1 C.2.1 d_M_calls_29 rfl (lv_at hl 0 rfl) ?_
    refine lv_iload_n C.1 C.2.1 d_M_calls_30 rfl (lv_at hl 1 rfl) ?_
    refine sd_put C h 0 13 (v := .int (nI pt)) (ci := 3) (Cn := "StockDeskModel") (T := T_M) (N := 19) (ty0 := ty_M) (ws' := sd_Mx k3 q (mf_tc mo) (mf_ac mo) (mf_aa mo) (mf_md mo) (mf_th mo) (mf_us mo) (mf_pk mo) (mf_pb mo) (mf_pf mo) (mf_wt mo) (mf_pw mo) ((mf_fl mo) + 1) ((mf_pw mo) pt) (nI pt) (mf_tn mo) (mf_an mo) (mf_co mo) (mf_s1 mo) (mf_s2 mo)) rfl rfl (by decide) in_M tyok_M nm_M tb_523 rfl rfl rfl rfl (Nat.le_of_ble_eq_true rfl) rfl d_M_calls_31 (fun H locs h => ?_)
    refine lv_aload_n C.1 C.2.1 d_M_calls_34 rfl (lv_at hl 0 rfl) ?_
    refine lv_iload_n C.1 C.2.1 d_M_calls_35 rfl (lv_at hl 2 rfl) ?_
    refine sd_put C h 0 14 (v := .int (nI j)) (ci := 3) (Cn := "StockDeskModel") (T := T_M) (N := 19) (ty0 := ty_M) (ws' := sd_Mx k3 q (mf_tc mo) (mf_ac mo) (mf_aa mo) (mf_md mo) (mf_th mo) (mf_us mo) (mf_pk mo) (mf_pb mo) (mf_pf mo) (mf_wt mo) (mf_pw mo) ((mf_fl mo) + 1) ((mf_pw mo) pt) (nI pt) (nI j) (mf_an mo) (mf_co mo) (mf_s1 mo) (mf_s2 mo)) rfl rfl (by decide) in_M tyok_M nm_M tb_524 rfl rfl rfl rfl (Nat.le_of_ble_eq_true rfl) rfl d_M_calls_36 (fun H locs h => ?_)
    have h := sd_world h (ws' := sd_M k3 q (mm_tell mo pt (nI j))) (by simp only [sd_M, mm_tc, mm_make, mm_drop, mm_kind, mm_answer, mm_way, mm_tell, mm_work, mm_byte, mm_keep, mm_dec, mm_fresh, hd_m, mf_tc, mf_ac, mf_aa, mf_md, mf_th, mf_us, mf_pk, mf_pb, mf_pf, mf_wt, mf_pw, mf_fl, mf_tw, mf_tp, mf_tn, mf_an, mf_co, mf_s1, mf_s2])
    exact sd_vret C hr hlk h (by unfold mm_call; rw [if_neg c6]) d_M_calls_39

set_option maxHeartbeats 4000000 in
set_option maxRecDepth 100000 in
theorem k_M_answer (l : Launch) (D : va_G) (k3 : ClassId × ClassId × ClassId) (sz : Nat) (q : Nat → Nat) (mo : sd_MS) (u : sd_HS) (pt : Nat) (y : Int32) (a : Int32) (hr9 : sm_rel mo u) (hp : pt < 6) : Met l y_M_answer (sd_ws y_M_answer c_M_answer 4 (some FieldType.long)) ({ frames := 0, cells := 0, slots := 0, locals := 0 }) (sd_Pc D (sd_t3 k3) [.ref (q 0), .int (nI pt), .int y, .int a] sz (sd_M k3 q mo)) (sd_Ql D (sd_t3 k3) (va_A (sd_M k3 q mo) sz) (fun r w => r = hd_ans u pt y a ∧ w = sd_M k3 q mo)) 0 0 (va_A (sd_M k3 q mo) sz) := by
  refine sd_met (cc := c_M_answer) (maxL := 4) (ret := some .long) (by decide) (Nat.le_of_ble_eq_true rfl) (fun p e s m below meth c C hr hlk hnm hsz h ls hl => ?_)
  generalize va_A (sd_M k3 q mo) sz = A at h ⊢
  have hl : lv_has ls 4 [(0, .ref (q 0)), (1, .int (nI pt)), (2, .int y), (3, .int a)] := hl
  generalize hH : s.heap = H at h ⊢
  refine lv_aload_n C.1 C.2.1 d_M_answer_0 rfl (lv_at hl 0 rfl) ?_
  refine sd_get C h 0 7 (v := .ref (q 6)) (ci := 3) (Cn := "StockDeskModel") (T := T_M) (N := 19) rfl rfl (by decide) in_M tb_517 rfl d_M_answer_1 ?_
  refine lv_iload_n C.1 C.2.1 d_M_answer_4 rfl (lv_at hl 1 rfl) ?_
  refine sd_iald C h 6 0 (i := pt) rfl rfl (by omega) (by decide) d_M_answer_5 ?_
  refine lv_i2l (v := ((mf_pb mo) pt).toInt64) C.1 C.2.1 d_M_answer_6 rfl ?_
  refine lv_aload_n C.1 C.2.1 d_M_answer_7 rfl (lv_at hl 0 rfl) ?_
  refine sd_get C h 0 8 (v := .ref (q 7)) (ci := 3) (Cn := "StockDeskModel") (T := T_M) (N := 19) rfl rfl (by decide) in_M tb_518 rfl d_M_answer_8 ?_
  refine lv_iload_n C.1 C.2.1 d_M_answer_11 rfl (lv_at hl 1 rfl) ?_
  refine sd_iald C h 7 0 (i := pt) rfl rfl (by omega) (by decide) d_M_answer_12 ?_
  refine lv_i2l (v := ((mf_pf mo) pt).toInt64) C.1 C.2.1 d_M_answer_13 rfl ?_
  refine lv_iload_n C.1 C.2.1 d_M_answer_14 rfl (lv_at hl 3 rfl) ?_
  refine lv_i2l (v := a.toInt64) C.1 C.2.1 d_M_answer_15 rfl ?_
  refine lv_lmul C.1 C.2.1 d_M_answer_16 ?_
  refine lv_ladd C.1 C.2.1 d_M_answer_17 ?_
  refine lv_iload_n C.1 C.2.1 d_M_answer_18 rfl (lv_at hl 2 rfl) ?_
  refine lv_i2l (v := y.toInt64) C.1 C.2.1 d_M_answer_19 rfl ?_
  refine lv_ladd C.1 C.2.1 d_M_answer_20 ?_
  refine lv_aload_n C.1 C.2.1 d_M_answer_21 rfl (lv_at hl 0 rfl) ?_
  refine sd_get C h 0 9 (v := .ref (q 8)) (ci := 3) (Cn := "StockDeskModel") (T := T_M) (N := 19) rfl rfl (by decide) in_M tb_519 rfl d_M_answer_22 ?_
  refine lv_iload_n C.1 C.2.1 d_M_answer_25 rfl (lv_at hl 1 rfl) ?_
  refine sd_lald C h 8 2 (i := pt) rfl rfl (by omega) (by decide) d_M_answer_26 ?_
  refine lv_ladd C.1 C.2.1 d_M_answer_27 ?_
  exact sd_lret (v := (((((mf_pb mo) pt).toInt64) + ((((mf_pf mo) pt).toInt64) * a.toInt64)) + y.toInt64) + ((mf_wt mo) pt)) C hr hlk h ⟨sv_ans hr9 hp, rfl⟩ d_M_answer_28

set_option maxHeartbeats 4000000 in
set_option maxRecDepth 100000 in
theorem k_M_thrown (l : Launch) (D : va_G) (k3 : ClassId × ClassId × ClassId) (sz : Nat) (q : Nat → Nat) (mo : sd_MS) : Met l y_M_thrown (sd_ws y_M_thrown c_M_thrown 1 (some FieldType.int)) ({ frames := 0, cells := 0, slots := 0, locals := 0 }) (sd_Pc D (sd_t3 k3) [.ref (q 0)] sz (sd_M k3 q mo)) (sd_Qi D (sd_t3 k3) (va_A (sd_M k3 q mo) sz) (fun r w => r = mf_tc mo ∧ w = sd_M k3 q mo)) 0 0 (va_A (sd_M k3 q mo) sz) := by
  refine sd_met (cc := c_M_thrown) (maxL := 1) (ret := some .int) (by decide) (Nat.le_of_ble_eq_true rfl) (fun p e s m below meth c C hr hlk hnm hsz h ls hl => ?_)
  generalize va_A (sd_M k3 q mo) sz = A at h ⊢
  have hl : lv_has ls 1 [(0, .ref (q 0))] := hl
  generalize hH : s.heap = H at h ⊢
  refine lv_aload_n C.1 C.2.1 d_M_thrown_0 rfl (lv_at hl 0 rfl) ?_
  refine sd_get C h 0 0 (v := .int (mf_tc mo)) (ci := 3) (Cn := "StockDeskModel") (T := T_M) (N := 19) rfl rfl (by decide) in_M tb_510 rfl d_M_thrown_1 ?_
  exact sd_iret (v := mf_tc mo) C hr hlk h ⟨rfl, rfl⟩ d_M_thrown_4

set_option maxHeartbeats 4000000 in
set_option maxRecDepth 100000 in
theorem k_M_does (l : Launch) (D : va_G) (k3 : ClassId × ClassId × ClassId) (sz : Nat) (q : Nat → Nat) (mo : sd_MS) (u : sd_HS) (a : Int32) (x : Int32) (y : Int32) (z : Int32) (hr9 : sm_rel mo u) (hok : sd_ok u a x y) : Met l y_M_does (sd_ws y_M_does c_M_does 5 none) ({ frames := 1, cells := 0, slots := 0, locals := 24 }) (sd_Pc D (sd_t3 k3) [.ref (q 0), .int a, .int x, .int y, .int z] sz (sd_M k3 q mo)) (sd_Qv D (sd_t3 k3) (va_A (sd_M k3 q mo) sz) (fun w => w = sd_M k3 q (mm_do mo a x y z))) 0 0 (va_A (sd_M k3 q mo) sz) := by
  refine sd_met (cc := c_M_does) (maxL := 5) (ret := none) (by decide) (Nat.le_of_ble_eq_true rfl) (fun p e s m below meth c C hr hlk hnm hsz h ls hl => ?_)
  generalize va_A (sd_M k3 q mo) sz = A at h ⊢
  have hl : lv_has ls 5 [(0, .ref (q 0)), (1, .int a), (2, .int x), (3, .int y), (4, .int z)] := hl
  generalize hH : s.heap = H at h ⊢
  rcases hok with ⟨rfl, k, n, hk, hn, rfl, hm⟩ | ⟨rfl, k, j, hk, h1, h9, rfl, rfl⟩ | ⟨rfl, pt, k, hp, hk, rfl, rfl⟩ | ⟨rfl, pt, hp, rfl⟩ | ⟨rfl, pt, hp, rfl, hy0⟩ | ⟨rfl, pt, k, j, hp, hk, h1, h9, rfl, rfl, hkp, hth⟩ | rfl
  · have hl : lv_has ls 5 [(0, .ref (q 0)), (1, .int 0), (2, .int (nI k)), (3, .int y), (4, .int z)] := hl
    refine lv_iload_n C.1 C.2.1 d_M_does_0 rfl (lv_at hl 1 rfl) ?_
    refine lv_tableIn C.1 C.2.1 d_M_does_1 (off := 39) (tgt := 40) (by decide) (by decide) (by decide) (by decide) ?_
    refine lv_aload_n C.1 C.2.1 d_M_does_40 rfl (lv_at hl 0 rfl) ?_
    refine sd_get C h 0 3 (v := .ref (q 2)) (ci := 3) (Cn := "StockDeskModel") (T := T_M) (N := 19) rfl rfl (by decide) in_M tb_513 rfl d_M_does_41 ?_
    refine lv_iload_n C.1 C.2.1 d_M_does_44 rfl (lv_at hl 2 rfl) ?_
    refine lv_aload_n C.1 C.2.1 d_M_does_45 rfl (lv_at hl 0 rfl) ?_
    refine sd_get C h 0 3 (v := .ref (q 2)) (ci := 3) (Cn := "StockDeskModel") (T := T_M) (N := 19) rfl rfl (by decide) in_M tb_513 rfl d_M_does_46 ?_
    refine lv_iload_n C.1 C.2.1 d_M_does_49 rfl (lv_at hl 2 rfl) ?_
    refine sd_iald C h 2 0 (i := k) rfl rfl (by omega) (by decide) d_M_does_50 ?_
    refine lv_iconst (v := 1) C.1 C.2.1 d_M_does_51 (by decide) ?_
    refine lv_iadd C.1 C.2.1 d_M_does_52 ?_
    refine sd_iast C h 2 0 (i := k) (ws' := sd_Mx k3 q (mf_tc mo) (mf_ac mo) (mf_aa mo) (upd (mf_md mo) k (((mf_md mo) k) + 1)) (mf_th mo) (mf_us mo) (mf_pk mo) (mf_pb mo) (mf_pf mo) (mf_wt mo) (mf_pw mo) (mf_fl mo) (mf_tw mo) (mf_tp mo) (mf_tn mo) (mf_an mo) (mf_co mo) (mf_s1 mo) (mf_s2 mo)) rfl rfl (by omega) (by decide) rfl d_M_does_53 (fun H locs h => ?_)
    refine lv_aload_n C.1 C.2.1 d_M_does_54 rfl (lv_at hl 0 rfl) ?_
    refine sd_get C h 0 4 (v := .ref (q 3)) (ci := 3) (Cn := "StockDeskModel") (T := T_M) (N := 19) rfl rfl (by decide) in_M tb_514 rfl d_M_does_55 ?_
    refine lv_bipush (v := 10) C.1 C.2.1 d_M_does_58 (by decide) ?_
    refine lv_iload_n C.1 C.2.1 d_M_does_60 rfl (lv_at hl 2 rfl) ?_
    refine lv_imul C.1 C.2.1 d_M_does_61 ?_
    refine lv_aload_n C.1 C.2.1 d_M_does_62 rfl (lv_at hl 0 rfl) ?_
    refine sd_get C h 0 3 (v := .ref (q 2)) (ci := 3) (Cn := "StockDeskModel") (T := T_M) (N := 19) rfl rfl (by decide) in_M tb_513 rfl d_M_does_63 ?_
    refine lv_iload_n C.1 C.2.1 d_M_does_66 rfl (lv_at hl 2 rfl) ?_
    refine sd_iald C h 2 0 (i := k) rfl rfl (by omega) (by decide) d_M_does_67 ?_
    refine lv_iadd C.1 C.2.1 d_M_does_68 ?_
    refine sd_top (v := .int ((10 * (nI k)) + ((upd (mf_md mo) k (((mf_md mo) k) + 1)) k))) (v' := .int (nI (10 * k + (n + 1)))) (congrArg Value.int (by show (10 * (nI k)) + ((upd (mf_md mo) k (((mf_md mo) k) + 1)) k) = nI (10 * k + (n + 1)); rw [pk_us, hr9.md k hk, hm, nI_1]; exact sm_ix k (n + 1))) ?_
    refine lv_iconst (v := 1) C.1 C.2.1 d_M_does_69 (by decide) ?_
    refine sd_zast C h 3 1 (i := (10 * k + (n + 1))) (ws' := sd_Mx k3 q (mf_tc mo) (mf_ac mo) (mf_aa mo) (upd (mf_md mo) k (((mf_md mo) k) + 1)) (upd (mf_th mo) (10 * k + (n + 1)) 1) (mf_us mo) (mf_pk mo) (mf_pb mo) (mf_pf mo) (mf_wt mo) (mf_pw mo) (mf_fl mo) (mf_tw mo) (mf_tp mo) (mf_tn mo) (mf_an mo) (mf_co mo) (mf_s1 mo) (mf_s2 mo)) rfl rfl (by omega) (by decide) rfl rfl d_M_does_70 (fun H locs h => ?_)
    refine lv_aload_n C.1 C.2.1 d_M_does_71 rfl (lv_at hl 0 rfl) ?_
    refine sd_get C h 0 5 (v := .ref (q 4)) (ci := 3) (Cn := "StockDeskModel") (T := T_M) (N := 19) rfl rfl (by decide) in_M tb_515 rfl d_M_does_72 ?_
    refine lv_bipush (v := 10) C.1 C.2.1 d_M_does_75 (by decide) ?_
    refine lv_iload_n C.1 C.2.1 d_M_does_77 rfl (lv_at hl 2 rfl) ?_
    refine lv_imul C.1 C.2.1 d_M_does_78 ?_
    refine lv_aload_n C.1 C.2.1 d_M_does_79 rfl (lv_at hl 0 rfl) ?_
    refine sd_get C h 0 3 (v := .ref (q 2)) (ci := 3) (Cn := "StockDeskModel") (T := T_M) (N := 19) rfl rfl (by decide) in_M tb_513 rfl d_M_does_80 ?_
    refine lv_iload_n C.1 C.2.1 d_M_does_83 rfl (lv_at hl 2 rfl) ?_
    refine sd_iald C h 2 0 (i := k) rfl rfl (by omega) (by decide) d_M_does_84 ?_
    refine lv_iadd C.1 C.2.1 d_M_does_85 ?_
    refine sd_top (v := .int ((10 * (nI k)) + ((upd (mf_md mo) k (((mf_md mo) k) + 1)) k))) (v' := .int (nI (10 * k + (n + 1)))) (congrArg Value.int (by show (10 * (nI k)) + ((upd (mf_md mo) k (((mf_md mo) k) + 1)) k) = nI (10 * k + (n + 1)); rw [pk_us, hr9.md k hk, hm, nI_1]; exact sm_ix k (n + 1))) ?_
    refine lv_iconst (v := 0) C.1 C.2.1 d_M_does_86 (by decide) ?_
    refine sd_iast C h 4 0 (i := (10 * k + (n + 1))) (ws' := sd_Mx k3 q (mf_tc mo) (mf_ac mo) (mf_aa mo) (upd (mf_md mo) k (((mf_md mo) k) + 1)) (upd (mf_th mo) (10 * k + (n + 1)) 1) (upd (mf_us mo) (10 * k + (n + 1)) 0) (mf_pk mo) (mf_pb mo) (mf_pf mo) (mf_wt mo) (mf_pw mo) (mf_fl mo) (mf_tw mo) (mf_tp mo) (mf_tn mo) (mf_an mo) (mf_co mo) (mf_s1 mo) (mf_s2 mo)) rfl rfl (by omega) (by decide) rfl d_M_does_87 (fun H locs h => ?_)
    refine lv_goto (tgt := 194) C.1 C.2.1 d_M_does_88 (by decide) ?_
    have h := sd_world h (ws' := sd_M k3 q (mm_make mo k n)) (by simp only [sd_M, mm_tc, mm_make, mm_drop, mm_kind, mm_answer, mm_way, mm_tell, mm_work, mm_byte, mm_keep, mm_dec, mm_fresh, hd_m, mf_tc, mf_ac, mf_aa, mf_md, mf_th, mf_us, mf_pk, mf_pb, mf_pf, mf_wt, mf_pw, mf_fl, mf_tw, mf_tp, mf_tn, mf_an, mf_co, mf_s1, mf_s2])
    exact sd_vret C hr hlk h (by simp only [mm_do, sd_cl5 (show k < 9 by omega), hr9.md k hk, hm, sd_cl5 hn, if_true]) d_M_does_194
  · have hl : lv_has ls 5 [(0, .ref (q 0)), (1, .int 1), (2, .int (nI k)), (3, .int (nI j)), (4, .int z)] := hl
    refine lv_iload_n C.1 C.2.1 d_M_does_0 rfl (lv_at hl 1 rfl) ?_
    refine lv_tableIn C.1 C.2.1 d_M_does_1 (off := 90) (tgt := 91) (by decide) (by decide) (by decide) (by decide) ?_
    refine lv_aload_n C.1 C.2.1 d_M_does_91 rfl (lv_at hl 0 rfl) ?_
    refine sd_get C h 0 4 (v := .ref (q 3)) (ci := 3) (Cn := "StockDeskModel") (T := T_M) (N := 19) rfl rfl (by decide) in_M tb_514 rfl d_M_does_92 ?_
    refine lv_bipush (v := 10) C.1 C.2.1 d_M_does_95 (by decide) ?_
    refine lv_iload_n C.1 C.2.1 d_M_does_97 rfl (lv_at hl 2 rfl) ?_
    refine lv_imul C.1 C.2.1 d_M_does_98 ?_
    refine lv_iload_n C.1 C.2.1 d_M_does_99 rfl (lv_at hl 3 rfl) ?_
    refine lv_iadd C.1 C.2.1 d_M_does_100 ?_
    refine sd_top (v := .int ((10 * (nI k)) + (nI j))) (v' := .int (nI (10 * k + j))) (congrArg Value.int (sm_ix k j)) ?_
    refine lv_iconst (v := 0) C.1 C.2.1 d_M_does_101 (by decide) ?_
    refine sd_zast C h 3 1 (i := (10 * k + j)) (ws' := sd_Mx k3 q (mf_tc mo) (mf_ac mo) (mf_aa mo) (mf_md mo) (upd (mf_th mo) (10 * k + j) 0) (mf_us mo) (mf_pk mo) (mf_pb mo) (mf_pf mo) (mf_wt mo) (mf_pw mo) (mf_fl mo) (mf_tw mo) (mf_tp mo) (mf_tn mo) (mf_an mo) (mf_co mo) (mf_s1 mo) (mf_s2 mo)) rfl rfl (by omega) (by decide) rfl rfl d_M_does_102 (fun H locs h => ?_)
    refine lv_goto (tgt := 194) C.1 C.2.1 d_M_does_103 (by decide) ?_
    have h := sd_world h (ws' := sd_M k3 q (mm_drop mo k j)) (by simp only [sd_M, mm_tc, mm_make, mm_drop, mm_kind, mm_answer, mm_way, mm_tell, mm_work, mm_byte, mm_keep, mm_dec, mm_fresh, hd_m, mf_tc, mf_ac, mf_aa, mf_md, mf_th, mf_us, mf_pk, mf_pb, mf_pf, mf_wt, mf_pw, mf_fl, mf_tw, mf_tp, mf_tn, mf_an, mf_co, mf_s1, mf_s2])
    exact sd_vret C hr hlk h (by simp only [mm_do, sd_cl5 (show k < 9 by omega), sd_cl10 h9]; rfl) d_M_does_194
  · have hl : lv_has ls 5 [(0, .ref (q 0)), (1, .int 2), (2, .int (nI pt)), (3, .int (nI k)), (4, .int z)] := hl
    refine lv_iload_n C.1 C.2.1 d_M_does_0 rfl (lv_at hl 1 rfl) ?_
    refine lv_tableIn C.1 C.2.1 d_M_does_1 (off := 105) (tgt := 106) (by decide) (by decide) (by decide) (by decide) ?_
    refine lv_aload_n C.1 C.2.1 d_M_does_106 rfl (lv_at hl 0 rfl) ?_
    refine sd_get C h 0 6 (v := .ref (q 5)) (ci := 3) (Cn := "StockDeskModel") (T := T_M) (N := 19) rfl rfl (by decide) in_M tb_516 rfl d_M_does_107 ?_
    refine lv_iload_n C.1 C.2.1 d_M_does_110 rfl (lv_at hl 2 rfl) ?_
    refine lv_iload_n C.1 C.2.1 d_M_does_111 rfl (lv_at hl 3 rfl) ?_
    refine sd_iast C h 5 0 (i := pt) (ws' := sd_Mx k3 q (mf_tc mo) (mf_ac mo) (mf_aa mo) (mf_md mo) (mf_th mo) (mf_us mo) (upd (mf_pk mo) pt (nI k)) (mf_pb mo) (mf_pf mo) (mf_wt mo) (mf_pw mo) (mf_fl mo) (mf_tw mo) (mf_tp mo) (mf_tn mo) (mf_an mo) (mf_co mo) (mf_s1 mo) (mf_s2 mo)) rfl rfl (by omega) (by decide) rfl d_M_does_112 (fun H locs h => ?_)
    refine lv_goto (tgt := 194) C.1 C.2.1 d_M_does_113 (by decide) ?_
    have h := sd_world h (ws' := sd_M k3 q (mm_kind mo pt (nI k))) (by simp only [sd_M, mm_tc, mm_make, mm_drop, mm_kind, mm_answer, mm_way, mm_tell, mm_work, mm_byte, mm_keep, mm_dec, mm_fresh, hd_m, mf_tc, mf_ac, mf_aa, mf_md, mf_th, mf_us, mf_pk, mf_pb, mf_pf, mf_wt, mf_pw, mf_fl, mf_tw, mf_tp, mf_tn, mf_an, mf_co, mf_s1, mf_s2])
    exact sd_vret C hr hlk h (by simp only [mm_do, sd_cl5 (show pt < 9 by omega)]; rfl) d_M_does_194
  · have hl : lv_has ls 5 [(0, .ref (q 0)), (1, .int 3), (2, .int (nI pt)), (3, .int y), (4, .int z)] := hl
    refine lv_iload_n C.1 C.2.1 d_M_does_0 rfl (lv_at hl 1 rfl) ?_
    refine lv_tableIn C.1 C.2.1 d_M_does_1 (off := 115) (tgt := 116) (by decide) (by decide) (by decide) (by decide) ?_
    refine lv_aload_n C.1 C.2.1 d_M_does_116 rfl (lv_at hl 0 rfl) ?_
    refine sd_get C h 0 7 (v := .ref (q 6)) (ci := 3) (Cn := "StockDeskModel") (T := T_M) (N := 19) rfl rfl (by decide) in_M tb_517 rfl d_M_does_117 ?_
    refine lv_iload_n C.1 C.2.1 d_M_does_120 rfl (lv_at hl 2 rfl) ?_
    refine lv_iload_n C.1 C.2.1 d_M_does_121 rfl (lv_at hl 3 rfl) ?_
    refine sd_iast C h 6 0 (i := pt) (ws' := sd_Mx k3 q (mf_tc mo) (mf_ac mo) (mf_aa mo) (mf_md mo) (mf_th mo) (mf_us mo) (mf_pk mo) (upd (mf_pb mo) pt y) (mf_pf mo) (mf_wt mo) (mf_pw mo) (mf_fl mo) (mf_tw mo) (mf_tp mo) (mf_tn mo) (mf_an mo) (mf_co mo) (mf_s1 mo) (mf_s2 mo)) rfl rfl (by omega) (by decide) rfl d_M_does_122 (fun H locs h => ?_)
    refine lv_aload_n C.1 C.2.1 d_M_does_123 rfl (lv_at hl 0 rfl) ?_
    refine sd_get C h 0 8 (v := .ref (q 7)) (ci := 3) (Cn := "StockDeskModel") (T := T_M) (N := 19) rfl rfl (by decide) in_M tb_518 rfl d_M_does_124 ?_
    refine lv_iload_n C.1 C.2.1 d_M_does_127 rfl (lv_at hl 2 rfl) ?_
    refine lv_iload C.1 C.2.1 d_M_does_128 (lv_at hl 4 rfl) ?_
    refine sd_iast C h 7 0 (i := pt) (ws' := sd_Mx k3 q (mf_tc mo) (mf_ac mo) (mf_aa mo) (mf_md mo) (mf_th mo) (mf_us mo) (mf_pk mo) (upd (mf_pb mo) pt y) (upd (mf_pf mo) pt z) (mf_wt mo) (mf_pw mo) (mf_fl mo) (mf_tw mo) (mf_tp mo) (mf_tn mo) (mf_an mo) (mf_co mo) (mf_s1 mo) (mf_s2 mo)) rfl rfl (by omega) (by decide) rfl d_M_does_130 (fun H locs h => ?_)
    refine lv_goto (tgt := 194) C.1 C.2.1 d_M_does_131 (by decide) ?_
    have h := sd_world h (ws' := sd_M k3 q (mm_answer mo pt y z)) (by simp only [sd_M, mm_tc, mm_make, mm_drop, mm_kind, mm_answer, mm_way, mm_tell, mm_work, mm_byte, mm_keep, mm_dec, mm_fresh, hd_m, mf_tc, mf_ac, mf_aa, mf_md, mf_th, mf_us, mf_pk, mf_pb, mf_pf, mf_wt, mf_pw, mf_fl, mf_tw, mf_tp, mf_tn, mf_an, mf_co, mf_s1, mf_s2])
    exact sd_vret C hr hlk h (by simp only [mm_do, sd_cl5 (show pt < 9 by omega)]; rfl) d_M_does_194
  · have hl : lv_has ls 5 [(0, .ref (q 0)), (1, .int 4), (2, .int (nI pt)), (3, .int y), (4, .int z)] := hl
    refine lv_iload_n C.1 C.2.1 d_M_does_0 rfl (lv_at hl 1 rfl) ?_
    refine lv_tableIn C.1 C.2.1 d_M_does_1 (off := 133) (tgt := 134) (by decide) (by decide) (by decide) (by decide) ?_
    refine lv_aload_n C.1 C.2.1 d_M_does_134 rfl (lv_at hl 0 rfl) ?_
    refine sd_get C h 0 10 (v := .ref (q 9)) (ci := 3) (Cn := "StockDeskModel") (T := T_M) (N := 19) rfl rfl (by decide) in_M tb_520 rfl d_M_does_135 ?_
    refine lv_iload_n C.1 C.2.1 d_M_does_138 rfl (lv_at hl 2 rfl) ?_
    refine lv_iload_n C.1 C.2.1 d_M_does_139 rfl (lv_at hl 3 rfl) ?_
    refine sd_iast C h 9 0 (i := pt) (ws' := sd_Mx k3 q (mf_tc mo) (mf_ac mo) (mf_aa mo) (mf_md mo) (mf_th mo) (mf_us mo) (mf_pk mo) (mf_pb mo) (mf_pf mo) (mf_wt mo) (upd (mf_pw mo) pt y) (mf_fl mo) (mf_tw mo) (mf_tp mo) (mf_tn mo) (mf_an mo) (mf_co mo) (mf_s1 mo) (mf_s2 mo)) rfl rfl (by omega) (by decide) rfl d_M_does_140 (fun H locs h => ?_)
    refine lv_goto (tgt := 194) C.1 C.2.1 d_M_does_141 (by decide) ?_
    have h := sd_world h (ws' := sd_M k3 q (mm_way mo pt y)) (by simp only [sd_M, mm_tc, mm_make, mm_drop, mm_kind, mm_answer, mm_way, mm_tell, mm_work, mm_byte, mm_keep, mm_dec, mm_fresh, hd_m, mf_tc, mf_ac, mf_aa, mf_md, mf_th, mf_us, mf_pk, mf_pb, mf_pf, mf_wt, mf_pw, mf_fl, mf_tw, mf_tp, mf_tn, mf_an, mf_co, mf_s1, mf_s2])
    exact sd_vret C hr hlk h (by simp only [mm_do, sd_cl5 (show pt < 9 by omega)]; rfl) d_M_does_194
  · have hl : lv_has ls 5 [(0, .ref (q 0)), (1, .int 5), (2, .int (nI pt)), (3, .int (nI j)), (4, .int z)] := hl
    refine lv_iload_n C.1 C.2.1 d_M_does_0 rfl (lv_at hl 1 rfl) ?_
    refine lv_tableIn C.1 C.2.1 d_M_does_1 (off := 143) (tgt := 144) (by decide) (by decide) (by decide) (by decide) ?_
    refine lv_aload_n C.1 C.2.1 d_M_does_144 rfl (lv_at hl 0 rfl) ?_
    refine lv_iload_n C.1 C.2.1 d_M_does_145 rfl (lv_at hl 2 rfl) ?_
    refine lv_iload_n C.1 C.2.1 d_M_does_146 rfl (lv_at hl 3 rfl) ?_
    refine lv_iload C.1 C.2.1 d_M_does_147 (lv_at hl 4 rfl) ?_
    have h := sd_world h (ws' := ([]) ++ (sd_M k3 q mo) ++ ([])) (by simp only [List.append_assoc, List.nil_append, List.append_nil])
    refine sd_callv h (va_runV (As := [.int (nI pt), .int (nI j), .int z]) (rest := []) C (k_M_calls l D k3 H.size q mo pt k j z hp hk h1 h9 ((hr9.pk pt hp).trans hkp)) (sd_cwV 3 C.2.2.2.2 tb_587 tb_589 tb_16 tb_24 tb_590 rfl rfl (by decide +kernel) ⟨Nat.le_of_ble_eq_true rfl, Nat.le_of_ble_eq_true rfl⟩) (sd_preV h (q0 := 0) (T := T_M) (N := 19) rfl rfl) rfl rfl hl.1 rfl (lv_room (Nat.le_of_ble_eq_true rfl)) d_M_does_149 ⟨Nat.le_of_ble_eq_true rfl, Nat.le_of_ble_eq_true rfl⟩) (fun w1 H locs hq h => ?_)
    obtain rfl := hq
    have h := sd_world h (ws' := sd_M k3 q (mm_call mo pt k j z)) (by simp only [List.append_assoc, List.nil_append, List.append_nil])
    refine lv_goto (tgt := 194) C.1 C.2.1 d_M_does_152 (by decide) ?_
    exact sd_vret C hr hlk h (by simp only [mm_do, sd_cl5 (show pt < 9 by omega), sd_cl10 h9, hr9.pk pt hp, hkp, sd_cl5 (show k < 9 by omega)]; rfl) d_M_does_194
  · have hl : lv_has ls 5 [(0, .ref (q 0)), (1, .int 6), (2, .int x), (3, .int y), (4, .int z)] := hl
    refine lv_iload_n C.1 C.2.1 d_M_does_0 rfl (lv_at hl 1 rfl) ?_
    refine lv_tableOut C.1 C.2.1 d_M_does_1 (tgt := 155) (by decide) (by decide) ?_
    refine lv_aload_n C.1 C.2.1 d_M_does_155 rfl (lv_at hl 0 rfl) ?_
    refine lv_dup C.1 C.2.1 d_M_does_156 rfl ?_
    refine sd_get C h 0 16 (v := .int (mf_co mo)) (ci := 3) (Cn := "StockDeskModel") (T := T_M) (N := 19) rfl rfl (by decide) in_M tb_526 rfl d_M_does_157 ?_
    refine lv_iconst (v := 1) C.1 C.2.1 d_M_does_160 (by decide) ?_
    refine lv_iadd C.1 C.2.1 d_M_does_161 ?_
    refine sd_put C h 0 16 (v := .int ((mf_co mo) + 1)) (ci := 3) (Cn := "StockDeskModel") (T := T_M) (N := 19) (ty0 := ty_M) (ws' := sd_Mx k3 q (mf_tc mo) (mf_ac mo) (mf_aa mo) (mf_md mo) (mf_th mo) (mf_us mo) (mf_pk mo) (mf_pb mo) (mf_pf mo) (mf_wt mo) (mf_pw mo) (mf_fl mo) (mf_tw mo) (mf_tp mo) (mf_tn mo) (mf_an mo) ((mf_co mo) + 1) (mf_s1 mo) (mf_s2 mo)) rfl rfl (by decide) in_M tyok_M nm_M tb_526 rfl rfl rfl rfl (Nat.le_of_ble_eq_true rfl) rfl d_M_does_162 (fun H locs h => ?_)
    refine lv_aload_n C.1 C.2.1 d_M_does_165 rfl (lv_at hl 0 rfl) ?_
    refine lv_aload_n C.1 C.2.1 d_M_does_166 rfl (lv_at hl 0 rfl) ?_
    refine sd_get C h 0 17 (v := .int (mf_s1 mo)) (ci := 3) (Cn := "StockDeskModel") (T := T_M) (N := 19) rfl rfl (by decide) in_M tb_527 rfl d_M_does_167 ?_
    refine lv_iload_n C.1 C.2.1 d_M_does_170 rfl (lv_at hl 2 rfl) ?_
    refine lv_iadd C.1 C.2.1 d_M_does_171 ?_
    refine lv_ldc (v := 65521) C.1 C.2.1 C.2.2.2.1 (C.2.2.2.2 _ (List.mem_cons_of_mem _ tb_591)) d_M_does_172 ?_
    refine lv_irem C.1 C.2.1 d_M_does_174 (by decide) ?_
    refine sd_put C h 0 17 (v := .int (((mf_s1 mo) + x) - ((mf_s1 mo) + x) / 65521 * 65521)) (ci := 3) (Cn := "StockDeskModel") (T := T_M) (N := 19) (ty0 := ty_M) (ws' := sd_Mx k3 q (mf_tc mo) (mf_ac mo) (mf_aa mo) (mf_md mo) (mf_th mo) (mf_us mo) (mf_pk mo) (mf_pb mo) (mf_pf mo) (mf_wt mo) (mf_pw mo) (mf_fl mo) (mf_tw mo) (mf_tp mo) (mf_tn mo) (mf_an mo) ((mf_co mo) + 1) (((mf_s1 mo) + x) - ((mf_s1 mo) + x) / 65521 * 65521) (mf_s2 mo)) rfl rfl (by decide) in_M tyok_M nm_M tb_527 rfl rfl rfl rfl (Nat.le_of_ble_eq_true rfl) rfl d_M_does_175 (fun H locs h => ?_)
    refine lv_aload_n C.1 C.2.1 d_M_does_178 rfl (lv_at hl 0 rfl) ?_
    refine lv_aload_n C.1 C.2.1 d_M_does_179 rfl (lv_at hl 0 rfl) ?_
    refine sd_get C h 0 18 (v := .int (mf_s2 mo)) (ci := 3) (Cn := "StockDeskModel") (T := T_M) (N := 19) rfl rfl (by decide) in_M tb_528 rfl d_M_does_180 ?_
    refine lv_aload_n C.1 C.2.1 d_M_does_183 rfl (lv_at hl 0 rfl) ?_
    refine sd_get C h 0 17 (v := .int (((mf_s1 mo) + x) - ((mf_s1 mo) + x) / 65521 * 65521)) (ci := 3) (Cn := "StockDeskModel") (T := T_M) (N := 19) rfl rfl (by decide) in_M tb_527 rfl d_M_does_184 ?_
    refine lv_iadd C.1 C.2.1 d_M_does_187 ?_
    refine lv_ldc (v := 65521) C.1 C.2.1 C.2.2.2.1 (C.2.2.2.2 _ (List.mem_cons_of_mem _ tb_591)) d_M_does_188 ?_
    refine lv_irem C.1 C.2.1 d_M_does_190 (by decide) ?_
    refine sd_put C h 0 18 (v := .int (((mf_s2 mo) + (((mf_s1 mo) + x) - ((mf_s1 mo) + x) / 65521 * 65521)) - ((mf_s2 mo) + (((mf_s1 mo) + x) - ((mf_s1 mo) + x) / 65521 * 65521)) / 65521 * 65521)) (ci := 3) (Cn := "StockDeskModel") (T := T_M) (N := 19) (ty0 := ty_M) (ws' := sd_Mx k3 q (mf_tc mo) (mf_ac mo) (mf_aa mo) (mf_md mo) (mf_th mo) (mf_us mo) (mf_pk mo) (mf_pb mo) (mf_pf mo) (mf_wt mo) (mf_pw mo) (mf_fl mo) (mf_tw mo) (mf_tp mo) (mf_tn mo) (mf_an mo) ((mf_co mo) + 1) (((mf_s1 mo) + x) - ((mf_s1 mo) + x) / 65521 * 65521) (((mf_s2 mo) + (((mf_s1 mo) + x) - ((mf_s1 mo) + x) / 65521 * 65521)) - ((mf_s2 mo) + (((mf_s1 mo) + x) - ((mf_s1 mo) + x) / 65521 * 65521)) / 65521 * 65521)) rfl rfl (by decide) in_M tyok_M nm_M tb_528 rfl rfl rfl rfl (Nat.le_of_ble_eq_true rfl) rfl d_M_does_191 (fun H locs h => ?_)
    have h := sd_world h (ws' := sd_M k3 q (mm_byte mo x)) (by simp only [sd_M, mm_tc, mm_make, mm_drop, mm_kind, mm_answer, mm_way, mm_tell, mm_work, mm_byte, mm_keep, mm_dec, mm_fresh, hd_m, mf_tc, mf_ac, mf_aa, mf_md, mf_th, mf_us, mf_pk, mf_pb, mf_pf, mf_wt, mf_pw, mf_fl, mf_tw, mf_tp, mf_tn, mf_an, mf_co, mf_s1, mf_s2])
    exact sd_vret C hr hlk h (by simp only [mm_do]; rfl) d_M_does_194

set_option maxHeartbeats 4000000 in
set_option maxRecDepth 100000 in
theorem k_M_keep (l : Launch) (D : va_G) (k3 : ClassId × ClassId × ClassId) (sz : Nat) (q : Nat → Nat) (mo : sd_MS) (o : sd_S) (a : Int32) (x : Int32) (y : Int32) (z : Int32) (ho : sS_ok o) (hm : sm_all mo o) (hn : o.1 < 60) (hok : sd_ok (sS_u o) a x y) : Met l y_M_keep (sd_ws y_M_keep c_M_keep 5 none) ({ frames := 2, cells := 0, slots := 0, locals := 48 }) (sd_Pc D (sd_t3 k3) [.ref (q 0), .int a, .int x, .int y, .int z] sz (sd_M k3 q mo)) (sd_Qv D (sd_t3 k3) (va_A (sd_M k3 q mo) sz) (fun w => ∃ m2, w = sd_M k3 q m2 ∧ sm_all m2 (sS_put o a x y z) ∧ mf_tc m2 = mf_tc mo)) 0 0 (va_A (sd_M k3 q mo) sz) := by
  refine sd_met (cc := c_M_keep) (maxL := 5) (ret := none) (by decide) (Nat.le_of_ble_eq_true rfl) (fun p e s m below meth c C hr hlk hnm hsz h ls hl => ?_)
  generalize va_A (sd_M k3 q mo) sz = A at h ⊢
  have hl : lv_has ls 5 [(0, .ref (q 0)), (1, .int a), (2, .int x), (3, .int y), (4, .int z)] := hl
  generalize hH : s.heap = H at h ⊢
  refine lv_aload_n C.1 C.2.1 d_M_keep_0 rfl (lv_at hl 0 rfl) ?_
  refine sd_get C h 0 2 (v := .ref (q 1)) (ci := 3) (Cn := "StockDeskModel") (T := T_M) (N := 19) rfl rfl (by decide) in_M tb_512 rfl d_M_keep_1 ?_
  refine lv_iconst (v := 4) C.1 C.2.1 d_M_keep_4 (by decide) ?_
  refine lv_aload_n C.1 C.2.1 d_M_keep_5 rfl (lv_at hl 0 rfl) ?_
  refine sd_get C h 0 1 (v := .int (mf_ac mo)) (ci := 3) (Cn := "StockDeskModel") (T := T_M) (N := 19) rfl rfl (by decide) in_M tb_511 rfl d_M_keep_6 ?_
  refine lv_imul C.1 C.2.1 d_M_keep_9 ?_
  refine sd_top (v := .int (4 * (mf_ac mo))) (v' := .int (nI (4 * o.1))) (congrArg Value.int (by show 4 * (mf_ac mo) = nI (4 * o.1); rw [hm.1]; exact sm_i4 o.1)) ?_
  refine lv_iload_n C.1 C.2.1 d_M_keep_10 rfl (lv_at hl 1 rfl) ?_
  refine sd_iast C h 1 0 (i := (4 * o.1)) (ws' := sd_Mx k3 q (mf_tc mo) (mf_ac mo) (upd (mf_aa mo) (4 * o.1) a) (mf_md mo) (mf_th mo) (mf_us mo) (mf_pk mo) (mf_pb mo) (mf_pf mo) (mf_wt mo) (mf_pw mo) (mf_fl mo) (mf_tw mo) (mf_tp mo) (mf_tn mo) (mf_an mo) (mf_co mo) (mf_s1 mo) (mf_s2 mo)) rfl rfl (by omega) (by decide) rfl d_M_keep_11 (fun H locs h => ?_)
  refine lv_aload_n C.1 C.2.1 d_M_keep_12 rfl (lv_at hl 0 rfl) ?_
  refine sd_get C h 0 2 (v := .ref (q 1)) (ci := 3) (Cn := "StockDeskModel") (T := T_M) (N := 19) rfl rfl (by decide) in_M tb_512 rfl d_M_keep_13 ?_
  refine lv_iconst (v := 4) C.1 C.2.1 d_M_keep_16 (by decide) ?_
  refine lv_aload_n C.1 C.2.1 d_M_keep_17 rfl (lv_at hl 0 rfl) ?_
  refine sd_get C h 0 1 (v := .int (mf_ac mo)) (ci := 3) (Cn := "StockDeskModel") (T := T_M) (N := 19) rfl rfl (by decide) in_M tb_511 rfl d_M_keep_18 ?_
  refine lv_imul C.1 C.2.1 d_M_keep_21 ?_
  refine lv_iconst (v := 1) C.1 C.2.1 d_M_keep_22 (by decide) ?_
  refine lv_iadd C.1 C.2.1 d_M_keep_23 ?_
  refine sd_top (v := .int ((4 * (mf_ac mo)) + 1)) (v' := .int (nI (4 * o.1 + 1))) (congrArg Value.int (by show (4 * (mf_ac mo)) + 1 = nI (4 * o.1 + 1); rw [hm.1]; exact sm_i41 o.1)) ?_
  refine lv_iload_n C.1 C.2.1 d_M_keep_24 rfl (lv_at hl 2 rfl) ?_
  refine sd_iast C h 1 0 (i := (4 * o.1 + 1)) (ws' := sd_Mx k3 q (mf_tc mo) (mf_ac mo) (upd (upd (mf_aa mo) (4 * o.1) a) (4 * o.1 + 1) x) (mf_md mo) (mf_th mo) (mf_us mo) (mf_pk mo) (mf_pb mo) (mf_pf mo) (mf_wt mo) (mf_pw mo) (mf_fl mo) (mf_tw mo) (mf_tp mo) (mf_tn mo) (mf_an mo) (mf_co mo) (mf_s1 mo) (mf_s2 mo)) rfl rfl (by omega) (by decide) rfl d_M_keep_25 (fun H locs h => ?_)
  refine lv_aload_n C.1 C.2.1 d_M_keep_26 rfl (lv_at hl 0 rfl) ?_
  refine sd_get C h 0 2 (v := .ref (q 1)) (ci := 3) (Cn := "StockDeskModel") (T := T_M) (N := 19) rfl rfl (by decide) in_M tb_512 rfl d_M_keep_27 ?_
  refine lv_iconst (v := 4) C.1 C.2.1 d_M_keep_30 (by decide) ?_
  refine lv_aload_n C.1 C.2.1 d_M_keep_31 rfl (lv_at hl 0 rfl) ?_
  refine sd_get C h 0 1 (v := .int (mf_ac mo)) (ci := 3) (Cn := "StockDeskModel") (T := T_M) (N := 19) rfl rfl (by decide) in_M tb_511 rfl d_M_keep_32 ?_
  refine lv_imul C.1 C.2.1 d_M_keep_35 ?_
  refine lv_iconst (v := 2) C.1 C.2.1 d_M_keep_36 (by decide) ?_
  refine lv_iadd C.1 C.2.1 d_M_keep_37 ?_
  refine sd_top (v := .int ((4 * (mf_ac mo)) + 2)) (v' := .int (nI (4 * o.1 + 2))) (congrArg Value.int (by show (4 * (mf_ac mo)) + 2 = nI (4 * o.1 + 2); rw [hm.1]; exact sm_i42 o.1)) ?_
  refine lv_iload_n C.1 C.2.1 d_M_keep_38 rfl (lv_at hl 3 rfl) ?_
  refine sd_iast C h 1 0 (i := (4 * o.1 + 2)) (ws' := sd_Mx k3 q (mf_tc mo) (mf_ac mo) (upd (upd (upd (mf_aa mo) (4 * o.1) a) (4 * o.1 + 1) x) (4 * o.1 + 2) y) (mf_md mo) (mf_th mo) (mf_us mo) (mf_pk mo) (mf_pb mo) (mf_pf mo) (mf_wt mo) (mf_pw mo) (mf_fl mo) (mf_tw mo) (mf_tp mo) (mf_tn mo) (mf_an mo) (mf_co mo) (mf_s1 mo) (mf_s2 mo)) rfl rfl (by omega) (by decide) rfl d_M_keep_39 (fun H locs h => ?_)
  refine lv_aload_n C.1 C.2.1 d_M_keep_40 rfl (lv_at hl 0 rfl) ?_
  refine sd_get C h 0 2 (v := .ref (q 1)) (ci := 3) (Cn := "StockDeskModel") (T := T_M) (N := 19) rfl rfl (by decide) in_M tb_512 rfl d_M_keep_41 ?_
  refine lv_iconst (v := 4) C.1 C.2.1 d_M_keep_44 (by decide) ?_
  refine lv_aload_n C.1 C.2.1 d_M_keep_45 rfl (lv_at hl 0 rfl) ?_
  refine sd_get C h 0 1 (v := .int (mf_ac mo)) (ci := 3) (Cn := "StockDeskModel") (T := T_M) (N := 19) rfl rfl (by decide) in_M tb_511 rfl d_M_keep_46 ?_
  refine lv_imul C.1 C.2.1 d_M_keep_49 ?_
  refine lv_iconst (v := 3) C.1 C.2.1 d_M_keep_50 (by decide) ?_
  refine lv_iadd C.1 C.2.1 d_M_keep_51 ?_
  refine sd_top (v := .int ((4 * (mf_ac mo)) + 3)) (v' := .int (nI (4 * o.1 + 3))) (congrArg Value.int (by show (4 * (mf_ac mo)) + 3 = nI (4 * o.1 + 3); rw [hm.1]; exact sm_i43 o.1)) ?_
  refine lv_iload C.1 C.2.1 d_M_keep_52 (lv_at hl 4 rfl) ?_
  refine sd_iast C h 1 0 (i := (4 * o.1 + 3)) (ws' := sd_Mx k3 q (mf_tc mo) (mf_ac mo) (upd (upd (upd (upd (mf_aa mo) (4 * o.1) a) (4 * o.1 + 1) x) (4 * o.1 + 2) y) (4 * o.1 + 3) z) (mf_md mo) (mf_th mo) (mf_us mo) (mf_pk mo) (mf_pb mo) (mf_pf mo) (mf_wt mo) (mf_pw mo) (mf_fl mo) (mf_tw mo) (mf_tp mo) (mf_tn mo) (mf_an mo) (mf_co mo) (mf_s1 mo) (mf_s2 mo)) rfl rfl (by omega) (by decide) rfl d_M_keep_54 (fun H locs h => ?_)
  refine lv_aload_n C.1 C.2.1 d_M_keep_55 rfl (lv_at hl 0 rfl) ?_
  refine lv_dup C.1 C.2.1 d_M_keep_56 rfl ?_
  refine sd_get C h 0 1 (v := .int (mf_ac mo)) (ci := 3) (Cn := "StockDeskModel") (T := T_M) (N := 19) rfl rfl (by decide) in_M tb_511 rfl d_M_keep_57 ?_
  refine lv_iconst (v := 1) C.1 C.2.1 d_M_keep_60 (by decide) ?_
  refine lv_iadd C.1 C.2.1 d_M_keep_61 ?_
  refine sd_top (v := .int ((mf_ac mo) + 1)) (v' := .int (nI (o.1 + 1))) (congrArg Value.int (by show (mf_ac mo) + 1 = nI (o.1 + 1); rw [hm.1]; exact nI_1 o.1)) ?_
  refine sd_put C h 0 1 (v := .int (nI (o.1 + 1))) (ci := 3) (Cn := "StockDeskModel") (T := T_M) (N := 19) (ty0 := ty_M) (ws' := sd_Mx k3 q (mf_tc mo) (nI (o.1 + 1)) (upd (upd (upd (upd (mf_aa mo) (4 * o.1) a) (4 * o.1 + 1) x) (4 * o.1 + 2) y) (4 * o.1 + 3) z) (mf_md mo) (mf_th mo) (mf_us mo) (mf_pk mo) (mf_pb mo) (mf_pf mo) (mf_wt mo) (mf_pw mo) (mf_fl mo) (mf_tw mo) (mf_tp mo) (mf_tn mo) (mf_an mo) (mf_co mo) (mf_s1 mo) (mf_s2 mo)) rfl rfl (by decide) in_M tyok_M nm_M tb_511 rfl rfl rfl rfl (Nat.le_of_ble_eq_true rfl) rfl d_M_keep_62 (fun H locs h => ?_)
  refine lv_aload_n C.1 C.2.1 d_M_keep_65 rfl (lv_at hl 0 rfl) ?_
  refine lv_iload_n C.1 C.2.1 d_M_keep_66 rfl (lv_at hl 1 rfl) ?_
  refine lv_iload_n C.1 C.2.1 d_M_keep_67 rfl (lv_at hl 2 rfl) ?_
  refine lv_iload_n C.1 C.2.1 d_M_keep_68 rfl (lv_at hl 3 rfl) ?_
  refine lv_iload C.1 C.2.1 d_M_keep_69 (lv_at hl 4 rfl) ?_
  have h := sd_world h (ws' := sd_M k3 q (mm_keep mo o.1 a x y z)) (by simp only [sd_M, mm_tc, mm_make, mm_drop, mm_kind, mm_answer, mm_way, mm_tell, mm_work, mm_byte, mm_keep, mm_dec, mm_fresh, hd_m, mf_tc, mf_ac, mf_aa, mf_md, mf_th, mf_us, mf_pk, mf_pb, mf_pf, mf_wt, mf_pw, mf_fl, mf_tw, mf_tp, mf_tn, mf_an, mf_co, mf_s1, mf_s2])
  have h := sd_world h (ws' := ([]) ++ (sd_M k3 q (mm_keep mo o.1 a x y z)) ++ ([])) (by simp only [List.append_assoc, List.nil_append, List.append_nil])
  refine sd_callv h (va_runV (As := [.int a, .int x, .int y, .int z]) (rest := []) C (k_M_does l D k3 H.size q (mm_keep mo o.1 a x y z) (sS_u o) a x y z (sm_keep hm.2.2) hok) (sd_cwV 4 C.2.2.2.2 tb_583 tb_585 tb_15 tb_24 tb_586 rfl rfl (by decide +kernel) ⟨Nat.le_of_ble_eq_true rfl, Nat.le_of_ble_eq_true rfl⟩) (sd_preV h (q0 := 0) (T := T_M) (N := 19) rfl rfl) rfl rfl hl.1 rfl (lv_room (Nat.le_of_ble_eq_true rfl)) d_M_keep_71 ⟨Nat.le_of_ble_eq_true rfl, Nat.le_of_ble_eq_true rfl⟩) (fun w1 H locs hq h => ?_)
  obtain rfl := hq
  have h := sd_world h (ws' := sd_M k3 q (mm_do (mm_keep mo o.1 a x y z) a x y z)) (by simp only [List.append_assoc, List.nil_append, List.append_nil])
  exact sd_vret C hr hlk h ⟨_, rfl, sm_put hm ho hok, (mm_do_keeps (mm_keep mo o.1 a x y z) a x y z).1⟩ d_M_keep_74

set_option maxHeartbeats 4000000 in
set_option maxRecDepth 100000 in
theorem k_M_thingsOf (l : Launch) (D : va_G) (k3 : ClassId × ClassId × ClassId) (sz : Nat) (q : Nat → Nat) (mo : sd_MS) (k : Nat) (hk : k < 5) : Met l y_M_thingsOf (sd_ws y_M_thingsOf c_M_thingsOf 4 (some FieldType.int)) ({ frames := 0, cells := 0, slots := 0, locals := 0 }) (sd_Pc D (sd_t3 k3) [.ref (q 0), .int (nI k)] sz (sd_M k3 q mo)) (sd_Qi D (sd_t3 k3) (va_A (sd_M k3 q mo) sz) (fun r w => r = nI (hd_cnt10 (mf_th mo) k 9) ∧ w = sd_M k3 q mo)) 0 0 (va_A (sd_M k3 q mo) sz) := by
  refine sd_met (cc := c_M_thingsOf) (maxL := 4) (ret := some .int) (by decide) (Nat.le_of_ble_eq_true rfl) (fun p e s m below meth c C hr hlk hnm hsz h ls hl => ?_)
  generalize va_A (sd_M k3 q mo) sz = A at h ⊢
  have hl : lv_has ls 4 [(0, .ref (q 0)), (1, .int (nI k))] := hl
  generalize hH : s.heap = H at h ⊢
  refine lv_iconst (v := 0) C.1 C.2.1 d_M_thingsOf_0 (by decide) ?_
  refine lv_istore_n (lv' := [(2, .int 0), (0, .ref (q 0)), (1, .int (nI k))]) C.1 C.2.1 d_M_thingsOf_1 rfl hl (by decide) rfl (fun ls hl => ?_)
  refine lv_iconst (v := 1) C.1 C.2.1 d_M_thingsOf_2 (by decide) ?_
  refine lv_istore_n (lv' := [(3, .int 1), (2, .int 0), (0, .ref (q 0)), (1, .int (nI k))]) C.1 C.2.1 d_M_thingsOf_3 rfl hl (by decide) rfl (fun ls hl => ?_)
  have loop : ∀ (d i : Nat), i + d = 9 → ∀ (H : Heap) (locs : List Loc) (ls : Array Slot), sd_w D A s (sd_t3 k3) (sd_M k3 q mo) H locs → lv_has ls 4 [(0, .ref (q 0)), (1, .int (nI k)), (2, .int (nI (hd_cnt10 (mf_th mo) k i))), (3, .int (nI (i + 1)))] → W p l e ({ frames := 0, cells := 0, slots := 0, locals := 0 }) s m [.ref (q 0), .int (nI k)].toArray below meth c H locs 0 0 (MQ below (sd_Qi D (sd_t3 k3) (A) (fun r w => r = nI (hd_cnt10 (mf_th mo) k 9) ∧ w = sd_M k3 q mo)) [.ref (q 0), .int (nI k)].toArray s 0 0 A) (F0 m 4 ls []) := by
    intro d
    induction d with
    | zero =>
      intro i hi H locs ls h hl
      have hi : 9 = i := by omega
      subst hi
      refine lv_iload_n C.1 C.2.1 d_M_thingsOf_4 rfl (lv_at hl 3 rfl) ?_
      refine lv_bipush (v := 10) C.1 C.2.1 d_M_thingsOf_5 (by decide) ?_
      refine lv_icmp_ge (tgt := 38) C.1 C.2.1 d_M_thingsOf_7 (by decide) (fun c7 => ?_) (fun c7 => ?_)
      · refine lv_iload_n C.1 C.2.1 d_M_thingsOf_38 rfl (lv_at hl 2 rfl) ?_
        exact sd_iret (v := nI (hd_cnt10 (mf_th mo) k 9)) C hr hlk h ⟨rfl, rfl⟩ d_M_thingsOf_39
      · exact absurd (nI_le (a := 10) (b := 10) (by omega) (by decide)) c7
    | succ d ih =>
      intro i hi H locs ls h hl
      refine lv_iload_n C.1 C.2.1 d_M_thingsOf_4 rfl (lv_at hl 3 rfl) ?_
      refine lv_bipush (v := 10) C.1 C.2.1 d_M_thingsOf_5 (by decide) ?_
      refine lv_icmp_ge (tgt := 38) C.1 C.2.1 d_M_thingsOf_7 (by decide) (fun c7 => ?_) (fun c7 => ?_)
      · exact absurd c7 (nI_ge (a := i + 1) (b := 10) (by omega) (by decide))
      · refine lv_iload_n C.1 C.2.1 d_M_thingsOf_10 rfl (lv_at hl 2 rfl) ?_
        refine lv_aload_n C.1 C.2.1 d_M_thingsOf_11 rfl (lv_at hl 0 rfl) ?_
        refine sd_get C h 0 4 (v := .ref (q 3)) (ci := 3) (Cn := "StockDeskModel") (T := T_M) (N := 19) rfl rfl (by decide) in_M tb_514 rfl d_M_thingsOf_12 ?_
        refine lv_bipush (v := 10) C.1 C.2.1 d_M_thingsOf_15 (by decide) ?_
        refine lv_iload_n C.1 C.2.1 d_M_thingsOf_17 rfl (lv_at hl 1 rfl) ?_
        refine lv_imul C.1 C.2.1 d_M_thingsOf_18 ?_
        refine lv_iload_n C.1 C.2.1 d_M_thingsOf_19 rfl (lv_at hl 3 rfl) ?_
        refine lv_iadd C.1 C.2.1 d_M_thingsOf_20 ?_
        refine sd_top (v := .int ((10 * (nI k)) + (nI (i + 1)))) (v' := .int (nI (10 * k + (i + 1)))) (congrArg Value.int (sm_ix k (i + 1))) ?_
        refine sd_zald C h 3 1 (i := (10 * k + (i + 1))) rfl rfl (by omega) (by decide) d_M_thingsOf_21 ?_
        refine lv_if_eq (tgt := 29) C.1 C.2.1 d_M_thingsOf_22 (by decide) (fun c22 => ?_) (fun c22 => ?_)
        · refine lv_iconst (v := 0) C.1 C.2.1 d_M_thingsOf_29 (by decide) ?_
          refine lv_iadd C.1 C.2.1 d_M_thingsOf_30 ?_
          refine lv_istore_n (lv' := [(2, .int ((nI (hd_cnt10 (mf_th mo) k i)) + 0)), (0, .ref (q 0)), (1, .int (nI k)), (3, .int (nI (i + 1)))]) C.1 C.2.1 d_M_thingsOf_31 rfl hl (by decide) rfl (fun ls hl => ?_)
          refine lv_iinc (v := nI ((i + 1) + 1)) (lv' := [(3, .int (nI ((i + 1) + 1))), (2, .int ((nI (hd_cnt10 (mf_th mo) k i)) + 0)), (0, .ref (q 0)), (1, .int (nI k))]) C.1 C.2.1 d_M_thingsOf_32 hl (k := 3) rfl (nI_1 (i + 1)) (by decide) rfl (fun ls hl => ?_)
          refine lv_goto (tgt := 4) C.1 C.2.1 d_M_thingsOf_35 (by decide) ?_
          have e9 : nI (hd_cnt10 (mf_th mo) k i) + 0 = nI (hd_cnt10 (mf_th mo) k (i + 1)) := by simp only [hd_cnt10]; rw [if_pos c22]; exact nI_add _ 0
          exact ih (i + 1) (by omega) _ _ _ h (by rw [← e9]; exact lv_sub hl [2, 3, 1, 0] rfl)
        · refine lv_iconst (v := 1) C.1 C.2.1 d_M_thingsOf_25 (by decide) ?_
          refine lv_goto (tgt := 30) C.1 C.2.1 d_M_thingsOf_26 (by decide) ?_
          refine lv_iadd C.1 C.2.1 d_M_thingsOf_30 ?_
          refine lv_istore_n (lv' := [(2, .int ((nI (hd_cnt10 (mf_th mo) k i)) + 1)), (0, .ref (q 0)), (1, .int (nI k)), (3, .int (nI (i + 1)))]) C.1 C.2.1 d_M_thingsOf_31 rfl hl (by decide) rfl (fun ls hl => ?_)
          refine lv_iinc (v := nI ((i + 1) + 1)) (lv' := [(3, .int (nI ((i + 1) + 1))), (2, .int ((nI (hd_cnt10 (mf_th mo) k i)) + 1)), (0, .ref (q 0)), (1, .int (nI k))]) C.1 C.2.1 d_M_thingsOf_32 hl (k := 3) rfl (nI_1 (i + 1)) (by decide) rfl (fun ls hl => ?_)
          refine lv_goto (tgt := 4) C.1 C.2.1 d_M_thingsOf_35 (by decide) ?_
          have e9 : nI (hd_cnt10 (mf_th mo) k i) + 1 = nI (hd_cnt10 (mf_th mo) k (i + 1)) := by simp only [hd_cnt10]; rw [if_neg c22]; exact nI_1 _
          exact ih (i + 1) (by omega) _ _ _ h (by rw [← e9]; exact lv_sub hl [2, 3, 1, 0] rfl)
  exact loop (9 - 0) 0 (by omega) _ _ _ h (lv_sub hl [2, 3, 1, 0] rfl)
