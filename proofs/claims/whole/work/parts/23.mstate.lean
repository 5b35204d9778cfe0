/-! the reference: what it holds, its cells -/
abbrev sd_MS : Type := Int32 × Int32 × (Nat → Int32) × (Nat → Int32) × (Nat → Int32) × (Nat → Int32) × (Nat → Int32) × (Nat → Int32) × (Nat → Int32) × (Nat → Int64) × (Nat → Int32) × Int32 × Int32 × Int32 × Int32 × Int32 × Int32 × Int32 × Int32
def mf_tc (mo : sd_MS) : Int32 := mo.1
def mf_ac (mo : sd_MS) : Int32 := mo.2.1
def mf_aa (mo : sd_MS) : (Nat → Int32) := mo.2.2.1
def mf_md (mo : sd_MS) : (Nat → Int32) := mo.2.2.2.1
def mf_th (mo : sd_MS) : (Nat → Int32) := mo.2.2.2.2.1
def mf_us (mo : sd_MS) : (Nat → Int32) := mo.2.2.2.2.2.1
def mf_pk (mo : sd_MS) : (Nat → Int32) := mo.2.2.2.2.2.2.1
def mf_pb (mo : sd_MS) : (Nat → Int32) := mo.2.2.2.2.2.2.2.1
def mf_pf (mo : sd_MS) : (Nat → Int32) := mo.2.2.2.2.2.2.2.2.1
def mf_wt (mo : sd_MS) : (Nat → Int64) := mo.2.2.2.2.2.2.2.2.2.1
def mf_pw (mo : sd_MS) : (Nat → Int32) := mo.2.2.2.2.2.2.2.2.2.2.1
def mf_fl (mo : sd_MS) : Int32 := mo.2.2.2.2.2.2.2.2.2.2.2.1
def mf_tw (mo : sd_MS) : Int32 := mo.2.2.2.2.2.2.2.2.2.2.2.2.1
def mf_tp (mo : sd_MS) : Int32 := mo.2.2.2.2.2.2.2.2.2.2.2.2.2.1
def mf_tn (mo : sd_MS) : Int32 := mo.2.2.2.2.2.2.2.2.2.2.2.2.2.2.1
def mf_an (mo : sd_MS) : Int32 := mo.2.2.2.2.2.2.2.2.2.2.2.2.2.2.2.1
def mf_co (mo : sd_MS) : Int32 := mo.2.2.2.2.2.2.2.2.2.2.2.2.2.2.2.2.1
def mf_s1 (mo : sd_MS) : Int32 := mo.2.2.2.2.2.2.2.2.2.2.2.2.2.2.2.2.2.1
def mf_s2 (mo : sd_MS) : Int32 := mo.2.2.2.2.2.2.2.2.2.2.2.2.2.2.2.2.2.2
def sd_Mx (k3 : ClassId × ClassId × ClassId) (q : Nat → Nat) (tc : Int32) (ac : Int32) (aa : (Nat → Int32)) (md : (Nat → Int32)) (th : (Nat → Int32)) (us : (Nat → Int32)) (pk : (Nat → Int32)) (pb : (Nat → Int32)) (pf : (Nat → Int32)) (wt : (Nat → Int64)) (pw : (Nat → Int32)) (fl : Int32) (tw : Int32) (tp : Int32) (tn : Int32) (an : Int32) (co : Int32) (s1 : Int32) (s2 : Int32) : va_W := [((q 0), .inr (3, [.int tc, .int ac, .ref (q 1), .ref (q 2), .ref (q 3), .ref (q 4), .ref (q 5), .ref (q 6), .ref (q 7), .ref (q 8), .ref (q 9), .int fl, .int tw, .int tp, .int tn, .int an, .int co, .int s1, .int s2])), ((q 1), .inl (k3.1, 240, .inl aa)), ((q 2), .inl (k3.1, 5, .inl md)), ((q 3), .inl (k3.2.1, 50, .inl th)), ((q 4), .inl (k3.1, 50, .inl us)), ((q 5), .inl (k3.1, 6, .inl pk)), ((q 6), .inl (k3.1, 6, .inl pb)), ((q 7), .inl (k3.1, 6, .inl pf)), ((q 8), .inl (k3.2.2, 6, .inr (.inl wt))), ((q 9), .inl (k3.1, 6, .inl pw))]
def sd_M (k3 : ClassId × ClassId × ClassId) (q : Nat → Nat) (mo : sd_MS) : va_W := sd_Mx k3 q (mf_tc mo) (mf_ac mo) (mf_aa mo) (mf_md mo) (mf_th mo) (mf_us mo) (mf_pk mo) (mf_pb mo) (mf_pf mo) (mf_wt mo) (mf_pw mo) (mf_fl mo) (mf_tw mo) (mf_tp mo) (mf_tn mo) (mf_an mo) (mf_co mo) (mf_s1 mo) (mf_s2 mo)
def mm_tc (mo : sd_MS) (x : Int32) : sd_MS := (x, mf_ac mo, mf_aa mo, mf_md mo, mf_th mo, mf_us mo, mf_pk mo, mf_pb mo, mf_pf mo, mf_wt mo, mf_pw mo, mf_fl mo, mf_tw mo, mf_tp mo, mf_tn mo, mf_an mo, mf_co mo, mf_s1 mo, mf_s2 mo)
def mm_make (mo : sd_MS) (k n : Nat) : sd_MS := (mf_tc mo, mf_ac mo, mf_aa mo, upd (mf_md mo) k (mf_md mo k + 1), upd (mf_th mo) (10 * k + (n + 1)) 1, upd (mf_us mo) (10 * k + (n + 1)) 0, mf_pk mo, mf_pb mo, mf_pf mo, mf_wt mo, mf_pw mo, mf_fl mo, mf_tw mo, mf_tp mo, mf_tn mo, mf_an mo, mf_co mo, mf_s1 mo, mf_s2 mo)
def mm_drop (mo : sd_MS) (k j : Nat) : sd_MS := (mf_tc mo, mf_ac mo, mf_aa mo, mf_md mo, upd (mf_th mo) (10 * k + j) 0, mf_us mo, mf_pk mo, mf_pb mo, mf_pf mo, mf_wt mo, mf_pw mo, mf_fl mo, mf_tw mo, mf_tp mo, mf_tn mo, mf_an mo, mf_co mo, mf_s1 mo, mf_s2 mo)
def mm_kind (mo : sd_MS) (pt : Nat) (x : Int32) : sd_MS := (mf_tc mo, mf_ac mo, mf_aa mo, mf_md mo, mf_th mo, mf_us mo, upd (mf_pk mo) pt x, mf_pb mo, mf_pf mo, mf_wt mo, mf_pw mo, mf_fl mo, mf_tw mo, mf_tp mo, mf_tn mo, mf_an mo, mf_co mo, mf_s1 mo, mf_s2 mo)
def mm_answer (mo : sd_MS) (pt : Nat) (b f : Int32) : sd_MS := (mf_tc mo, mf_ac mo, mf_aa mo, mf_md mo, mf_th mo, mf_us mo, mf_pk mo, upd (mf_pb mo) pt b, upd (mf_pf mo) pt f, mf_wt mo, mf_pw mo, mf_fl mo, mf_tw mo, mf_tp mo, mf_tn mo, mf_an mo, mf_co mo, mf_s1 mo, mf_s2 mo)
def mm_way (mo : sd_MS) (pt : Nat) (x : Int32) : sd_MS := (mf_tc mo, mf_ac mo, mf_aa mo, mf_md mo, mf_th mo, mf_us mo, mf_pk mo, mf_pb mo, mf_pf mo, mf_wt mo, upd (mf_pw mo) pt x, mf_fl mo, mf_tw mo, mf_tp mo, mf_tn mo, mf_an mo, mf_co mo, mf_s1 mo, mf_s2 mo)
def mm_tell (mo : sd_MS) (pt : Nat) (y : Int32) : sd_MS := (mf_tc mo, mf_ac mo, mf_aa mo, mf_md mo, mf_th mo, mf_us mo, mf_pk mo, mf_pb mo, mf_pf mo, mf_wt mo, mf_pw mo, mf_fl mo + 1, mf_pw mo pt, nI pt, y, mf_an mo, mf_co mo, mf_s1 mo, mf_s2 mo)
def mm_work (mo : sd_MS) (pt k j : Nat) (a : Int32) : sd_MS := (mf_tc mo, mf_ac mo, mf_aa mo, mf_md mo, mf_th mo, upd (mf_us mo) (10 * k + j) (mf_us mo (10 * k + j) + 1), mf_pk mo, mf_pb mo, mf_pf mo, vp_updL (mf_wt mo) pt (mf_wt mo pt + a.toInt64), mf_pw mo, mf_fl mo, mf_tw mo, mf_tp mo, mf_tn mo, mf_an mo + 1, mf_co mo, mf_s1 mo, mf_s2 mo)
def mm_byte (mo : sd_MS) (b : Int32) : sd_MS := (mf_tc mo, mf_ac mo, mf_aa mo, mf_md mo, mf_th mo, mf_us mo, mf_pk mo, mf_pb mo, mf_pf mo, mf_wt mo, mf_pw mo, mf_fl mo, mf_tw mo, mf_tp mo, mf_tn mo, mf_an mo, mf_co mo + 1, hd_m (mf_s1 mo + b), hd_m (mf_s2 mo + hd_m (mf_s1 mo + b)))
def mm_keep (mo : sd_MS) (n : Nat) (a x y z : Int32) : sd_MS := (mf_tc mo, nI (n + 1), upd (upd (upd (upd (mf_aa mo) (4 * n) a) (4 * n + 1) x) (4 * n + 2) y) (4 * n + 3) z, mf_md mo, mf_th mo, mf_us mo, mf_pk mo, mf_pb mo, mf_pf mo, mf_wt mo, mf_pw mo, mf_fl mo, mf_tw mo, mf_tp mo, mf_tn mo, mf_an mo, mf_co mo, mf_s1 mo, mf_s2 mo)
def mm_dec (mo : sd_MS) (n : Nat) : sd_MS := (0, nI n, mf_aa mo, mf_md mo, mf_th mo, mf_us mo, mf_pk mo, mf_pb mo, mf_pf mo, mf_wt mo, mf_pw mo, mf_fl mo, mf_tw mo, mf_tp mo, mf_tn mo, mf_an mo, mf_co mo, mf_s1 mo, mf_s2 mo)
def mm_fresh (mo : sd_MS) : sd_MS := (mf_tc mo, mf_ac mo, mf_aa mo, hd_z (mf_md mo) 5, hd_z (mf_th mo) 50, hd_z (mf_us mo) 50, hd_zk (mf_pk mo) 6, hd_z (mf_pb mo) 6, hd_z (mf_pf mo) 6, hd_zl (mf_wt mo) 6, hd_z (mf_pw mo) 6, 0, 0, -1, -1, 0, 0, 1, 0)
def sd_mz : sd_MS := (0, 0, fun _ => 0, fun _ => 0, fun _ => 0, fun _ => 0, fun _ => 0, fun _ => 0, fun _ => 0, fun _ => 0, fun _ => 0, 0, 0, -1, -1, 0, 0, 1, 0)
def sd_q10 (h0 a1 a2 a3 a4 a5 a6 a7 a8 a9 : Nat) : Nat → Nat := fun i => match i with
  | 0 => h0 | 1 => a1 | 2 => a2 | 3 => a3 | 4 => a4 | 5 => a5 | 6 => a6 | 7 => a7 | 8 => a8 | _ => a9
def mm_call (mo : sd_MS) (pt k j : Nat) (a : Int32) : sd_MS := if mf_pw mo pt ≤ 0 then mm_work mo pt k j a else mm_tell mo pt (nI j)
def mm_do (mo : sd_MS) (a x y z : Int32) : sd_MS :=
  if a = 0 then mm_make mo x.toNatClampNeg (mf_md mo x.toNatClampNeg).toNatClampNeg
  else if a = 1 then mm_drop mo x.toNatClampNeg y.toNatClampNeg
  else if a = 2 then mm_kind mo x.toNatClampNeg y
  else if a = 3 then mm_answer mo x.toNatClampNeg y z
  else if a = 4 then mm_way mo x.toNatClampNeg y
  else if a = 5 then mm_call mo x.toNatClampNeg (mf_pk mo x.toNatClampNeg).toNatClampNeg y.toNatClampNeg z
  else mm_byte mo x
theorem mm_do_keeps (mo : sd_MS) (a x y z : Int32) : mf_tc (mm_do mo a x y z) = mf_tc mo ∧ mf_ac (mm_do mo a x y z) = mf_ac mo ∧ mf_aa (mm_do mo a x y z) = mf_aa mo := by
  unfold mm_do mm_call
  repeat' split
  all_goals exact ⟨rfl, rfl, rfl⟩
def mm_run (m0 : sd_MS) (aa : Nat → Int32) : Nat → sd_MS
  | 0 => m0
  | i + 1 => mm_do (mm_run m0 aa i) (aa (4 * i)) (aa (4 * i + 1)) (aa (4 * i + 2)) (aa (4 * i + 3))
theorem mm_run_keeps (m0 : sd_MS) (aa : Nat → Int32) (n : Nat) : mf_tc (mm_run m0 aa n) = mf_tc m0 ∧ mf_ac (mm_run m0 aa n) = mf_ac m0 ∧ mf_aa (mm_run m0 aa n) = mf_aa m0 := by
  induction n with
  | zero => exact ⟨rfl, rfl, rfl⟩
  | succ n ih =>
    obtain ⟨h1, h2, h3⟩ := mm_do_keeps (mm_run m0 aa n) (aa (4 * n)) (aa (4 * n + 1)) (aa (4 * n + 2)) (aa (4 * n + 3))
    exact ⟨h1.trans ih.1, h2.trans ih.2.1, h3.trans ih.2.2⟩
/-- the reference's house is this house -/
def sm_rel (mo : sd_MS) (u : sd_HS) : Prop := (∀ k, k < 5 → mf_md mo k = hf_md u k) ∧ (∀ k j, k < 5 → 1 ≤ j → j ≤ 9 → mf_th mo (10 * k + j) = hf_th u (k * 9 + j - 1)) ∧ (∀ k j, k < 5 → 1 ≤ j → j ≤ 9 → mf_us mo (10 * k + j) = hf_us u (k * 9 + j - 1)) ∧ (∀ i, i < 6 → mf_pk mo i = hf_pk u i) ∧ (∀ i, i < 6 → mf_pb mo i = hf_pb u i) ∧ (∀ i, i < 6 → mf_pf mo i = hf_pf u i) ∧ (∀ i, i < 6 → mf_wt mo i = hf_wt u i) ∧ (∀ i, i < 6 → mf_pw mo i = hf_pw u i) ∧ (mf_fl mo = hf_fl u) ∧ (mf_tw mo = hf_tw u) ∧ (mf_tp mo = hf_tp u) ∧ (mf_tn mo = hf_tn u) ∧ (mf_an mo = hf_an u) ∧ (mf_co mo = hf_co u) ∧ (mf_s1 mo = hf_s1 u) ∧ (mf_s2 mo = hf_s2 u)
theorem sm_mk {mo : sd_MS} {u : sd_HS} (md : ∀ k, k < 5 → mf_md mo k = hf_md u k) (th : ∀ k j, k < 5 → 1 ≤ j → j ≤ 9 → mf_th mo (10 * k + j) = hf_th u (k * 9 + j - 1)) (us : ∀ k j, k < 5 → 1 ≤ j → j ≤ 9 → mf_us mo (10 * k + j) = hf_us u (k * 9 + j - 1)) (pk : ∀ i, i < 6 → mf_pk mo i = hf_pk u i) (pb : ∀ i, i < 6 → mf_pb mo i = hf_pb u i) (pf : ∀ i, i < 6 → mf_pf mo i = hf_pf u i) (wt : ∀ i, i < 6 → mf_wt mo i = hf_wt u i) (pw : ∀ i, i < 6 → mf_pw mo i = hf_pw u i) (fl : mf_fl mo = hf_fl u) (tw : mf_tw mo = hf_tw u) (tp : mf_tp mo = hf_tp u) (tn : mf_tn mo = hf_tn u) (an : mf_an mo = hf_an u) (co : mf_co mo = hf_co u) (s1 : mf_s1 mo = hf_s1 u) (s2 : mf_s2 mo = hf_s2 u) : sm_rel mo u := ⟨md, th, us, pk, pb, pf, wt, pw, fl, tw, tp, tn, an, co, s1, s2⟩
theorem sm_rel.md {mo : sd_MS} {u : sd_HS} (r : sm_rel mo u) : ∀ k, k < 5 → mf_md mo k = hf_md u k := r.1
theorem sm_rel.th {mo : sd_MS} {u : sd_HS} (r : sm_rel mo u) : ∀ k j, k < 5 → 1 ≤ j → j ≤ 9 → mf_th mo (10 * k + j) = hf_th u (k * 9 + j - 1) := r.2.1
theorem sm_rel.us {mo : sd_MS} {u : sd_HS} (r : sm_rel mo u) : ∀ k j, k < 5 → 1 ≤ j → j ≤ 9 → mf_us mo (10 * k + j) = hf_us u (k * 9 + j - 1) := r.2.2.1
theorem sm_rel.pk {mo : sd_MS} {u : sd_HS} (r : sm_rel mo u) : ∀ i, i < 6 → mf_pk mo i = hf_pk u i := r.2.2.2.1
theorem sm_rel.pb {mo : sd_MS} {u : sd_HS} (r : sm_rel mo u) : ∀ i, i < 6 → mf_pb mo i = hf_pb u i := r.2.2.2.2.1
theorem sm_rel.pf {mo : sd_MS} {u : sd_HS} (r : sm_rel mo u) : ∀ i, i < 6 → mf_pf mo i = hf_pf u i := r.2.2.2.2.2.1
theorem sm_rel.wt {mo : sd_MS} {u : sd_HS} (r : sm_rel mo u) : ∀ i, i < 6 → mf_wt mo i = hf_wt u i := r.2.2.2.2.2.2.1
theorem sm_rel.pw {mo : sd_MS} {u : sd_HS} (r : sm_rel mo u) : ∀ i, i < 6 → mf_pw mo i = hf_pw u i := r.2.2.2.2.2.2.2.1
theorem sm_rel.fl {mo : sd_MS} {u : sd_HS} (r : sm_rel mo u) : mf_fl mo = hf_fl u := r.2.2.2.2.2.2.2.2.1
theorem sm_rel.tw {mo : sd_MS} {u : sd_HS} (r : sm_rel mo u) : mf_tw mo = hf_tw u := r.2.2.2.2.2.2.2.2.2.1
theorem sm_rel.tp {mo : sd_MS} {u : sd_HS} (r : sm_rel mo u) : mf_tp mo = hf_tp u := r.2.2.2.2.2.2.2.2.2.2.1
theorem sm_rel.tn {mo : sd_MS} {u : sd_HS} (r : sm_rel mo u) : mf_tn mo = hf_tn u := r.2.2.2.2.2.2.2.2.2.2.2.1
theorem sm_rel.an {mo : sd_MS} {u : sd_HS} (r : sm_rel mo u) : mf_an mo = hf_an u := r.2.2.2.2.2.2.2.2.2.2.2.2.1
theorem sm_rel.co {mo : sd_MS} {u : sd_HS} (r : sm_rel mo u) : mf_co mo = hf_co u := r.2.2.2.2.2.2.2.2.2.2.2.2.2.1
theorem sm_rel.s1 {mo : sd_MS} {u : sd_HS} (r : sm_rel mo u) : mf_s1 mo = hf_s1 u := r.2.2.2.2.2.2.2.2.2.2.2.2.2.2.1
theorem sm_rel.s2 {mo : sd_MS} {u : sd_HS} (r : sm_rel mo u) : mf_s2 mo = hf_s2 u := r.2.2.2.2.2.2.2.2.2.2.2.2.2.2.2
theorem sm_keep {mo : sd_MS} {u : sd_HS} {n : Nat} {a x y z : Int32} (r : sm_rel mo u) : sm_rel (mm_keep mo n a x y z) u := sm_mk r.md r.th r.us r.pk r.pb r.pf r.wt r.pw r.fl r.tw r.tp r.tn r.an r.co r.s1 r.s2
theorem sm_tc0 {mo : sd_MS} {u : sd_HS} {x : Int32} (r : sm_rel mo u) : sm_rel (mm_tc mo x) u := sm_mk r.md r.th r.us r.pk r.pb r.pf r.wt r.pw r.fl r.tw r.tp r.tn r.an r.co r.s1 r.s2
theorem sm_upd {f g : Nat → Int32} {i k n : Nat} {x y : Int32} (h : ∀ i, i < n → f i = g i) (hi : i < n) (e : x = y) : upd f k x i = upd g k y i := by
  rw [e]
  by_cases hk : i = k
  · rw [hk, pk_us, pk_us]
  · rw [pk_un hk, pk_un hk]; exact h i hi
theorem sm_upd2 {f g : Nat → Int32} {k k' j j' : Nat} {x y : Int32} (hj' : 1 ≤ j') (hj9' : j' ≤ 9) (hj : 1 ≤ j) (hj9 : j ≤ 9) (h : f (10 * k' + j') = g (k' * 9 + j' - 1)) (e : x = y) : upd f (10 * k + j) x (10 * k' + j') = upd g (k * 9 + j - 1) y (k' * 9 + j' - 1) := by
  rw [e]
  by_cases hk : 10 * k' + j' = 10 * k + j
  · have e2 : k' * 9 + j' - 1 = k * 9 + j - 1 := by omega
    rw [hk, e2, pk_us, pk_us]
  · rw [pk_un hk, pk_un (by omega)]; exact h
theorem sm_le {x : Int32} (h : ¬ x < 0) : x ≤ 0 ↔ x = 0 := by
  rw [Int32.le_iff_toInt_le, ← Int32.toInt_inj]
  rw [Int32.lt_iff_toInt_lt] at h
  have : (0 : Int32).toInt = 0 := rfl
  omega
theorem sm_work {mo : sd_MS} {u : sd_HS} {pt k j : Nat} {a : Int32} (r : sm_rel mo u) (hp : pt < 6) (hk : k < 5) (h1 : 1 ≤ j) (h9 : j ≤ 9) : sm_rel (mm_work mo pt k j a) (hd_work u pt k j a) :=
  (sm_mk r.md r.th (fun k' j' hk' h1' h9' => sm_upd2 h1' h9' h1 h9 (r.us k' j' hk' h1' h9') (by rw [r.us k j hk h1 h9])) r.pk r.pb r.pf (fun i hi => by
      show vp_updL (mf_wt mo) pt (mf_wt mo pt + a.toInt64) i = vp_updL (hf_wt u) pt (hf_wt u pt + a.toInt64) i
      rw [r.wt pt hp]
      simp only [vp_updL]
      split
      · rfl
      · exact r.wt i hi) r.pw r.fl r.tw r.tp r.tn (by show mf_an mo + 1 = hf_an u + 1; rw [r.an]) r.co r.s1 r.s2)
theorem sm_rel_do {mo : sd_MS} {u : sd_HS} {a x y z : Int32} (r : sm_rel mo u) (hi : sd_inv u) (hk : sd_ok u a x y) : sm_rel (mm_do mo a x y z) (sd_do u a x y z) := by
  rcases hk with ⟨rfl, k, n, hk, hn, rfl, hm⟩ | ⟨rfl, k, j, hk, hj1, hj9, rfl, rfl⟩ | ⟨rfl, pt, k, hp, hk, rfl, rfl⟩ | ⟨rfl, pt, hp, rfl⟩ | ⟨rfl, pt, hp, rfl, hy⟩ | ⟨rfl, pt, k, j, hp, hk, hj1, hj9, rfl, rfl, hkp, hth⟩ | rfl
  · have e : sd_do u 0 (nI k) y z = hd_make u k n := by simp only [sd_do, sd_cl5 (show k < 9 by omega), hm, sd_cl5 hn, if_true]
    have e2 : mm_do mo 0 (nI k) y z = mm_make mo k n := by simp only [mm_do, sd_cl5 (show k < 9 by omega), r.md k hk, hm, sd_cl5 hn, if_true]
    rw [e, e2]
    exact (sm_mk (fun i hi => sm_upd r.md hi (by rw [r.md k hk])) (fun k' j' hk' h1' h9' => sm_upd2 (j := n + 1) h1' h9' (by omega) (by omega) (r.th k' j' hk' h1' h9') rfl) (fun k' j' hk' h1' h9' => by
        show upd (mf_us mo) (10 * k + (n + 1)) 0 (10 * k' + j') = hf_us u (k' * 9 + j' - 1)
        by_cases hq : 10 * k' + j' = 10 * k + (n + 1)
        · have e3 : k' = k := by omega
          have e4 : j' = n + 1 := by omega
          rw [hq, pk_us, e3, e4]
          exact (hi.2.2.2 k n (n + 1) hk (by omega) hm (by omega) (by omega)).2.symm
        · rw [pk_un hq]; exact r.us k' j' hk' h1' h9') r.pk r.pb r.pf r.wt r.pw r.fl r.tw r.tp r.tn r.an r.co r.s1 r.s2)
  · have e : sd_do u 1 (nI k) (nI j) z = hd_drop u k j := by simp only [sd_do, sd_cl5 (show k < 9 by omega), sd_cl10 hj9]; rfl
    have e2 : mm_do mo 1 (nI k) (nI j) z = mm_drop mo k j := by simp only [mm_do, sd_cl5 (show k < 9 by omega), sd_cl10 hj9]; rfl
    rw [e, e2]
    exact (sm_mk r.md (fun k' j' hk' h1' h9' => sm_upd2 h1' h9' hj1 hj9 (r.th k' j' hk' h1' h9') rfl) r.us r.pk r.pb r.pf r.wt r.pw r.fl r.tw r.tp r.tn r.an r.co r.s1 r.s2)
  · have e : sd_do u 2 (nI pt) (nI k) z = hd_kind u pt (nI k) := by simp only [sd_do, sd_cl5 (show pt < 9 by omega)]; rfl
    have e2 : mm_do mo 2 (nI pt) (nI k) z = mm_kind mo pt (nI k) := by simp only [mm_do, sd_cl5 (show pt < 9 by omega)]; rfl
    rw [e, e2]
    exact (sm_mk r.md r.th r.us (fun i hi => sm_upd r.pk hi rfl) r.pb r.pf r.wt r.pw r.fl r.tw r.tp r.tn r.an r.co r.s1 r.s2)
  · have e : sd_do u 3 (nI pt) y z = hd_answer u pt y z := by simp only [sd_do, sd_cl5 (show pt < 9 by omega)]; rfl
    have e2 : mm_do mo 3 (nI pt) y z = mm_answer mo pt y z := by simp only [mm_do, sd_cl5 (show pt < 9 by omega)]; rfl
    rw [e, e2]
    exact (sm_mk r.md r.th r.us r.pk (fun i hi => sm_upd r.pb hi rfl) (fun i hi => sm_upd r.pf hi rfl) r.wt r.pw r.fl r.tw r.tp r.tn r.an r.co r.s1 r.s2)
  · have e : sd_do u 4 (nI pt) y z = hd_way u pt y := by simp only [sd_do, sd_cl5 (show pt < 9 by omega)]; rfl
    have e2 : mm_do mo 4 (nI pt) y z = mm_way mo pt y := by simp only [mm_do, sd_cl5 (show pt < 9 by omega)]; rfl
    rw [e, e2]
    exact (sm_mk r.md r.th r.us r.pk r.pb r.pf r.wt (fun i hi => sm_upd r.pw hi rfl) r.fl r.tw r.tp r.tn r.an r.co r.s1 r.s2)
  · have e : sd_do u 5 (nI pt) (nI j) z = (if hf_pw u pt = 0 then hd_work u pt k j z else hd_tell u pt (nI j)) := by simp only [sd_do, sd_cl5 (show pt < 9 by omega), sd_cl10 hj9, hkp, sd_cl5 (show k < 9 by omega)]; rfl
    have e2 : mm_do mo 5 (nI pt) (nI j) z = mm_call mo pt k j z := by simp only [mm_do, sd_cl5 (show pt < 9 by omega), sd_cl10 hj9, r.pk pt hp, hkp, sd_cl5 (show k < 9 by omega)]; rfl
    rw [e, e2]
    unfold mm_call
    have hw := r.pw pt hp
    by_cases h0 : hf_pw u pt = 0
    · rw [if_pos h0, if_pos ((sm_le (by rw [hw]; exact hi.2.2.1 pt hp)).mpr (by rw [hw]; exact h0))]
      exact sm_work r hp hk hj1 hj9
    · rw [if_neg h0, if_neg (fun z => h0 (by rw [← hw]; exact (sm_le (by rw [hw]; exact hi.2.2.1 pt hp)).mp z))]
      exact (sm_mk r.md r.th r.us r.pk r.pb r.pf r.wt r.pw (by show mf_fl mo + 1 = hf_fl u + 1; rw [r.fl]) (hw) (rfl) (rfl) r.an r.co r.s1 r.s2)
  · show sm_rel (mm_byte mo x) (hd_byte u x)
    exact (sm_mk r.md r.th r.us r.pk r.pb r.pf r.wt r.pw r.fl r.tw r.tp r.tn r.an (by show mf_co mo + 1 = hf_co u + 1; rw [r.co]) (by show hd_m (mf_s1 mo + x) = hd_m (hf_s1 u + x); rw [r.s1]) (by show hd_m (mf_s2 mo + hd_m (mf_s1 mo + x)) = hd_m (hf_s2 u + hd_m (hf_s1 u + x)); rw [r.s1, r.s2]))
theorem sm_rel_0 (mo : sd_MS) : sm_rel (mm_fresh mo) sd_h0 :=
  sm_mk (fun i h => hd_z_lt _ _ _ h) (fun k j hk h1 h9 => hd_z_lt _ _ _ (by omega)) (fun k j hk h1 h9 => hd_z_lt _ _ _ (by omega)) (fun i h => hd_zk_lt _ _ _ h) (fun i h => hd_z_lt _ _ _ h) (fun i h => hd_z_lt _ _ _ h) (fun i h => hd_zl_lt _ _ _ h) (fun i h => hd_z_lt _ _ _ h) (rfl) (rfl) (rfl) (rfl) (rfl) (rfl) (rfl) (rfl)
/-- the reference holds this row and its house -/
def sm_row (mo : sd_MS) (o : sd_S) : Prop := ∀ j, j < o.1 → mf_aa mo (4 * j) = o.2.1 j ∧ mf_aa mo (4 * j + 1) = o.2.2.1 j ∧ mf_aa mo (4 * j + 2) = o.2.2.2.1 j ∧ mf_aa mo (4 * j + 3) = o.2.2.2.2 j
def sm_all (mo : sd_MS) (o : sd_S) : Prop := mf_ac mo = nI o.1 ∧ sm_row mo o ∧ sm_rel mo (sS_u o)
theorem sm_tc {mo : sd_MS} {o : sd_S} (x : Int32) (h : sm_all mo o) : sm_all (mm_tc mo x) o := ⟨h.1, h.2.1, sm_tc0 h.2.2⟩
theorem sm_put {mo : sd_MS} {o : sd_S} {a x y z : Int32} (h : sm_all mo o) (ho : sS_ok o) (hk : sd_ok (sS_u o) a x y) : sm_all (mm_do (mm_keep mo o.1 a x y z) a x y z) (sS_put o a x y z) := by
  obtain ⟨h1, h2, h3⟩ := h
  obtain ⟨e1, e2, e3⟩ := mm_do_keeps (mm_keep mo o.1 a x y z) a x y z
  refine ⟨e2, fun j hj => ?_, ?_⟩
  · rw [e3]
    obtain ⟨n, f0, f1, f2, f3⟩ := o
    have hj : j < n + 1 := hj
    show upd (upd (upd (upd (mf_aa mo) (4 * n) a) (4 * n + 1) x) (4 * n + 2) y) (4 * n + 3) z (4 * j) = upd f0 n a j ∧ upd (upd (upd (upd (mf_aa mo) (4 * n) a) (4 * n + 1) x) (4 * n + 2) y) (4 * n + 3) z (4 * j + 1) = upd f1 n x j ∧ upd (upd (upd (upd (mf_aa mo) (4 * n) a) (4 * n + 1) x) (4 * n + 2) y) (4 * n + 3) z (4 * j + 2) = upd f2 n y j ∧ upd (upd (upd (upd (mf_aa mo) (4 * n) a) (4 * n + 1) x) (4 * n + 2) y) (4 * n + 3) z (4 * j + 3) = upd f3 n z j
    by_cases q : j = n
    · subst q
      refine ⟨?_, ?_, ?_, ?_⟩
      · rw [pk_un (by omega), pk_un (by omega), pk_un (by omega), pk_us, pk_us]
      · rw [pk_un (by omega), pk_un (by omega), pk_us, pk_us]
      · rw [pk_un (by omega), pk_us, pk_us]
      · rw [pk_us, pk_us]
    · obtain ⟨g0, g1, g2, g3⟩ := h2 j (show j < n by omega)
      refine ⟨?_, ?_, ?_, ?_⟩
      · rw [pk_un (by omega), pk_un (by omega), pk_un (by omega), pk_un (by omega), pk_un q]; exact g0
      · rw [pk_un (by omega), pk_un (by omega), pk_un (by omega), pk_un (by omega), pk_un q]; exact g1
      · rw [pk_un (by omega), pk_un (by omega), pk_un (by omega), pk_un (by omega), pk_un q]; exact g2
      · rw [pk_un (by omega), pk_un (by omega), pk_un (by omega), pk_un (by omega), pk_un q]; exact g3
  · rw [sS_u_put]
    exact sm_rel_do (mo := mm_keep mo o.1 a x y z) (sm_keep h3) (sS_inv ho) hk
theorem sm_run {m0 mo : sd_MS} {o : sd_S} (h0 : sm_rel m0 sd_h0) (ho : sS_ok o) (hr : sm_row mo o) {i : Nat} (hi : i ≤ o.1) : sm_rel (mm_run m0 (mf_aa mo) i) (sd_run o.2.1 o.2.2.1 o.2.2.2.1 o.2.2.2.2 i) := by
  induction i with
  | zero => exact h0
  | succ i ih =>
    obtain ⟨g0, g1, g2, g3⟩ := hr i (by omega)
    have hk := ho.2 i (by omega)
    simp only [mm_run, sd_run]
    rw [g0, g1, g2, g3]
    exact sm_rel_do (ih (by omega)) (sd_inv_run fun j hj => ho.2 j (by omega)) hk
def hd_cnt10 (f : Nat → Int32) (k : Nat) : Nat → Nat
  | 0 => 0
  | n + 1 => hd_cnt10 f k n + (if f (10 * k + (n + 1)) = 0 then 0 else 1)
theorem hd_cnt10_eq {mo : sd_MS} {u : sd_HS} (r : sm_rel mo u) (hi : sd_inv u) {k n : Nat} (hk : k < 5) (hn : n ≤ 9) (hm : hf_md u k = nI n) (i : Nat) (h9 : i ≤ 9) : hd_cnt10 (mf_th mo) k i = hd_cnt (hf_th u) k (min i n) := by
  induction i with
  | zero => rw [Nat.zero_min]; rfl
  | succ i ih =>
    simp only [hd_cnt10]
    rw [ih (by omega), r.th k (i + 1) hk (by omega) h9]
    rcases Nat.lt_or_ge i n with q | q
    · have e1 : min (i + 1) n = i + 1 := by omega
      have e2 : min i n = i := by omega
      rw [e1, e2]
      rfl
    · have e1 : min (i + 1) n = min i n := by omega
      rw [e1, if_pos (hi.2.2.2 k n (i + 1) hk hn hm (by omega) h9).1, Nat.add_zero]
def hd_all10 (f : Nat → Int32) : Nat → Nat
  | 0 => 0
  | k + 1 => hd_all10 f k + hd_cnt10 f k 9
theorem sm_cnt {mo : sd_MS} {o : sd_S} (h : sm_all mo o) (ho : sS_ok o) {k : Nat} (hk : k < 5) : hd_cnt10 (mf_th mo) k 9 = hd_cnt (hf_th (sS_u o)) k (sp_mn o k) := by
  obtain ⟨h9, hm⟩ := sp_mn_ok ho k hk
  rw [hd_cnt10_eq h.2.2 (sS_inv ho) hk h9 hm 9 (Nat.le_refl 9)]
  congr 1
  omega
theorem sm_allc {mo : sd_MS} {o : sd_S} (h : sm_all mo o) (ho : sS_ok o) (i : Nat) (hi : i ≤ 5) : hd_all10 (mf_th mo) i = hd_all (hf_th (sS_u o)) (sp_mn o) i := by
  induction i with
  | zero => rfl
  | succ i ih =>
    simp only [hd_all10, hd_all]
    rw [ih (by omega), sm_cnt h ho (by omega)]
theorem sm_ix (k j : Nat) : 10 * nI k + nI j = nI (10 * k + j) := by
  rw [show (10 : Int32) = nI 10 from rfl, pk_mul, nI_add]
theorem sm_i4 (n : Nat) : 4 * nI n = nI (4 * n) := by rw [show (4 : Int32) = nI 4 from rfl, pk_mul]
theorem sm_i41 (n : Nat) : 4 * nI n + 1 = nI (4 * n + 1) := by rw [sm_i4]; exact nI_add (4 * n) 1
theorem sm_i42 (n : Nat) : 4 * nI n + 2 = nI (4 * n + 2) := by rw [sm_i4]; exact nI_add (4 * n) 2
theorem sm_i43 (n : Nat) : 4 * nI n + 3 = nI (4 * n + 3) := by rw [sm_i4]; exact nI_add (4 * n) 3
theorem sp_k5 (x : Int32) : (x < 0 ∨ 4 < x) ↔ sp_bad x 5 := by
  simp only [sp_bad, Int32.lt_iff_toInt_lt]; have : (4 : Int32).toInt = 4 := rfl; have : (5 : Int32).toInt = 5 := rfl; omega
theorem sp_k6 (x : Int32) : (x < 0 ∨ 5 < x) ↔ sp_bad x 6 := by
  simp only [sp_bad, Int32.lt_iff_toInt_lt]; have : (5 : Int32).toInt = 5 := rfl; have : (6 : Int32).toInt = 6 := rfl; omega
theorem sp_k4 (x : Int32) : (x < 0 ∨ 3 < x) ↔ sp_bad x 4 := by
  simp only [sp_bad, Int32.lt_iff_toInt_lt]; have : (3 : Int32).toInt = 3 := rfl; have : (4 : Int32).toInt = 4 := rfl; omega
theorem sp_k2 (x : Int32) : (x < 0 ∨ 1 < x) ↔ sp_bad x 2 := by
  simp only [sp_bad, Int32.lt_iff_toInt_lt]; have : (1 : Int32).toInt = 1 := rfl; have : (2 : Int32).toInt = 2 := rfl; omega
theorem sp_k256 (x : Int32) : (x < 0 ∨ 255 < x) ↔ sp_bad x 256 := by
  simp only [sp_bad, Int32.lt_iff_toInt_lt]; have : (255 : Int32).toInt = 255 := rfl; have : (256 : Int32).toInt = 256 := rfl; omega
theorem sp_kt (x : Int32) : (x < 0 ∨ 3 < x) ↔ (x.toInt < 0 ∨ 3 < x.toInt) := by
  simp only [Int32.lt_iff_toInt_lt]; have : (3 : Int32).toInt = 3 := rfl; have : (0 : Int32).toInt = 0 := rfl; omega

