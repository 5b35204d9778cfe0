/-! the document's object: a row of acts; what a call throws ("" nothing), answers, leaves -/
abbrev sd_S : Type := Nat × (Nat → Int32) × (Nat → Int32) × (Nat → Int32) × (Nat → Int32)
def sS_u (o : sd_S) : sd_HS := sd_run o.2.1 o.2.2.1 o.2.2.2.1 o.2.2.2.2 o.1
def sS_put (o : sd_S) (a x y z : Int32) : sd_S := (o.1 + 1, upd o.2.1 o.1 a, upd o.2.2.1 o.1 x, upd o.2.2.2.1 o.1 y, upd o.2.2.2.2 o.1 z)
def sS_pop (o : sd_S) : sd_S := (o.1 - 1, o.2)
theorem sd_run_congr {f0 f1 f2 f3 g0 g1 g2 g3 : Nat → Int32} (n : Nat) (h : ∀ i, i < n → f0 i = g0 i ∧ f1 i = g1 i ∧ f2 i = g2 i ∧ f3 i = g3 i) : sd_run f0 f1 f2 f3 n = sd_run g0 g1 g2 g3 n := by
  induction n with
  | zero => rfl
  | succ n ih =>
    obtain ⟨e0, e1, e2, e3⟩ := h n (by omega)
    simp only [sd_run, ih (fun i hi => h i (by omega)), e0, e1, e2, e3]
theorem sd_run_put (f0 f1 f2 f3 : Nat → Int32) (n : Nat) (a x y z : Int32) {i : Nat} (hi : i ≤ n) : sd_run (upd f0 n a) (upd f1 n x) (upd f2 n y) (upd f3 n z) i = sd_run f0 f1 f2 f3 i :=
  sd_run_congr i fun j hj => ⟨pk_un (by omega), pk_un (by omega), pk_un (by omega), pk_un (by omega)⟩
theorem sS_u_put (o : sd_S) (a x y z : Int32) : sS_u (sS_put o a x y z) = sd_do (sS_u o) a x y z := by
  obtain ⟨n, f0, f1, f2, f3⟩ := o
  show sd_do (sd_run (upd f0 n a) (upd f1 n x) (upd f2 n y) (upd f3 n z) n) (upd f0 n a n) (upd f1 n x n) (upd f2 n y n) (upd f3 n z n) = _
  rw [sd_run_put f0 f1 f2 f3 n a x y z (Nat.le_refl n), pk_us, pk_us, pk_us, pk_us]
  rfl
/-- a row that holds: at most sixty, each in range when it was done -/
def sS_ok (o : sd_S) : Prop := o.1 ≤ 60 ∧ ∀ j, j < o.1 → sd_ok (sd_run o.2.1 o.2.2.1 o.2.2.2.1 o.2.2.2.2 j) (o.2.1 j) (o.2.2.1 j) (o.2.2.2.1 j)
theorem sS_ok_put {o : sd_S} {a x y z : Int32} (h : sS_ok o) (hn : o.1 < 60) (hk : sd_ok (sS_u o) a x y) : sS_ok (sS_put o a x y z) := by
  obtain ⟨n, f0, f1, f2, f3⟩ := o
  obtain ⟨h1, h2⟩ := h
  refine ⟨hn, fun j hj => ?_⟩
  have hj : j < n + 1 := hj
  show sd_ok (sd_run (upd f0 n a) (upd f1 n x) (upd f2 n y) (upd f3 n z) j) (upd f0 n a j) (upd f1 n x j) (upd f2 n y j)
  rw [sd_run_put f0 f1 f2 f3 n a x y z (by omega)]
  rcases Nat.lt_or_ge j n with q | q
  · rw [pk_un (by omega), pk_un (by omega), pk_un (by omega)]
    exact h2 j q
  · have e : j = n := by omega
    subst e
    rw [pk_us, pk_us, pk_us]
    exact hk
theorem sS_ok_pop {o : sd_S} (h : sS_ok o) : sS_ok (sS_pop o) := ⟨Nat.le_trans (Nat.sub_le _ _) h.1, fun j hj => h.2 j (Nat.lt_of_lt_of_le hj (Nat.sub_le _ _))⟩
/-- what holds of every house that such a row leaves -/
def sd_inv (u : sd_HS) : Prop := (∀ k, k < 5 → ∃ n, n ≤ 9 ∧ hf_md u k = nI n) ∧ (∀ pt, pt < 6 → ∃ k, k < 5 ∧ hf_pk u pt = nI k) ∧ (∀ pt, pt < 6 → ¬ hf_pw u pt < 0) ∧ ∀ k n j, k < 5 → n ≤ 9 → hf_md u k = nI n → n < j → j ≤ 9 → hf_th u (k * 9 + j - 1) = 0 ∧ hf_us u (k * 9 + j - 1) = 0
theorem sd_inj {a b : Nat} (ha : a < 2 ^ 31) (hb : b < 2 ^ 31) (h : nI a = nI b) : a = b := by
  have e := congrArg Int32.toNatClampNeg h
  rwa [nI_clamp ha, nI_clamp hb] at e
theorem sd_upd_cases {f : Nat → Int32} {k i : Nat} {x : Int32} : upd f k x i = x ∧ i = k ∨ upd f k x i = f i ∧ i ≠ k := by
  by_cases h : i = k
  · exact Or.inl ⟨by rw [h, pk_us], h⟩
  · exact Or.inr ⟨pk_un h, h⟩
theorem sd_inv_do {u : sd_HS} {a x y z : Int32} (h : sd_inv u) (hk : sd_ok u a x y) : sd_inv (sd_do u a x y z) := by
  obtain ⟨h1, h2, h3, h4⟩ := h
  rcases hk with ⟨rfl, k, n, hk, hn, rfl, hm⟩ | ⟨rfl, k, j, hk, hj1, hj9, rfl, rfl⟩ | ⟨rfl, pt, k, hp, hk, rfl, rfl⟩ | ⟨rfl, pt, hp, rfl⟩ | ⟨rfl, pt, hp, rfl, hy⟩ | ⟨rfl, pt, k, j, hp, hk, hj1, hj9, rfl, rfl, hkp, hth⟩ | rfl
  · have e : sd_do u 0 (nI k) y z = hd_make u k n := by simp only [sd_do, sd_cl5 (show k < 9 by omega), hm, sd_cl5 hn, if_true]
    rw [e]
    refine ⟨fun i hi => ?_, h2, h3, fun i n1 j hi hn1 hmd hj hj9 => ?_⟩
    · show ∃ n', n' ≤ 9 ∧ upd (hf_md u) k (hf_md u k + 1) i = nI n'
      rcases sd_upd_cases (f := hf_md u) (k := k) (i := i) (x := hf_md u k + 1) with ⟨e1, _⟩ | ⟨e1, _⟩
      · exact ⟨n + 1, by omega, by rw [e1, hm]; exact nI_1 n⟩
      · rw [e1]; exact h1 i hi
    · have hmd : upd (hf_md u) k (hf_md u k + 1) i = nI n1 := hmd
      show upd (hf_th u) (k * 9 + (n + 1) - 1) 1 (i * 9 + j - 1) = 0 ∧ hf_us u (i * 9 + j - 1) = 0
      rcases sd_upd_cases (f := hf_md u) (k := k) (i := i) (x := hf_md u k + 1) with ⟨e1, e2⟩ | ⟨e1, e2⟩
      · rw [e1, hm, nI_1] at hmd
        have e3 : n + 1 = n1 := sd_inj (by omega) (by omega) hmd
        rw [e2]
        have h5 := h4 k n j hk (by omega) hm (by omega) hj9
        rw [pk_un (by omega)]
        exact h5
      · rw [e1] at hmd
        have h5 := h4 i n1 j hi hn1 hmd hj hj9
        rw [pk_un (by omega)]
        exact h5
  · have e : sd_do u 1 (nI k) (nI j) z = hd_drop u k j := by simp only [sd_do, sd_cl5 (show k < 9 by omega), sd_cl10 hj9]; rfl
    rw [e]
    refine ⟨h1, h2, h3, fun i n1 j1 hi hn1 hmd hj hj91 => ?_⟩
    have h5 := h4 i n1 j1 hi hn1 hmd hj hj91
    refine ⟨?_, h5.2⟩
    show upd (hf_th u) (k * 9 + j - 1) 0 (i * 9 + j1 - 1) = 0
    rcases sd_upd_cases (f := hf_th u) (k := k * 9 + j - 1) (i := i * 9 + j1 - 1) (x := 0) with ⟨e1, _⟩ | ⟨e1, _⟩
    · exact e1
    · rw [e1]; exact h5.1
  · have e : sd_do u 2 (nI pt) (nI k) z = hd_kind u pt (nI k) := by simp only [sd_do, sd_cl5 (show pt < 9 by omega)]; rfl
    rw [e]
    refine ⟨h1, fun i hi => ?_, h3, h4⟩
    show ∃ k', k' < 5 ∧ upd (hf_pk u) pt (nI k) i = nI k'
    rcases sd_upd_cases (f := hf_pk u) (k := pt) (i := i) (x := nI k) with ⟨e1, _⟩ | ⟨e1, _⟩
    · exact ⟨k, hk, e1⟩
    · rw [e1]; exact h2 i hi
  · exact ⟨h1, h2, h3, h4⟩
  · have e : sd_do u 4 (nI pt) y z = hd_way u pt y := by simp only [sd_do, sd_cl5 (show pt < 9 by omega)]; rfl
    rw [e]
    refine ⟨h1, h2, fun i hi => ?_, h4⟩
    show ¬ upd (hf_pw u) pt y i < 0
    rcases sd_upd_cases (f := hf_pw u) (k := pt) (i := i) (x := y) with ⟨e1, _⟩ | ⟨e1, _⟩
    · rw [e1]; exact hy
    · rw [e1]; exact h3 i hi
  · have e : sd_do u 5 (nI pt) (nI j) z = (if hf_pw u pt = 0 then hd_work u pt k j z else hd_tell u pt (nI j)) := by simp only [sd_do, sd_cl5 (show pt < 9 by omega), sd_cl10 hj9, hkp, sd_cl5 (show k < 9 by omega)]; rfl
    rw [e]
    split
    · refine ⟨h1, h2, h3, fun i n1 j1 hi hn1 hmd hj hj91 => ?_⟩
      have h5 := h4 i n1 j1 hi hn1 hmd hj hj91
      refine ⟨h5.1, ?_⟩
      show upd (hf_us u) (k * 9 + j - 1) (hf_us u (k * 9 + j - 1) + 1) (i * 9 + j1 - 1) = 0
      rcases sd_upd_cases (f := hf_us u) (k := k * 9 + j - 1) (i := i * 9 + j1 - 1) (x := hf_us u (k * 9 + j - 1) + 1) with ⟨_, e2⟩ | ⟨e1, _⟩
      · rw [e2] at h5; exact absurd h5.1 hth
      · rw [e1]; exact h5.2
    · exact ⟨h1, h2, h3, h4⟩
  · exact ⟨h1, h2, h3, h4⟩
theorem sd_inv_0 : sd_inv sd_h0 := ⟨fun k _ => ⟨0, by omega, rfl⟩, fun pt _ => ⟨pt % 5, Nat.mod_lt _ (by decide), rfl⟩, fun _ _ => (by decide : ¬ (0 : Int32) < 0), fun _ _ _ _ _ _ _ _ => ⟨rfl, rfl⟩⟩
theorem sd_inv_run {f0 f1 f2 f3 : Nat → Int32} {n : Nat} (h : ∀ j, j < n → sd_ok (sd_run f0 f1 f2 f3 j) (f0 j) (f1 j) (f2 j)) : sd_inv (sd_run f0 f1 f2 f3 n) := by
  induction n with
  | zero => exact sd_inv_0
  | succ n ih => exact sd_inv_do (ih fun j hj => h j (by omega)) (h n (by omega))
theorem sS_inv {o : sd_S} (h : sS_ok o) : sd_inv (sS_u o) := sd_inv_run h.2
abbrev sp_bad (x b : Int32) : Prop := x < 0 ∨ ¬ x < b
abbrev sp_amt (x : Int32) : Prop := x < -1000000 ∨ 1000000 < x
abbrev sp_full (o : sd_S) : Prop := ¬ o.1 < 60
def sp_no (E : String) (o : sd_S) : String × Int64 × sd_S := (E, 0, o)
def sp_act (o : sd_S) (a x y z : Int32) : String × Int64 × sd_S := ("", sd_an (sS_u o) a x y z, sS_put o a x y z)
def sp_make (o : sd_S) (x : Int32) : String × Int64 × sd_S := if sp_bad x 5 then sp_no xIA o else if ¬ hf_md (sS_u o) x.toNatClampNeg < 9 then sp_no xUO o else if sp_full o then sp_no xUO o else sp_act o 0 x 0 0
def sp_drop (o : sd_S) (x y : Int32) : String × Int64 × sd_S := if sp_bad x 5 then sp_no xIA o else if ¬ hd_has (sS_u o) x.toNatClampNeg y then sp_no xNS o else if sp_full o then sp_no xUO o else sp_act o 1 x y 0
def sp_serves (o : sd_S) (x y : Int32) : String × Int64 × sd_S := if sp_bad x 6 then sp_no xIA o else if sp_bad y 5 then sp_no xIA o else if sp_full o then sp_no xUO o else sp_act o 2 x y 0
def sp_answers (o : sd_S) (x y z : Int32) : String × Int64 × sd_S := if sp_bad x 6 then sp_no xIA o else if sp_amt y then sp_no xIA o else if sp_amt z then sp_no xIA o else if sp_full o then sp_no xUO o else sp_act o 3 x y z
def sp_fails (o : sd_S) (x y : Int32) : String × Int64 × sd_S := if sp_bad x 6 then sp_no xIA o else if sp_bad y 4 then sp_no xIA o else if sp_full o then sp_no xUO o else sp_act o 4 x y 0
def sp_call (o : sd_S) (x y z : Int32) : String × Int64 × sd_S := if sp_bad x 6 then sp_no xIA o else if sp_amt z then sp_no xIA o else if ¬ hd_has (sS_u o) (hf_pk (sS_u o) x.toNatClampNeg).toNatClampNeg y then sp_no xNS o else if sp_full o then sp_no xUO o else if hf_pw (sS_u o) x.toNatClampNeg = 0 then sp_act o 5 x y z else sp_no xIS (sS_put o 5 x y z)
def sp_again (o : sd_S) (x y z : Int32) : String × Int64 × sd_S := if sp_bad x 6 then sp_no xIA o else if sp_amt z then sp_no xIA o else if ¬ hd_has (sS_u o) (hf_pk (sS_u o) x.toNatClampNeg).toNatClampNeg y then sp_no xNS o else if hf_pw (sS_u o) x.toNatClampNeg = 0 then ("", hd_ans (sS_u o) x.toNatClampNeg y z, o) else sp_no xIS o
def sp_collect (o : sd_S) (x : Int32) : String × Int64 × sd_S := if sp_bad x 256 then sp_no xIA o else if sp_full o then sp_no xUO o else sp_act o 6 x 0 0
def sp_back (o : sd_S) : String × Int64 × sd_S := if o.1 = 0 then sp_no xIS o else ("", (nI (o.1 - 1)).toInt64, sS_pop o)
def sp_told (o : sd_S) (x : Int32) : String × Int64 × sd_S := if x = 0 then ("", (hf_fl (sS_u o)).toInt64, o) else if x = 1 then ("", (hf_tw (sS_u o)).toInt64, o) else if x = 2 then ("", (hf_tp (sS_u o)).toInt64, o) else if x = 3 then ("", (hf_tn (sS_u o)).toInt64, o) else sp_no xIA o
def sp_worth (o : sd_S) (x : Int32) : String × Int64 × sd_S := if sp_bad x 6 then sp_no xIA o else ("", hf_wt (sS_u o) x.toNatClampNeg, o)
def sp_uses (o : sd_S) (x y : Int32) : String × Int64 × sd_S := if sp_bad x 5 then sp_no xIA o else if ¬ hd_has (sS_u o) x.toNatClampNeg y then sp_no xNS o else ("", (hf_us (sS_u o) (x.toNatClampNeg * 9 + y.toNatClampNeg - 1)).toInt64, o)
def sp_mn (o : sd_S) (k : Nat) : Nat := (hf_md (sS_u o) k).toNatClampNeg
def sp_numbers (o : sd_S) (x y : Int32) : String × Int64 × sd_S := if sp_bad x 5 then sp_no xIA o else if sp_bad y 2 then sp_no xIA o else if y = 0 then ("", (hf_md (sS_u o) x.toNatClampNeg).toInt64, o) else ("", (nI (hd_cnt (hf_th (sS_u o)) x.toNatClampNeg (sp_mn o x.toNatClampNeg))).toInt64, o)
def sp_count (o : sd_S) (x : Int32) : Int32 := if x = 0 then nI o.1 else if x = 1 then nI (hd_all (hf_th (sS_u o)) (sp_mn o) 5) else if x = 2 then hf_co (sS_u o) else if x = 3 then hf_an (sS_u o) else -1
def sp_sums (o : sd_S) : Int64 := (hf_s2 (sS_u o)).toInt64 * 65536 + (hf_s1 (sS_u o)).toInt64
