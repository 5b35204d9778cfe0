/-! what a house is: sixteen things; what its cells are -/
abbrev sd_HS : Type := (Nat → Int32) × (Nat → Int32) × (Nat → Int32) × (Nat → Int32) × (Nat → Int32) × (Nat → Int32) × (Nat → Int32) × (Nat → Int64) × Int32 × Int32 × Int32 × Int32 × Int32 × Int32 × Int32 × Int32
def hf_md (u : sd_HS) : (Nat → Int32) := u.1
def hf_th (u : sd_HS) : (Nat → Int32) := u.2.1
def hf_us (u : sd_HS) : (Nat → Int32) := u.2.2.1
def hf_pk (u : sd_HS) : (Nat → Int32) := u.2.2.2.1
def hf_pb (u : sd_HS) : (Nat → Int32) := u.2.2.2.2.1
def hf_pf (u : sd_HS) : (Nat → Int32) := u.2.2.2.2.2.1
def hf_pw (u : sd_HS) : (Nat → Int32) := u.2.2.2.2.2.2.1
def hf_wt (u : sd_HS) : (Nat → Int64) := u.2.2.2.2.2.2.2.1
def hf_fl (u : sd_HS) : Int32 := u.2.2.2.2.2.2.2.2.1
def hf_tw (u : sd_HS) : Int32 := u.2.2.2.2.2.2.2.2.2.1
def hf_tp (u : sd_HS) : Int32 := u.2.2.2.2.2.2.2.2.2.2.1
def hf_tn (u : sd_HS) : Int32 := u.2.2.2.2.2.2.2.2.2.2.2.1
def hf_an (u : sd_HS) : Int32 := u.2.2.2.2.2.2.2.2.2.2.2.2.1
def hf_co (u : sd_HS) : Int32 := u.2.2.2.2.2.2.2.2.2.2.2.2.2.1
def hf_s1 (u : sd_HS) : Int32 := u.2.2.2.2.2.2.2.2.2.2.2.2.2.2.1
def hf_s2 (u : sd_HS) : Int32 := u.2.2.2.2.2.2.2.2.2.2.2.2.2.2.2
def sd_t3 (k3 : ClassId × ClassId × ClassId) : List (ClassId × FieldType) := [(k3.1, .int), (k3.2.1, .boolean), (k3.2.2, .long)]
def sd_Hx (k3 : ClassId × ClassId × ClassId) (q : Nat → Nat) (md : (Nat → Int32)) (th : (Nat → Int32)) (us : (Nat → Int32)) (pk : (Nat → Int32)) (pb : (Nat → Int32)) (pf : (Nat → Int32)) (pw : (Nat → Int32)) (wt : (Nat → Int64)) (fl : Int32) (tw : Int32) (tp : Int32) (tn : Int32) (an : Int32) (co : Int32) (s1 : Int32) (s2 : Int32) : va_W := [((q 0), .inr (1, [.ref (q 1), .ref (q 2), .ref (q 3), .ref (q 4), .ref (q 5), .ref (q 6), .ref (q 7), .ref (q 8), .int fl, .int tw, .int tp, .int tn, .int an, .int co, .int s1, .int s2])), ((q 1), .inl (k3.1, 5, .inl md)), ((q 2), .inl (k3.2.1, 45, .inl th)), ((q 3), .inl (k3.1, 45, .inl us)), ((q 4), .inl (k3.1, 6, .inl pk)), ((q 5), .inl (k3.1, 6, .inl pb)), ((q 6), .inl (k3.1, 6, .inl pf)), ((q 7), .inl (k3.1, 6, .inl pw)), ((q 8), .inl (k3.2.2, 6, .inr (.inl wt)))]
def sd_H (k3 : ClassId × ClassId × ClassId) (q : Nat → Nat) (u : sd_HS) : va_W := sd_Hx k3 q (hf_md u) (hf_th u) (hf_us u) (hf_pk u) (hf_pb u) (hf_pf u) (hf_pw u) (hf_wt u) (hf_fl u) (hf_tw u) (hf_tp u) (hf_tn u) (hf_an u) (hf_co u) (hf_s1 u) (hf_s2 u)
def sd_A (k3 : ClassId × ClassId × ClassId) (q : Nat → Nat) (n : Int32) (f0 f1 f2 f3 : Nat → Int32) : va_W := [((q 0), .inr (0, [.ref (q 1), .ref (q 2), .ref (q 3), .ref (q 4), .int n])), ((q 1), .inl (k3.1, 60, .inl f0)), ((q 2), .inl (k3.1, 60, .inl f1)), ((q 3), .inl (k3.1, 60, .inl f2)), ((q 4), .inl (k3.1, 60, .inl f3))]
/-- the same house as far as its cells go -/
def sd_heq (u v : sd_HS) : Prop := (∀ i, i < 5 → hf_md u i = hf_md v i) ∧ (∀ i, i < 45 → hf_th u i = hf_th v i) ∧ (∀ i, i < 45 → hf_us u i = hf_us v i) ∧ (∀ i, i < 6 → hf_pk u i = hf_pk v i) ∧ (∀ i, i < 6 → hf_pb u i = hf_pb v i) ∧ (∀ i, i < 6 → hf_pf u i = hf_pf v i) ∧ (∀ i, i < 6 → hf_pw u i = hf_pw v i) ∧ (∀ i, i < 6 → hf_wt u i = hf_wt v i) ∧ hf_fl u = hf_fl v ∧ hf_tw u = hf_tw v ∧ hf_tp u = hf_tp v ∧ hf_tn u = hf_tn v ∧ hf_an u = hf_an v ∧ hf_co u = hf_co v ∧ hf_s1 u = hf_s1 v ∧ hf_s2 u = hf_s2 v
theorem sd_arr {cA : ClassId} {n : Nat} {f g : Nat → Value} (h : ∀ i, i < n → f i = g i) : arrV cA n f = arrV cA n g := by
  unfold arrV
  congr 1
  apply Array.ext
  · simp
  · intro i h1 h2
    simp only [Array.getElem_ofFn]
    exact h i (by simpa using h1)
theorem sd_ari {D : va_G} {cl : List vw_C} {a : Nat} {cA : ClassId} {n : Nat} {f g : Nat → Int32} {H : Heap} (h : ∀ i, i < n → f i = g i) (hp : va_at D cl (a, .inl (cA, n, .inl f)) H) : va_at D cl (a, .inl (cA, n, .inl g)) H := by
  have e : vp_cell cA (n, .inl f) = vp_cell cA (n, .inl g) := sd_arr fun i hi => congrArg Value.int (h i hi)
  have h1 : H[a]? = some (vp_cell cA (n, .inl f)) := hp
  rw [e] at h1
  exact h1
theorem sd_arl {D : va_G} {cl : List vw_C} {a : Nat} {cA : ClassId} {n : Nat} {f g : Nat → Int64} {H : Heap} (h : ∀ i, i < n → f i = g i) (hp : va_at D cl (a, .inl (cA, n, .inr (.inl f))) H) : va_at D cl (a, .inl (cA, n, .inr (.inl g))) H := by
  have e : vp_cell cA (n, .inr (.inl f)) = vp_cell cA (n, .inr (.inl g)) := sd_arr fun i hi => congrArg Value.long (h i hi)
  have h1 : H[a]? = some (vp_cell cA (n, .inr (.inl f))) := hp
  rw [e] at h1
  exact h1
theorem sd_H_P {D : va_G} {k3 : ClassId × ClassId × ClassId} {q : Nat → Nat} {u v : sd_HS} {H : Heap} (e : sd_heq u v) (h : va_P D vwCl (sd_H k3 q u) H) : va_P D vwCl (sd_H k3 q v) H := by
  obtain ⟨emd, eth, eus, epk, epb, epf, epw, ewt, efl, etw, etp, etn, ean, eco, es1, es2⟩ := e
  have h0 := h 0 _ rfl
  have h1 := h 1 _ rfl
  have h2 := h 2 _ rfl
  have h3 := h 3 _ rfl
  have h4 := h 4 _ rfl
  have h5 := h 5 _ rfl
  have h6 := h 6 _ rfl
  have h7 := h 7 _ rfl
  have h8 := h 8 _ rfl
  rw [efl, etw, etp, etn, ean, eco, es1, es2] at h0
  have g1 := sd_ari emd h1
  have g2 := sd_ari eth h2
  have g3 := sd_ari eus h3
  have g4 := sd_ari epk h4
  have g5 := sd_ari epb h5
  have g6 := sd_ari epf h6
  have g7 := sd_ari epw h7
  have g8 := sd_arl ewt h8
  intro k x hk
  match k, hk with
  | 0, hk => cases hk; exact h0
  | 1, hk => cases hk; exact g1
  | 2, hk => cases hk; exact g2
  | 3, hk => cases hk; exact g3
  | 4, hk => cases hk; exact g4
  | 5, hk => cases hk; exact g5
  | 6, hk => cases hk; exact g6
  | 7, hk => cases hk; exact g7
  | 8, hk => cases hk; exact g8
  | k + 9, hk => simp [sd_H, sd_Hx] at hk
theorem sd_H_w {D : va_G} {A : Nat → Prop} {s : State} {tys : List (ClassId × FieldType)} {k3 : ClassId × ClassId × ClassId} {q : Nat → Nat} {u v : sd_HS} {wa wb : va_W} {H : Heap} {locs : List Loc} (h : sd_w D A s tys (wa ++ sd_H k3 q u ++ wb) H locs) (e : sd_heq u v) : sd_w D A s tys (wa ++ sd_H k3 q v ++ wb) H locs := by
  obtain ⟨hP, hD, h3⟩ := h
  refine ⟨sd_P_iff.mpr fun x hx => ?_, sd_D_iff.mpr ⟨?_, fun x hx => ?_⟩, h3⟩
  · rcases List.mem_append.mp hx with hx | hx
    · rcases List.mem_append.mp hx with hx | hx
      · exact sd_P_iff.mp hP x (List.mem_append_left _ (List.mem_append_left _ hx))
      · exact sd_P_iff.mp (sd_H_P e (sd_piece hP)) x hx
    · exact sd_P_iff.mp hP x (List.mem_append_right _ hx)
  · have hn := (sd_D_iff.mp hD).1
    rw [List.map_append, List.map_append] at hn ⊢
    exact hn
  · have hm : ∀ y ∈ sd_H k3 q v, ∃ z ∈ sd_H k3 q u, z.1 = y.1 := by
      intro y hy
      have h1 : y.1 ∈ (sd_H k3 q v).map Prod.fst := List.mem_map.mpr ⟨y, hy, rfl⟩
      have h2 : y.1 ∈ (sd_H k3 q u).map Prod.fst := h1
      obtain ⟨z, hz, e1⟩ := List.mem_map.mp h2
      exact ⟨z, hz, e1⟩
    rcases List.mem_append.mp hx with hx | hx
    · rcases List.mem_append.mp hx with hx | hx
      · exact (sd_D_iff.mp hD).2 x (List.mem_append_left _ (List.mem_append_left _ hx))
      · obtain ⟨z, hz, e1⟩ := hm x hx
        rw [← e1]
        exact (sd_D_iff.mp hD).2 z (List.mem_append_left _ (List.mem_append_right _ hz))
    · exact (sd_D_iff.mp hD).2 x (List.mem_append_right _ hx)
