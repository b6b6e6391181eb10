/-- a curve's numbers over the rationals -/
abbrev qE := Rat × Rat × Rat × Rat × Rat
abbrev qP := Option (Rat × Rat)
def qon (E : qE) (x y : Rat) : Prop := y * y + E.1 * x * y + E.2.2.1 * y = x * x * x + E.2.1 * x * x + E.2.2.2.1 * x + E.2.2.2.2
def qOn (E : qE) : qP → Prop
  | none => True
  | some (x, y) => qon E x y
def qx (E : qE) (l x1 x2 : Rat) : Rat := l * l + E.1 * l - E.2.1 - x1 - x2
def qy (E : qE) (l x1 y1 x3 : Rat) : Rat := -(l * (x3 - x1) + y1) - E.1 * x3 - E.2.2.1
def qth (E : qE) (l x1 y1 x2 : Rat) : Rat × Rat := (qx E l x1 x2, qy E l x1 y1 (qx E l x1 x2))
def qn (E : qE) (x y : Rat) : Rat := 3 * x * x + 2 * E.2.1 * x + E.2.2.2.1 - E.1 * y
def qd (E : qE) (x y : Rat) : Rat := 2 * y + E.1 * x + E.2.2.1
def qng (E : qE) : qP → qP
  | none => none
  | some (x, y) => some (x, -y - E.1 * x - E.2.2.1)
def qad (E : qE) : qP → qP → qP
  | none, q => q
  | some p, none => some p
  | some (x1, y1), some (x2, y2) =>
    if x1 = x2 then (if y1 + y2 + E.1 * x1 + E.2.2.1 = 0 then none else some (qth E (qn E x1 y1 / qd E x1 y1) x1 y1 x1))
    else some (qth E ((y2 - y1) / (x2 - x1)) x1 y1 x2)
/-- no point is a knot -/
def qns (E : qE) : Prop := ∀ x y : Rat, qon E x y → qd E x y = 0 → qn E x y = 0 → False
theorem qad_n (E : qE) (P : qP) : qad E none P = P := by cases P <;> rfl
theorem qad_n' (E : qE) (P : qP) : qad E P none = P := by cases P <;> rfl
theorem qad_c {E : qE} {x1 y1 x2 y2 l : Rat} (h : x1 ≠ x2) (hl : y2 = y1 + l * (x2 - x1)) : qad E (some (x1, y1)) (some (x2, y2)) = some (qth E l x1 y1 x2) := by
  have : (y2 - y1) / (x2 - x1) = l := by grind
  simp only [qad, if_neg h, this]
theorem qad_t {E : qE} {x1 y1 l : Rat} (h : qd E x1 y1 ≠ 0) (hl : qn E x1 y1 = l * qd E x1 y1) : qad E (some (x1, y1)) (some (x1, y1)) = some (qth E l x1 y1 x1) := by
  have h1 : qn E x1 y1 / qd E x1 y1 = l := by grind
  have h2 : ¬ (y1 + y1 + E.1 * x1 + E.2.2.1 = 0) := by unfold qd at h; grind
  simp only [qad, if_neg h2, h1, if_true]
theorem qad_o {E : qE} {x1 y1 y2 : Rat} (h : y1 + y2 + E.1 * x1 + E.2.2.1 = 0) : qad E (some (x1, y1)) (some (x1, y2)) = none := by
  simp only [qad, if_pos h, if_true]
/-- two points of one x: one or opposite -/
theorem qon_two {E : qE} {x y1 y2 : Rat} (h1 : qon E x y1) (h2 : qon E x y2) : y1 = y2 ∨ y1 + y2 + E.1 * x + E.2.2.1 = 0 := by
  unfold qon at h1 h2
  have : (y1 - y2) * (y1 + y2 + E.1 * x + E.2.2.1) = 0 := by grind
  grind
/-- the chord -/
theorem q_chord {E : qE} {x1 y1 x2 y2 : Rat} (h1 : qon E x1 y1) (h2 : qon E x2 y2) (h : x1 ≠ x2) : ∃ l : Rat, y2 = y1 + l * (x2 - x1) ∧ E.2.2.2.1 = l * (y1 + y2) + E.1 * (l * x1 + y2) + E.2.2.1 * l - (x1 * x1 + x1 * x2 + x2 * x2) - E.2.1 * (x1 + x2) := by
  refine ⟨(y2 - y1) / (x2 - x1), by grind, ?_⟩
  have h3 : x2 - x1 ≠ 0 := by grind
  have : ∃ l : Rat, y2 = y1 + l * (x2 - x1) := ⟨(y2 - y1) / (x2 - x1), by grind⟩
  obtain ⟨l, hl⟩ := this
  have e : (y2 - y1) / (x2 - x1) = l := by grind
  rw [e]
  unfold qon at h1 h2
  have : (x2 - x1) * (E.2.2.2.1 - (l * (y1 + y2) + E.1 * (l * x1 + y2) + E.2.2.1 * l - (x1 * x1 + x1 * x2 + x2 * x2) - E.2.1 * (x1 + x2))) = 0 := by grind
  grind
theorem qon_c {E : qE} {x1 y1 x2 y2 l : Rat} (h1 : qon E x1 y1) (hl : y2 = y1 + l * (x2 - x1)) (h4 : E.2.2.2.1 = l * (y1 + y2) + E.1 * (l * x1 + y2) + E.2.2.1 * l - (x1 * x1 + x1 * x2 + x2 * x2) - E.2.1 * (x1 + x2)) : qon E (qth E l x1 y1 x2).1 (qth E l x1 y1 x2).2 := by
  simp only [qth, qx, qy, qon] at *
  subst hl
  grind
theorem qon_t {E : qE} {x1 y1 l : Rat} (h1 : qon E x1 y1) (hl : qn E x1 y1 = l * qd E x1 y1) : qon E (qth E l x1 y1 x1).1 (qth E l x1 y1 x1).2 := by
  simp only [qth, qx, qy, qon, qn, qd] at *
  grind
theorem qon_n {E : qE} {x y : Rat} (h : qon E x y) : qon E x (-y - E.1 * x - E.2.2.1) := by
  unfold qon at *; grind
theorem qOn_ng {E : qE} {P : qP} (h : qOn E P) : qOn E (qng E P) := by
  match P, h with
  | none, _ => trivial
  | some (x, y), h => exact qon_n h
theorem qng_ng (E : qE) (P : qP) : qng E (qng E P) = P := by
  match P with
  | none => rfl
  | some (x, y) => simp only [qng]; grind
theorem qOn_ad {E : qE} {P Q : qP} (hP : qOn E P) (hQ : qOn E Q) : qOn E (qad E P Q) := by
  match P, Q, hP, hQ with
  | none, Q, _, hQ => rw [qad_n]; exact hQ
  | some _, none, hP, _ => exact hP
  | some (x1, y1), some (x2, y2), hP, hQ =>
    by_cases h : x1 = x2
    · subst h
      rcases qon_two hP hQ with h | h
      · subst h
        by_cases h5 : qd E x1 y1 = 0
        · rw [qad_o (by unfold qd at h5; grind)]; trivial
        · have hl : qn E x1 y1 = (qn E x1 y1 / qd E x1 y1) * qd E x1 y1 := by grind
          rw [qad_t h5 hl]; exact qon_t hP hl
      · rw [qad_o h]; trivial
    · obtain ⟨l, hl, h4⟩ := q_chord hP hQ h
      rw [qad_c h hl]; exact qon_c hP hl h4
theorem qad_comm {E : qE} {P Q : qP} (hP : qOn E P) (hQ : qOn E Q) : qad E P Q = qad E Q P := by
  match P, Q, hP, hQ with
  | none, Q, _, hQ => rw [qad_n, qad_n']
  | some _, none, hP, _ => rfl
  | some (x1, y1), some (x2, y2), hP, hQ =>
    by_cases h : x1 = x2
    · subst h
      rcases qon_two hP hQ with h | h
      · rw [h]
      · rw [qad_o h, qad_o (by grind)]
    · obtain ⟨l, hl, h4⟩ := q_chord hP hQ h
      rw [qad_c h hl, qad_c (fun e => h e.symm) (show y1 = y2 + l * (x1 - x2) by grind)]
      simp only [qth, qx, qy, Option.some.injEq, Prod.mk.injEq]
      subst hl
      constructor <;> grind
theorem qad_self_ng {E : qE} (P : qP) : qad E P (qng E P) = none := by
  match P with
  | none => rfl
  | some (x, y) => exact qad_o (by grind)
theorem qng_ad {E : qE} {P Q : qP} (hP : qOn E P) (hQ : qOn E Q) : qng E (qad E P Q) = qad E (qng E P) (qng E Q) := by
  match P, Q, hP, hQ with
  | none, Q, _, hQ => rw [qad_n]; exact (qad_n E _).symm
  | some _, none, hP, _ => rfl
  | some (x1, y1), some (x2, y2), hP, hQ =>
    by_cases h : x1 = x2
    · subst h
      rcases qon_two hP hQ with h | h
      · subst h
        by_cases h5 : qd E x1 y1 = 0
        · rw [qad_o (by unfold qd at h5; grind)]; simp only [qng]; rw [qad_o (by unfold qd at h5; grind)]
        · have hl : qn E x1 y1 = (qn E x1 y1 / qd E x1 y1) * qd E x1 y1 := by grind
          rw [qad_t h5 hl]
          generalize qn E x1 y1 / qd E x1 y1 = l at hl
          simp only [qng]
          rw [qad_t (l := -l - E.1) (by unfold qd at *; grind) (by unfold qd qn at *; grind)]
          simp only [qth, qx, qy, Option.some.injEq, Prod.mk.injEq]
          constructor <;> grind
      · rw [qad_o h]; simp only [qng]; rw [qad_o (by grind)]
    · obtain ⟨l, hl, h4⟩ := q_chord hP hQ h
      rw [qad_c h hl]
      simp only [qng]
      rw [qad_c (l := -l - E.1) h (by grind)]
      simp only [qth, qx, qy, Option.some.injEq, Prod.mk.injEq]
      constructor <;> grind
theorem qth_ne {E : qE} {x1 y1 x2 l : Rat} : (qth E l x1 y1 x2).2 = -(l * ((qth E l x1 y1 x2).1 - x1) + y1) - E.1 * (qth E l x1 y1 x2).1 - E.2.2.1 := rfl
/-- (P + Q) - Q = P -/
theorem qad_sub {E : qE} (hE : qns E) {P Q : qP} (hP : qOn E P) (hQ : qOn E Q) : qad E (qad E P Q) (qng E Q) = P := by
  match P, Q, hP, hQ with
  | none, Q, _, hQ => rw [qad_n]; exact qad_self_ng Q
  | some _, none, hP, _ => rfl
  | some (x1, y1), some (x2, y2), hP, hQ =>
    by_cases h : x1 = x2
    · subst h
      rcases qon_two hP hQ with h | h
      · subst h
        by_cases h5 : qd E x1 y1 = 0
        · rw [qad_o (by unfold qd at h5; grind)]; simp only [qng, qad]; simp only [Option.some.injEq, Prod.mk.injEq, true_and]; unfold qd at h5; grind
        · have hl : qn E x1 y1 = (qn E x1 y1 / qd E x1 y1) * qd E x1 y1 := by grind
          rw [qad_t h5 hl]
          generalize qn E x1 y1 / qd E x1 y1 = l at hl
          simp only [qng]
          by_cases h6 : (qth E l x1 y1 x1).1 = x1
          · have h7 : qth E l x1 y1 x1 = (x1, -y1 - E.1 * x1 - E.2.2.1) := by
              have := qth_ne (E := E) (l := l) (x1 := x1) (y1 := y1) (x2 := x1)
              rw [h6] at this
              exact Prod.ext h6 (by rw [this]; grind)
            rw [h7, qad_t (l := -l - E.1) (by unfold qd at *; grind) (by unfold qd qn at *; grind)]
            simp only [qth, qx, qy, Option.some.injEq, Prod.mk.injEq] at *
            constructor <;> grind
          · have e : qth E l x1 y1 x1 = ((qth E l x1 y1 x1).1, (qth E l x1 y1 x1).2) := rfl
            rw [e, qad_c (l := -l - E.1) h6 (by rw [qth_ne]; grind)]
            simp only [qth, qx, qy, Option.some.injEq, Prod.mk.injEq] at *
            constructor <;> grind
      · rw [qad_o h, qad_n]; simp only [qng, Option.some.injEq, Prod.mk.injEq, true_and]; grind
    · obtain ⟨l, hl, h4⟩ := q_chord hP hQ h
      rw [qad_c h hl]
      simp only [qng]
      by_cases h6 : (qth E l x1 y1 x2).1 = x2
      · have h7 : qth E l x1 y1 x2 = (x2, -y2 - E.1 * x2 - E.2.2.1) := by
          have := qth_ne (E := E) (l := l) (x1 := x1) (y1 := y1) (x2 := x2)
          rw [h6] at this
          exact Prod.ext h6 (by rw [this]; grind)
        have h9 : qn E x2 y2 = l * qd E x2 y2 := by
          simp only [qth, qx, qy, qn, qd] at *; grind
        have h8 : qd E x2 y2 ≠ 0 := fun h0 => hE x2 y2 hQ h0 (by rw [h9, h0]; grind)
        rw [h7, qad_t (l := -l - E.1) (by unfold qd at *; grind) (by unfold qd qn at *; grind)]
        simp only [qth, qx, qy, Option.some.injEq, Prod.mk.injEq] at *
        constructor <;> grind
      · have e : qth E l x1 y1 x2 = ((qth E l x1 y1 x2).1, (qth E l x1 y1 x2).2) := rfl
        rw [e, qad_c (l := -l - E.1) h6 (by rw [qth_ne]; grind)]
        simp only [qth, qx, qy, Option.some.injEq, Prod.mk.injEq] at *
        constructor <;> grind
/-- the curve seen from the point (r, t), along the slope s -/
def qtr (E : qE) (r s t : Rat) : qE := ⟨E.1 + 2 * s, E.2.1 - s * E.1 + 3 * r - s * s, E.2.2.1 + r * E.1 + 2 * t, E.2.2.2.1 - s * E.2.2.1 + 2 * r * E.2.1 - (t + r * s) * E.1 + 3 * r * r - 2 * s * t, E.2.2.2.2 + r * E.2.2.2.1 + r * r * E.2.1 + r * r * r - t * E.2.2.1 - t * t - r * t * E.1⟩
def qmv (r s t : Rat) : qP → qP
  | none => none
  | some (x, y) => some (x - r, y - s * (x - r) - t)
theorem qon_tr {E : qE} {r s t x y : Rat} : qon (qtr E r s t) (x - r) (y - s * (x - r) - t) ↔ qon E x y := by
  simp only [qon, qtr]; constructor <;> intro h <;> grind
theorem qOn_tr {E : qE} {r s t : Rat} {P : qP} (h : qOn E P) : qOn (qtr E r s t) (qmv r s t P) := by
  match P, h with
  | none, _ => trivial
  | some (x, y), h => exact qon_tr.2 h
theorem qmv_inj {r s t : Rat} {P Q : qP} (h : qmv r s t P = qmv r s t Q) : P = Q := by
  match P, Q, h with
  | none, none, _ => rfl
  | some (x, y), none, h => exact absurd h (by simp [qmv])
  | none, some (x, y), h => exact absurd h (by simp [qmv])
  | some (x, y), some (x', y'), h =>
    simp only [qmv, Option.some.injEq, Prod.mk.injEq] at h ⊢
    constructor <;> grind
theorem qad_tr {E : qE} {r s t : Rat} {P Q : qP} (hP : qOn E P) (hQ : qOn E Q) : qad (qtr E r s t) (qmv r s t P) (qmv r s t Q) = qmv r s t (qad E P Q) := by
  match P, Q, hP, hQ with
  | none, Q, _, hQ => rw [qad_n]; exact qad_n _ _
  | some _, none, hP, _ => rfl
  | some (x1, y1), some (x2, y2), hP, hQ =>
    by_cases h : x1 = x2
    · subst h
      rcases qon_two hP hQ with h | h
      · subst h
        by_cases h5 : qd E x1 y1 = 0
        · rw [qad_o (by unfold qd at h5; grind)]; simp only [qmv]; rw [qad_o (by unfold qd at h5; simp only [qtr]; grind)]
        · have hl : qn E x1 y1 = (qn E x1 y1 / qd E x1 y1) * qd E x1 y1 := by grind
          rw [qad_t h5 hl]
          generalize qn E x1 y1 / qd E x1 y1 = l at hl
          simp only [qmv]
          rw [qad_t (l := l - s) (by simp only [qd, qtr] at *; grind) (by simp only [qd, qn, qtr] at *; grind)]
          simp only [qth, qx, qy, Option.some.injEq, Prod.mk.injEq, qtr]
          constructor <;> grind
      · rw [qad_o h]; simp only [qmv]; rw [qad_o (by simp only [qtr]; grind)]
    · obtain ⟨l, hl, h4⟩ := q_chord hP hQ h
      rw [qad_c h hl]
      simp only [qmv]
      rw [qad_c (l := l - s) (by grind) (by grind)]
      simp only [qth, qx, qy, Option.some.injEq, Prod.mk.injEq, qtr]
      constructor <;> grind
theorem qns_tr {E : qE} {r s t : Rat} (h : qns E) : qns (qtr E r s t) := by
  intro x y h1 h2 h3
  refine h (x + r) (y + s * x + t) ?_ ?_ ?_ <;> simp only [qon, qd, qn, qtr] at * <;> grind
/-- I1, where the point is the origin and the tangent there is level -/
theorem qad_i1_0 {E : qE} (h4 : E.2.2.2.1 = 0) (h6 : E.2.2.2.2 = 0) (h3 : E.2.2.1 ≠ 0) {x y : Rat} (hV : qon E x y) (hx : x ≠ 0) : qad E (some (0, 0)) (qad E (some (0, 0)) (some (x, y))) = qad E (qad E (some (0, 0)) (some (0, 0))) (some (x, y)) := by
  have hl : y = 0 + (y / x) * (x - 0) := by grind
  have hy : y = (y / x) * x := by grind
  rw [qad_c (fun e => hx e.symm) hl, qad_t (l := 0) (by simp only [qd]; grind) (by simp only [qn]; grind)]
  have e2 : qth E 0 0 0 0 = (-E.2.1, E.1 * E.2.1 - E.2.2.1) := by simp only [qth, qx, qy, Prod.mk.injEq]; constructor <;> grind
  rw [e2]
  generalize y / x = l at hy
  -- the third point of the chord
  have e3 : x * (qth E l 0 0 x).1 = - E.2.2.1 * l := by
    simp only [qth, qx, qon] at *
    have : x * (x * (l * l + E.1 * l - E.2.1 - 0 - x) - - E.2.2.1 * l) = 0 := by grind
    grind
  have e4 : (qth E l 0 0 x).2 = -(l * (qth E l 0 0 x).1) - E.1 * (qth E l 0 0 x).1 - E.2.2.1 := by simp only [qth, qy]; grind
  have e5 : (qth E l 0 0 x).1 = l * l + E.1 * l - E.2.1 - x := by simp only [qth, qx]; grind
  have e0 : qth E l 0 0 x = ((qth E l 0 0 x).1, (qth E l 0 0 x).2) := rfl
  have hc : E.2.2.1 * l = x * (x + E.2.1 - l * l - E.1 * l) := by
    unfold qon at hV
    have : x * (E.2.2.1 * l - x * (x + E.2.1 - l * l - E.1 * l)) = 0 := by grind
    grind
  by_cases hw : (qth E l 0 0 x).1 = 0
  · have hl0 : l = 0 := by rw [hw] at e3; grind
    have hx2 : x = -E.2.1 := by grind
    have hy0 : y = 0 := by grind
    rw [e0, hw, qad_o (by rw [e4, hw]; grind), hx2, hy0, qad_o (by grind)]
  · have hl0 : l ≠ 0 := by intro h0; rw [h0] at e3; grind
    have hr : ∃ r : Rat, l * r = x - E.1 * l := ⟨(x - E.1 * l) / l, by grind⟩
    obtain ⟨r, hr⟩ := hr
    have hv : (qth E l 0 0 x).2 = 0 + (r - l) * ((qth E l 0 0 x).1 - 0) := by
      have : l * ((qth E l 0 0 x).2 - (r - l) * (qth E l 0 0 x).1) = 0 := by
        rw [e4]; generalize (qth E l 0 0 x).1 = w at *; grind
      grind
    rw [e0, qad_c (fun e => hw e.symm) hv]
    by_cases h7 : x = -E.2.1
    · have hyy : y = E.1 * E.2.1 - E.2.2.1 := by
        have : l * (y - (E.1 * E.2.1 - E.2.2.1)) = 0 := by grind
        grind
      rw [← h7, ← hyy, qad_t (l := r) (by simp only [qd]; grind) (by simp only [qn, qd]; grind)]
      simp only [qth, qx, qy, Option.some.injEq, Prod.mk.injEq] at *
      constructor
      · grind
      · grind
    · rw [qad_c (l := r) (fun e => h7 e.symm) (by
        have : l * (y - (E.1 * E.2.1 - E.2.2.1 + r * (x - -E.2.1))) = 0 := by grind
        grind)]
      simp only [qth, qx, qy, Option.some.injEq, Prod.mk.injEq] at *
      have e1 : (r - l) * (r - l) + E.1 * (r - l) - E.2.1 - 0 - (l * l + E.1 * l - E.2.1 - 0 - x) = r * r + E.1 * r - E.2.1 - -E.2.1 - x := by grind
      refine ⟨e1, ?_⟩
      rw [e1]
      have : l * ((-((r - l) * (r * r + E.1 * r - E.2.1 - -E.2.1 - x - 0) + 0) - E.1 * (r * r + E.1 * r - E.2.1 - -E.2.1 - x) - E.2.2.1) - (-(r * (r * r + E.1 * r - E.2.1 - -E.2.1 - x - -E.2.1) + (E.1 * E.2.1 - E.2.2.1)) - E.1 * (r * r + E.1 * r - E.2.1 - -E.2.1 - x) - E.2.2.1)) = 0 := by grind
      grind
/-- U + (U + V) = (U + U) + V -/
theorem qad_i1 {E : qE} (hE : qns E) {P Q : qP} (hP : qOn E P) (hQ : qOn E Q) : qad E P (qad E P Q) = qad E (qad E P P) Q := by
  match P, Q, hP, hQ with
  | none, Q, _, hQ => simp only [qad_n]
  | some _, none, hP, _ => rw [qad_n', qad_n']
  | some (x1, y1), some (x2, y2), hP, hQ =>
    by_cases h : x1 = x2
    · subst h
      rcases qon_two hP hQ with h | h
      · subst h
        exact qad_comm hP (qOn_ad hP hP)
      · have e : some (x1, y2) = qng E (some (x1, y1)) := by simp only [qng, Option.some.injEq, Prod.mk.injEq, true_and]; grind
        rw [e, qad_self_ng, qad_sub hE hP hP, qad_n']
    · by_cases hd : qd E x1 y1 = 0
      · have e : some (x1, y1) = qng E (some (x1, y1)) := by simp only [qng, Option.some.injEq, Prod.mk.injEq, true_and]; unfold qd at hd; grind
        have e2 : qad E (some (x1, y1)) (some (x1, y1)) = none := qad_o (by unfold qd at hd; grind)
        rw [e2, qad_n, qad_comm hP (qOn_ad hP hQ), qad_comm hP hQ]
        have := qad_sub hE hQ hP
        rwa [← e] at this
      · have hs : ∃ s : Rat, qn E x1 y1 = s * qd E x1 y1 := ⟨qn E x1 y1 / qd E x1 y1, by grind⟩
        obtain ⟨s, hs⟩ := hs
        apply qmv_inj (r := x1) (s := s) (t := y1)
        rw [← qad_tr hP (qOn_ad hP hQ), ← qad_tr hP hQ, ← qad_tr (qOn_ad hP hP) hQ, ← qad_tr hP hP]
        have e : qmv x1 s y1 (some (x1, y1)) = some (0, 0) := by simp only [qmv, Option.some.injEq, Prod.mk.injEq]; constructor <;> grind
        rw [e]
        refine qad_i1_0 ?_ ?_ ?_ (qon_tr.2 hQ) (by grind)
        · simp only [qtr, qn, qd] at *; grind
        · simp only [qtr, qOn, qon] at *; grind
        · simp only [qtr, qd] at *; grind
theorem qad_sub' {E : qE} (hE : qns E) {P Q : qP} (hP : qOn E P) (hQ : qOn E Q) : qad E (qad E P (qng E Q)) Q = P := by
  have := qad_sub hE hP (qOn_ng hQ)
  rwa [qng_ng] at this
/-- 2 (P + Q) = 2 P + 2 Q -/
theorem qad_dbl {E : qE} (hE : qns E) {P Q : qP} (hP : qOn E P) (hQ : qOn E Q) : qad E (qad E P Q) (qad E P Q) = qad E (qad E P P) (qad E Q Q) := by
  have hS := qOn_ad hP hQ
  have hQQ := qOn_ad hQ hQ
  rw [← qad_i1 hE hP hQQ, qad_comm hP hQQ, ← qad_i1 hE hQ hP, qad_comm hQ hP]
  have e : Q = qad E (qad E P Q) (qng E P) := by rw [qad_comm hP hQ]; exact (qad_sub hE hQ hP).symm
  have e1 : qad E Q (qad E P Q) = qad E (qad E (qad E P Q) (qad E P Q)) (qng E P) := by
    rw [← qad_i1 hE hS (qOn_ng hP), ← e]; exact qad_comm hQ hS
  rw [e1, qad_comm hP (qOn_ad (qOn_ad hS hS) (qOn_ng hP))]
  exact (qad_sub' hE (qOn_ad hS hS) hP).symm
/-- (P + Q) + (P - Q) = 2 P -/
theorem qad_par {E : qE} (hE : qns E) {P Q : qP} (hP : qOn E P) (hQ : qOn E Q) : qad E (qad E P Q) (qad E P (qng E Q)) = qad E P P := by
  have hN := qOn_ng hQ
  have hW := qOn_ad hP hN
  -- W = P - Q, P = W + Q
  have e : P = qad E (qad E P (qng E Q)) Q := (qad_sub' hE hP hQ).symm
  generalize qad E P (qng E Q) = W at *
  subst e
  rw [qad_dbl hE hW hQ, ← qad_i1 hE hW (qOn_ad hQ hQ), qad_comm hW (qOn_ad hQ hQ), ← qad_i1 hE hQ hW, qad_comm hQ (qOn_ad hQ hW), qad_comm hQ hW]
  exact qad_comm (qOn_ad (qOn_ad hW hQ) hQ) hW
/-- multiples -/
def qmul (E : qE) (P : qP) : Nat → qP
  | 0 => none
  | n + 1 => qad E (qmul E P n) P
theorem qmul_on {E : qE} {P : qP} (hP : qOn E P) : ∀ n, qOn E (qmul E P n)
  | 0 => trivial
  | n + 1 => qOn_ad (qmul_on hP n) hP
theorem qmul_one (E : qE) (P : qP) : qmul E P 1 = P := qad_n E P
theorem qmul_dbl {E : qE} (hE : qns E) {P : qP} (hP : qOn E P) : ∀ n, qad E (qmul E P n) (qmul E P n) = qmul E P (2 * n)
  | 0 => rfl
  | n + 1 => by
    have e : 2 * (n + 1) = 2 * n + 1 + 1 := by omega
    rw [e]
    show qad E (qad E (qmul E P n) P) (qad E (qmul E P n) P) = qad E (qad E (qmul E P (2 * n)) P) P
    rw [qad_dbl hE (qmul_on hP n) hP, qmul_dbl hE hP n]
    have h2 := qmul_on hP (2 * n)
    rw [qad_comm h2 (qOn_ad hP hP), ← qad_i1 hE hP h2, qad_comm hP (qOn_ad hP h2), qad_comm hP h2]
theorem qmul_two {E : qE} (hE : qns E) {P : qP} (hP : qOn E P) : ∀ n, qmul E (qad E P P) n = qad E (qmul E P n) (qmul E P n)
  | 0 => rfl
  | n + 1 => by
    show qad E (qmul E (qad E P P) n) (qad E P P) = qad E (qad E (qmul E P n) P) (qad E (qmul E P n) P)
    rw [qmul_two hE hP n, qad_dbl hE (qmul_on hP n) hP]
/-- doubled again and again -/
def qdb (E : qE) (P : qP) : Nat → qP
  | 0 => P
  | n + 1 => qad E (qdb E P n) (qdb E P n)
theorem qdb_on {E : qE} {P : qP} (hP : qOn E P) : ∀ n, qOn E (qdb E P n)
  | 0 => hP
  | n + 1 => qOn_ad (qdb_on hP n) (qdb_on hP n)
theorem qmul_qdb {E : qE} (hE : qns E) {P : qP} (hP : qOn E P) (n : Nat) : ∀ N, qmul E (qdb E P N) n = qdb E (qmul E P n) N
  | 0 => rfl
  | N + 1 => by
    show qmul E (qad E (qdb E P N) (qdb E P N)) n = qad E (qdb E (qmul E P n) N) (qdb E (qmul E P n) N)
    rw [qmul_two hE (qdb_on hP N) n, qmul_qdb hE hP n N]
/-- what heights keep to -/
def qHt (E : qE) (f : qP → Int) : Prop :=
  f none = 1 ∧ (∀ P, qOn E P → 4 * f P - 55 ≤ f (qad E P P)) ∧ (∀ P, qOn E P → f (qad E P P) ≤ 4 * f P + 16) ∧ ∀ P Q, qOn E P → qOn E Q → f (qad E P Q) + f (qad E P (qng E Q)) ≤ 2 * f P + 2 * f Q + 17
theorem qHt.o {E : qE} {f : qP → Int} (h : qHt E f) : f none = 1 := h.1
theorem qHt.lo {E : qE} {f : qP → Int} (h : qHt E f) : ∀ P, qOn E P → 4 * f P - 55 ≤ f (qad E P P) := h.2.1
theorem qHt.up {E : qE} {f : qP → Int} (h : qHt E f) : ∀ P, qOn E P → f (qad E P P) ≤ 4 * f P + 16 := h.2.2.1
theorem qHt.par {E : qE} {f : qP → Int} (h : qHt E f) : ∀ P Q, qOn E P → qOn E Q → f (qad E P Q) + f (qad E P (qng E Q)) ≤ 2 * f P + 2 * f Q + 17 := h.2.2.2
theorem qHt.par' {E : qE} {f : qP → Int} (h : qHt E f) (hE : qns E) {P Q : qP} (hP : qOn E P) (hQ : qOn E Q) : 2 * f P + 2 * f Q - 64 ≤ f (qad E P Q) + f (qad E P (qng E Q)) := by
  have h1 := h.par _ _ (qOn_ad hP hQ) (qOn_ad hP (qOn_ng hQ))
  have e1 : qad E (qad E P Q) (qad E P (qng E Q)) = qad E P P := qad_par hE hP hQ
  have e2 : qad E (qad E P Q) (qng E (qad E P (qng E Q))) = qad E Q Q := by
    rw [qng_ad hP (qOn_ng hQ), qng_ng, qad_comm (qOn_ng hP) hQ, qad_comm hP hQ]
    exact qad_par hE hQ hP
  rw [e1, e2] at h1
  have h2 := h.lo P hP
  have h3 := h.lo Q hQ
  omega
theorem qHt.mul {E : qE} {f : qP → Int} (h : qHt E f) (hE : qns E) {P : qP} (hP : qOn E P) : ∀ n : Nat, ∃ c d : Int, f (qmul E P n) = (n : Int) * n * f P + c ∧ f (qmul E P (n + 1)) = ((n : Int) + 1) * ((n : Int) + 1) * f P + d ∧ (-64 * n ≤ d - c + 1 ∧ d - c ≤ 17 * n) ∧ (-64 * n * n ≤ c + n ∧ c ≤ 17 * n * n + 1)
  | 0 => ⟨1, 0, by rw [show qmul E P 0 = none from rfl, h.o]; simp, by rw [show (0 : Nat) + 1 = 1 from rfl, qmul_one]; simp, by omega, by simp⟩
  | n + 1 => by
    obtain ⟨c, d, h1, h2, h3, h4⟩ := h.mul hE hP n
    have hQ := qmul_on hP (n + 1)
    have p1 := h.par _ _ hQ hP
    have p2 := h.par' hE hQ hP
    have e : qad E (qmul E P (n + 1)) (qng E P) = qmul E P n := qad_sub hE (qmul_on hP n) hP
    rw [e, h1, h2] at p1 p2
    refine ⟨d, f (qmul E P (n + 1 + 1)) - ((n : Int) + 1 + 1) * ((n : Int) + 1 + 1) * f P, ?_, ?_, ?_, ?_⟩
    · rw [h2]; simp
    · simp only [Int.natCast_add, Int.natCast_one]; omega
    · show _ ≤ f (qad E (qmul E P (n + 1)) P) - _ - d + 1 ∧ f (qad E (qmul E P (n + 1)) P) - _ - d ≤ _
      generalize f (qad E (qmul E P (n + 1)) P) = w at *
      generalize f P = v at *
      have e1 : ((n : Int) + 1 + 1) * ((n : Int) + 1 + 1) * v = 2 * (((n : Int) + 1) * ((n : Int) + 1) * v) - (n : Int) * n * v + 2 * v := by grind
      generalize ((n : Int) + 1 + 1) * ((n : Int) + 1 + 1) * v = t at *
      generalize ((n : Int) + 1) * ((n : Int) + 1) * v = u at *
      generalize (n : Int) * n * v = r at *
      omega
    · have e2 : -64 * ((n + 1 : Nat) : Int) * ((n + 1 : Nat) : Int) = -64 * n * n - 128 * n - 64 := by grind
      have e3 : 17 * ((n + 1 : Nat) : Int) * ((n + 1 : Nat) : Int) = 17 * n * n + 34 * n + 17 := by grind
      rw [e2, e3]
      generalize -64 * (n : Int) * n = t at *
      generalize 17 * (n : Int) * n = u at *
      omega
theorem qHt.bd {E : qE} {f : qP → Int} (h : qHt E f) (hE : qns E) {P : qP} (hP : qOn E P) (n : Nat) (hn : 1 ≤ n) : ∃ c : Int, f (qmul E P n) = (n : Int) * n * f P + c ∧ -65 * ((n : Int) * n) ≤ c ∧ c ≤ 18 * ((n : Int) * n) := by
  obtain ⟨c, d, h1, _, _, h4⟩ := h.mul hE hP n
  refine ⟨c, h1, ?_⟩
  have e : (n : Int) ≤ (n : Int) * n := by
    have : n * 1 ≤ n * n := Nat.mul_le_mul_left n hn
    have := Int.ofNat_le.2 this
    simpa using this
  have e2 : -64 * (n : Int) * n = -64 * ((n : Int) * n) := by grind
  have e3 : 17 * (n : Int) * n = 17 * ((n : Int) * n) := by grind
  rw [e2, e3] at h4
  generalize (n : Int) * n = t at *
  omega
theorem qHt.db {E : qE} {f : qP → Int} (h : qHt E f) {P : qP} (hP : qOn E P) : ∀ N : Nat, (4 : Int) ^ N * (3 * f P - 55) + 55 ≤ 3 * f (qdb E P N) ∧ 3 * f (qdb E P N) ≤ (4 : Int) ^ N * (3 * f P + 16) - 16
  | 0 => by simp only [qdb]; omega
  | N + 1 => by
    obtain ⟨h1, h2⟩ := h.db hP N
    have h3 := h.lo _ (qdb_on hP N)
    have h4 := h.up _ (qdb_on hP N)
    show _ ≤ 3 * f (qad E (qdb E P N) (qdb E P N)) ∧ 3 * f (qad E (qdb E P N) (qdb E P N)) ≤ _
    rw [Int.pow_succ]
    have e1 : (4 : Int) ^ N * 4 * (3 * f P - 55) = 4 * ((4 : Int) ^ N * (3 * f P - 55)) := by grind
    have e2 : (4 : Int) ^ N * 4 * (3 * f P + 16) = 4 * ((4 : Int) ^ N * (3 * f P + 16)) := by grind
    rw [e1, e2]
    generalize (4 : Int) ^ N * (3 * f P - 55) = t at *
    generalize (4 : Int) ^ N * (3 * f P + 16) = u at *
    omega
/-- heights of multiples go with the squares -/
theorem qHt.main {E : qE} {f : qP → Int} (h : qHt E f) (hE : qns E) {P : qP} (hP : qOn E P) {m k : Nat} (hm : 1 ≤ m) (hk : 1 ≤ k) (hk2 : k ≤ 1048576) : (k : Int) * k * (3 * f (qmul E P m) - 55) ≤ (m : Int) * m * (3 * f (qmul E P k) + 17) := by
  obtain ⟨c, c1, c2, c3⟩ := h.bd hE (qdb_on hP 30) m hm
  obtain ⟨d, d1, d2, d3⟩ := h.bd hE (qdb_on hP 30) k hk
  rw [qmul_qdb hE hP] at c1 d1
  have m1 := (h.db (qmul_on hP m) 30).1
  have k1 := (h.db (qmul_on hP k) 30).2
  rw [c1] at m1
  rw [d1] at k1
  have hk3 : (k : Int) * k ≤ 1048576 * 1048576 := by
    have h9 := Nat.mul_le_mul hk2 hk2
    have e9 : (k : Int) * k = ((k * k : Nat) : Int) := (Int.natCast_mul k k).symm
    rw [e9]
    generalize k * k = t at *
    omega
  generalize f (qdb E P 30) = b at *
  generalize f (qmul E P m) = am at *
  generalize f (qmul E P k) = ak at *
  have p1 : (0 : Int) < (m : Int) * m := by
    have : 1 * 1 ≤ m * m := Nat.mul_le_mul hm hm
    have := Int.ofNat_le.2 this
    simp at this; omega
  have p2 : (0 : Int) < (k : Int) * k := by
    have : 1 * 1 ≤ k * k := Nat.mul_le_mul hk hk
    have := Int.ofNat_le.2 this
    simp at this; omega
  generalize (m : Int) * m = M at *
  generalize (k : Int) * k = K at *
  have q1 : K * ((4 : Int) ^ 30 * (3 * am - 55)) ≤ K * (3 * (M * b) + 54 * M) := Int.mul_le_mul_of_nonneg_left (by omega) (by omega)
  have q2 : M * (3 * (K * b) - 195 * K) ≤ M * ((4 : Int) ^ 30 * (3 * ak + 16)) := Int.mul_le_mul_of_nonneg_left (by omega) (by omega)
  have e1 : K * (3 * (M * b) + 54 * M) = M * (3 * (K * b) - 195 * K) + 249 * (K * M) := by grind
  have q3 : 249 * (K * M) ≤ (4 : Int) ^ 30 * M := by
    have : K * M ≤ (1048576 * 1048576) * M := Int.mul_le_mul_of_nonneg_right hk3 (by omega)
    omega
  have q4 : (4 : Int) ^ 30 * (K * (3 * am - 55)) ≤ (4 : Int) ^ 30 * (M * (3 * ak + 17)) := by
    have e2 : K * ((4 : Int) ^ 30 * (3 * am - 55)) = (4 : Int) ^ 30 * (K * (3 * am - 55)) := by grind
    have e3 : M * ((4 : Int) ^ 30 * (3 * ak + 16)) + (4 : Int) ^ 30 * M = (4 : Int) ^ 30 * (M * (3 * ak + 17)) := by grind
    omega
  exact Int.le_of_mul_le_mul_left q4 (by decide)
