theorem q_cut {a b c : Rat} (h : c ≠ 0) (e : c * a = c * b) : a = b := by grind
/-- doubling: the x of the double, in whole numbers -/
theorem q_dbl_k {A : ecE} {P : qP} (hP : qOn (toE A) P) : ∃ k : Int, dF (eb4 A) (eb6 A) (eb8 A) (qX P) (qZ P) = k * qX (qad (toE A) P P) ∧ dG (eb2 A) (eb4 A) (eb6 A) (qX P) (qZ P) = k * qZ (qad (toE A) P P) := by
  match P, hP with
  | none, _ => exact ⟨1, by simp only [dF, qX, qZ, qad]; omega, by simp only [dG, qX, qZ, qad]; omega⟩
  | some (x, y), hP =>
    by_cases hd : qd (toE A) x y = 0
    · have e : qad (toE A) (some (x, y)) (some (x, y)) = none := qad_o (by unfold qd at hd; grind)
      rw [e]
      refine ⟨dF (eb4 A) (eb6 A) (eb8 A) (qX (some (x, y))) (qZ (some (x, y))), by simp [qX], ?_⟩
      have h0 := q_dbl_0 hP hd
      obtain ⟨hx, hz⟩ := q_num x
      simp only [qX, qZ, Int.mul_zero]
      apply Rat.intCast_inj.1
      simp only [dG, eb2, eb4, eb6, Rat.intCast_mul, Rat.intCast_add, Rat.intCast_ofNat, toE] at *
      rw [← hx]
      generalize (((x.den : Int)) : Rat) = z at *
      grind
    · have hl : qn (toE A) x y = (qn (toE A) x y / qd (toE A) x y) * qd (toE A) x y := by grind
      rw [qad_t hd hl]
      generalize qn (toE A) x y / qd (toE A) x y = l at hl
      have h0 := q_dbl_x hP hl hd
      refine frac_k (q_cop _) ?_
      obtain ⟨hx, hz⟩ := q_num x
      simp only [qX, qZ, qth]
      generalize qx (toE A) l x x = x' at *
      obtain ⟨hx', hz'⟩ := q_num x'
      apply Rat.intCast_inj.1
      simp only [dG, dF, eb2, eb4, eb6, eb8, Rat.intCast_mul, Rat.intCast_add, Rat.intCast_sub, Rat.intCast_ofNat, toE] at *
      rw [← hx, ← hx']
      generalize (((x.den : Int)) : Rat) = z at *
      generalize (((x'.den : Int)) : Rat) = z' at *
      clear hl hx hx' hP hd
      grind
/-- what the numbers of a curve are here -/
def ecOk (A : ecE) : Prop := A.1.natAbs ≤ 99999 ∧ A.2.1.natAbs ≤ 99999 ∧ A.2.2.1.natAbs ≤ 99999 ∧ A.2.2.2.1.natAbs ≤ 99999 ∧ A.2.2.2.2.natAbs ≤ 99999 ∧ dD (eb2 A) (eb4 A) (eb6 A) (eb8 A) ≠ 0
theorem ecOk.l1 {A : ecE} (h : ecOk A) : A.1.natAbs ≤ 99999 := h.1
theorem ecOk.l2 {A : ecE} (h : ecOk A) : A.2.1.natAbs ≤ 99999 := h.2.1
theorem ecOk.l3 {A : ecE} (h : ecOk A) : A.2.2.1.natAbs ≤ 99999 := h.2.2.1
theorem ecOk.l4 {A : ecE} (h : ecOk A) : A.2.2.2.1.natAbs ≤ 99999 := h.2.2.2.1
theorem ecOk.l6 {A : ecE} (h : ecOk A) : A.2.2.2.2.natAbs ≤ 99999 := h.2.2.2.2.1
theorem ecOk.d {A : ecE} (h : ecOk A) : dD (eb2 A) (eb4 A) (eb6 A) (eb8 A) ≠ 0 := h.2.2.2.2.2
theorem ecOk.b2 {A : ecE} (h : ecOk A) : (eb2 A).natAbs ≤ 10001000000 := by
  refine Nat.le_trans (bd_add (bd_mul h.l1 h.l1) (bd_mul (show (4 : Int).natAbs ≤ 4 by decide) h.l2)) (by decide)
theorem ecOk.b4 {A : ecE} (h : ecOk A) : (eb4 A).natAbs ≤ 10001000000 := by
  refine Nat.le_trans (bd_add (bd_mul h.l1 h.l3) (bd_mul (show (2 : Int).natAbs ≤ 2 by decide) h.l4)) (by decide)
theorem ecOk.b6 {A : ecE} (h : ecOk A) : (eb6 A).natAbs ≤ 10001000000 := by
  refine Nat.le_trans (bd_add (bd_mul h.l3 h.l3) (bd_mul (show (4 : Int).natAbs ≤ 4 by decide) h.l6)) (by decide)
theorem ecOk.b8 {A : ecE} (h : ecOk A) : (eb8 A).natAbs ≤ 3100000000000000 := by
  refine Nat.le_trans (bd_sub (bd_add (bd_add (bd_sub (bd_mul (bd_mul h.l1 h.l1) h.l6) (bd_mul (bd_mul h.l1 h.l3) h.l4)) (bd_mul (bd_mul (show (4 : Int).natAbs ≤ 4 by decide) h.l2) h.l6)) (bd_mul (bd_mul h.l2 h.l3) h.l3)) (bd_mul h.l4 h.l4)) (by decide)
theorem q_dbl_h {A : ecE} (hA : ecOk A) {P : qP} (hP : qOn (toE A) P) {H H' : Nat} (eH : H = qH P) (eH' : H' = qH (qad (toE A) P P)) : H * H * H * H ≤ 10 ^ 52 * H' ∧ H' ≤ 10 ^ 16 * (H * H * H * H) := by
  obtain ⟨k, k1, k2⟩ := q_dbl_k hP
  exact (d_k (eb_8 A) hA.b2 hA.b4 hA.b6 hA.b8 hA.d (q_cop P) k1 k2 eH eH').2
/-- the chords: sum and product in whole numbers -/
def pD (X1 Z1 X2 Z2 : Int) : Int := (X1 * Z2 - X2 * Z1) * (X1 * Z2 - X2 * Z1)
def pS (b2 b4 b6 X1 Z1 X2 Z2 : Int) : Int := (X1 * Z2 + X2 * Z1) * (b4 * (Z1 * Z2) + 2 * (X1 * X2)) + b2 * (X1 * X2) * (Z1 * Z2) + b6 * (Z1 * Z2 * (Z1 * Z2))
def pM (b4 b6 b8 X1 Z1 X2 Z2 : Int) : Int := X1 * X2 * (X1 * X2) - b4 * (X1 * X2) * (Z1 * Z2) - b6 * ((X1 * Z2 + X2 * Z1) * (Z1 * Z2)) - b8 * (Z1 * Z2 * (Z1 * Z2))
theorem q_chord_k {A : ecE} {x1 y1 x2 y2 : Rat} (h1 : qon (toE A) x1 y1) (h2 : qon (toE A) x2 y2) (hx : x1 ≠ x2) : ∃ k : Int, k ≠ 0 ∧
    pD x1.num x1.den x2.num x2.den = k * (qZ (qad (toE A) (some (x1, y1)) (some (x2, y2))) * qZ (qad (toE A) (some (x1, y1)) (qng (toE A) (some (x2, y2))))) ∧
    pS (eb2 A) (eb4 A) (eb6 A) x1.num x1.den x2.num x2.den = k * (qX (qad (toE A) (some (x1, y1)) (some (x2, y2))) * qZ (qad (toE A) (some (x1, y1)) (qng (toE A) (some (x2, y2)))) + qX (qad (toE A) (some (x1, y1)) (qng (toE A) (some (x2, y2)))) * qZ (qad (toE A) (some (x1, y1)) (some (x2, y2)))) ∧
    pM (eb4 A) (eb6 A) (eb8 A) x1.num x1.den x2.num x2.den = k * (qX (qad (toE A) (some (x1, y1)) (some (x2, y2))) * qX (qad (toE A) (some (x1, y1)) (qng (toE A) (some (x2, y2))))) := by
  obtain ⟨l, hl, r1⟩ := q_chord h1 h2 hx
  obtain ⟨l', hl', r2⟩ := q_chord h1 (qon_n h2) hx
  have s0 := q_par_s h1 h2 hl hl'
  have m0 := q_par_m hx h1 h2 hl hl'
  have e1 := qad_c hx hl (E := toE A)
  have e2 : qad (toE A) (some (x1, y1)) (qng (toE A) (some (x2, y2))) = _ := qad_c hx hl' (E := toE A)
  rw [e1, e2]
  simp only [qX, qZ, qth]
  generalize qx (toE A) l x1 x2 = x3 at *
  generalize qx (toE A) l' x1 x2 = x4 at *
  clear hl hl' e1 e2 h1 h2 r1 r2
  have c3 : Int.gcd x3.num x3.den = 1 := x3.reduced
  have c4 : Int.gcd x4.num x4.den = 1 := x4.reduced
  have n3 : (x3.den : Int) ≠ 0 := by have := x3.den_nz; omega
  have n4 : (x4.den : Int) ≠ 0 := by have := x4.den_nz; omega
  obtain ⟨hx1, hz1⟩ := q_num x1
  obtain ⟨hx2, hz2⟩ := q_num x2
  obtain ⟨hx3, hz3⟩ := q_num x3
  obtain ⟨hx4, hz4⟩ := q_num x4
  have key := frac2_k (D := pD x1.num x1.den x2.num x2.den) (S := pS (eb2 A) (eb4 A) (eb6 A) x1.num x1.den x2.num x2.den) (M := pM (eb4 A) (eb6 A) (eb8 A) x1.num x1.den x2.num x2.den) c3 c4 (Int.mul_ne_zero n3 n4) (by
    apply Rat.intCast_inj.1
    simp only [pD, pS, eb2, eb4, eb6, Rat.intCast_mul, Rat.intCast_add, Rat.intCast_sub, Rat.intCast_ofNat, toE] at *
    rw [← hx1, ← hx2, ← hx3, ← hx4]
    generalize (((x1.den : Int)) : Rat) = z1 at *
    generalize (((x2.den : Int)) : Rat) = z2 at *
    generalize (((x3.den : Int)) : Rat) = z3 at *
    generalize (((x4.den : Int)) : Rat) = z4 at *
    clear m0 hx1 hx2 hx3 hx4 hz1 hz2 hz3 hz4 hx
    grind) (by
    apply Rat.intCast_inj.1
    simp only [pD, pM, eb4, eb6, eb8, Rat.intCast_mul, Rat.intCast_add, Rat.intCast_sub, Rat.intCast_ofNat, toE] at *
    rw [← hx1, ← hx2, ← hx3, ← hx4]
    generalize (((x1.den : Int)) : Rat) = z1 at *
    generalize (((x2.den : Int)) : Rat) = z2 at *
    generalize (((x3.den : Int)) : Rat) = z3 at *
    generalize (((x4.den : Int)) : Rat) = z4 at *
    clear s0 hx1 hx2 hx3 hx4 hz1 hz2 hz3 hz4 hx
    grind)
  obtain ⟨k, k1, k2, k3⟩ := key
  refine ⟨k, ?_, k1, k2, k3⟩
  intro hk
  rw [hk, Int.zero_mul] at k1
  unfold pD at k1
  have k4 : x1.num * x2.den - x2.num * x1.den = 0 := by
    rcases Int.mul_eq_zero.1 k1 with h | h <;> exact h
  have k5 := congrArg (fun v : Int => (v : Rat)) k4
  simp only [Rat.intCast_mul, Rat.intCast_sub, Rat.intCast_zero] at k5
  rw [← hx1, ← hx2] at k5
  generalize (((x1.den : Int)) : Rat) = z1 at *
  generalize (((x2.den : Int)) : Rat) = z2 at *
  exact hx (q_cut (c := z1 * z2) (by grind) (by grind))
theorem p_bD {X1 Z1 X2 Z2 : Int} {H1 H2 : Nat} (a1 : X1.natAbs ≤ H1) (a2 : Z1.natAbs ≤ H1) (a3 : X2.natAbs ≤ H2) (a4 : Z2.natAbs ≤ H2) : (pD X1 Z1 X2 Z2).natAbs ≤ 3200000000000000 * (H1 * H2 * (H1 * H2)) := by
  unfold pD
  have q : (X1 * Z2 - X2 * Z1).natAbs ≤ 2 * (H1 * H2) := Nat.le_trans (bd_sub (bd_mul a1 a4) (bd_mul a3 a2)) (by rw [Nat.mul_comm H2 H1]; omega)
  refine Nat.le_trans (bd_mul q q) ?_
  rw [show 2 * (H1 * H2) * (2 * (H1 * H2)) = 4 * (H1 * H2 * (H1 * H2)) by grind]
  generalize H1 * H2 * (H1 * H2) = t
  omega
theorem p_bS {b2 b4 b6 X1 Z1 X2 Z2 : Int} {H1 H2 : Nat} (l2 : b2.natAbs ≤ 10001000000) (l4 : b4.natAbs ≤ 10001000000) (l6 : b6.natAbs ≤ 10001000000) (a1 : X1.natAbs ≤ H1) (a2 : Z1.natAbs ≤ H1) (a3 : X2.natAbs ≤ H2) (a4 : Z2.natAbs ≤ H2) : (pS b2 b4 b6 X1 Z1 X2 Z2).natAbs ≤ 3200000000000000 * (H1 * H2 * (H1 * H2)) := by
  unfold pS
  have q : (X1 * Z2 + X2 * Z1).natAbs ≤ 2 * (H1 * H2) := Nat.le_trans (bd_add (bd_mul a1 a4) (bd_mul a3 a2)) (by rw [Nat.mul_comm H2 H1]; omega)
  refine Nat.le_trans (bd_add (bd_add (bd_mul q (bd_add (bd_mul l4 (bd_mul a2 a4)) (bd_mul (show (2 : Int).natAbs ≤ 2 by decide) (bd_mul a1 a3)))) (bd_mul (bd_mul l2 (bd_mul a1 a3)) (bd_mul a2 a4))) (bd_mul l6 (bd_mul (bd_mul a2 a4) (bd_mul a2 a4)))) ?_
  generalize H1 * H2 = u
  rw [show 2 * u * (10001000000 * u + 2 * u) = 20002000004 * (u * u) by grind, show 10001000000 * u * u = 10001000000 * (u * u) by grind]
  generalize u * u = t
  omega
theorem p_bM {b4 b6 b8 X1 Z1 X2 Z2 : Int} {H1 H2 : Nat} (l4 : b4.natAbs ≤ 10001000000) (l6 : b6.natAbs ≤ 10001000000) (l8 : b8.natAbs ≤ 3100000000000000) (a1 : X1.natAbs ≤ H1) (a2 : Z1.natAbs ≤ H1) (a3 : X2.natAbs ≤ H2) (a4 : Z2.natAbs ≤ H2) : (pM b4 b6 b8 X1 Z1 X2 Z2).natAbs ≤ 3200000000000000 * (H1 * H2 * (H1 * H2)) := by
  unfold pM
  have q : (X1 * Z2 + X2 * Z1).natAbs ≤ 2 * (H1 * H2) := Nat.le_trans (bd_add (bd_mul a1 a4) (bd_mul a3 a2)) (by rw [Nat.mul_comm H2 H1]; omega)
  refine Nat.le_trans (bd_sub (bd_sub (bd_sub (bd_mul (bd_mul a1 a3) (bd_mul a1 a3)) (bd_mul (bd_mul l4 (bd_mul a1 a3)) (bd_mul a2 a4))) (bd_mul l6 (bd_mul q (bd_mul a2 a4)))) (bd_mul l8 (bd_mul (bd_mul a2 a4) (bd_mul a2 a4)))) ?_
  generalize H1 * H2 = u
  rw [show 10001000000 * u * u = 10001000000 * (u * u) by grind, show 10001000000 * (2 * u * u) = 20002000000 * (u * u) by grind]
  generalize u * u = t
  omega
theorem ecOk.ns {A : ecE} (hA : ecOk A) : qns (toE A) := by
  intro x y h1 h2 h3
  have g0 := q_dbl_0 h1 h2
  have f0 : x * x * x * x - ((toE A).1 * (toE A).2.2.1 + 2 * (toE A).2.2.2.1) * x * x - 2 * ((toE A).2.2.1 * (toE A).2.2.1 + 4 * (toE A).2.2.2.2) * x - ((toE A).1 * (toE A).1 * (toE A).2.2.2.2 - (toE A).1 * (toE A).2.2.1 * (toE A).2.2.2.1 + 4 * (toE A).2.1 * (toE A).2.2.2.2 + (toE A).2.1 * (toE A).2.2.1 * (toE A).2.2.1 - (toE A).2.2.2.1 * (toE A).2.2.2.1) = 0 := by
    have : x * x * x * x - ((toE A).1 * (toE A).2.2.1 + 2 * (toE A).2.2.2.1) * x * x - 2 * ((toE A).2.2.1 * (toE A).2.2.1 + 4 * (toE A).2.2.2.2) * x - ((toE A).1 * (toE A).1 * (toE A).2.2.2.2 - (toE A).1 * (toE A).2.2.1 * (toE A).2.2.2.1 + 4 * (toE A).2.1 * (toE A).2.2.2.2 + (toE A).2.1 * (toE A).2.2.1 * (toE A).2.2.1 - (toE A).2.2.2.1 * (toE A).2.2.2.1) = qn (toE A) x y * qn (toE A) x y + (toE A).1 * qn (toE A) x y * qd (toE A) x y - ((toE A).2.1 + x + x) * (qd (toE A) x y * qd (toE A) x y) := by
      clear h2 h3 g0
      unfold qd qn qon at *; grind
    rw [this, h2, h3]; grind
  obtain ⟨hx, hz⟩ := q_num x
  have iG : dG (eb2 A) (eb4 A) (eb6 A) x.num x.den = 0 := by
    apply Rat.intCast_inj.1
    simp only [dG, eb2, eb4, eb6, Rat.intCast_mul, Rat.intCast_add, Rat.intCast_ofNat, toE, Rat.intCast_zero] at *
    rw [← hx]
    generalize (((x.den : Int)) : Rat) = z at *
    clear h1 h2 h3 hx hz f0
    grind
  have iF : dF (eb4 A) (eb6 A) (eb8 A) x.num x.den = 0 := by
    apply Rat.intCast_inj.1
    simp only [dF, eb4, eb6, eb8, Rat.intCast_mul, Rat.intCast_add, Rat.intCast_sub, Rat.intCast_ofNat, toE, Rat.intCast_zero] at *
    rw [← hx]
    generalize (((x.den : Int)) : Rat) = z at *
    clear h1 h2 h3 hx hz g0
    grind
  have i1 := d_id1 (X := x.num) (Z := x.den) (eb_8 A)
  rw [iF, iG] at i1
  simp only [Int.mul_zero, Int.add_zero] at i1
  have n : (x.den : Int) ≠ 0 := by have := x.den_nz; omega
  have n7 : (x.den : Int) * x.den * x.den * x.den * x.den * x.den * x.den ≠ 0 := Int.mul_ne_zero (Int.mul_ne_zero (Int.mul_ne_zero (Int.mul_ne_zero (Int.mul_ne_zero (Int.mul_ne_zero n n) n) n) n) n) n
  rcases Int.mul_eq_zero.1 i1 with h | h
  · omega
  · exact absurd h (Int.mul_ne_zero hA.d n7)
theorem qX_ng (E : qE) (P : qP) : qX (qng E P) = qX P ∧ qZ (qng E P) = qZ P := by
  match P with
  | none => exact ⟨rfl, rfl⟩
  | some (x, y) => exact ⟨rfl, rfl⟩
theorem qH_ng (E : qE) (P : qP) : qH (qng E P) = qH P := by unfold qH; rw [(qX_ng E P).1, (qX_ng E P).2]
theorem qH_pos (P : qP) : 1 ≤ qH P := by
  match P with
  | none => decide
  | some (x, y) =>
    have := x.den_pos
    exact Nat.le_trans (show 1 ≤ (x.den : Int).natAbs by omega) (Nat.le_max_right _ _)
theorem q_par_h {A : ecE} (hA : ecOk A) {P Q : qP} (hP : qOn (toE A) P) (hQ : qOn (toE A) Q) : qH (qad (toE A) P Q) * qH (qad (toE A) P (qng (toE A) Q)) ≤ 10 ^ 16 * (qH P * qH Q * (qH P * qH Q)) := by
  match P, Q, hP, hQ with
  | none, Q, _, hQ =>
    rw [qad_n, qad_n, qH_ng, show qH none = 1 from rfl, Nat.one_mul]
    generalize qH Q * qH Q = t
    omega
  | some P, none, hP, _ =>
    rw [show qng (toE A) none = none from rfl, qad_n', show qH none = 1 from rfl, Nat.mul_one]
    generalize qH (some P) * qH (some P) = t
    omega
  | some (x1, y1), some (x2, y2), hP, hQ =>
    by_cases h : x1 = x2
    · subst h
      have hd := (q_dbl_h hA hP rfl rfl).2
      rcases qon_two hP hQ with h | h
      · subst h
        rw [qad_self_ng, show qH none = 1 from rfl, Nat.mul_one]
        refine Nat.le_trans hd (Nat.le_of_eq ?_)
        generalize qH (some (x1, y1)) = t; grind
      · have e : some (x1, y2) = qng (toE A) (some (x1, y1)) := by simp only [qng, Option.some.injEq, Prod.mk.injEq, true_and]; grind
        rw [e, qng_ng, qad_self_ng, qH_ng, show qH none = 1 from rfl, Nat.one_mul]
        refine Nat.le_trans hd (Nat.le_of_eq ?_)
        generalize qH (some (x1, y1)) = t; grind
    · obtain ⟨k, k0, k1, k2, k3⟩ := q_chord_k hP hQ h
      have a1 : x1.num.natAbs ≤ qH (some (x1, y1)) := Nat.le_max_left _ _
      have a2 : (x1.den : Int).natAbs ≤ qH (some (x1, y1)) := Nat.le_max_right _ _
      have a3 : x2.num.natAbs ≤ qH (some (x2, y2)) := Nat.le_max_left _ _
      have a4 : (x2.den : Int).natAbs ≤ qH (some (x2, y2)) := Nat.le_max_right _ _
      have r := frac2_h k0 k1 k2 k3 (p_bD a1 a2 a3 a4) (p_bS hA.b2 hA.b4 hA.b6 a1 a2 a3 a4) (p_bM hA.b4 hA.b6 hA.b8 a1 a2 a3 a4)
      refine Nat.le_trans r ?_
      generalize qH (some (x1, y1)) * qH (some (x2, y2)) * (qH (some (x1, y1)) * qH (some (x2, y2))) = t
      omega
/-- the count of digits -/
def dgc (n : Nat) : Nat := if n < 10 then 1 else dgc (n / 10) + 1
theorem dgc_lt (n : Nat) : n < 10 ^ dgc n := by
  induction n using Nat.strongRecOn with
  | ind n ih =>
    unfold dgc
    split
    · omega
    · have := ih (n / 10) (by omega)
      rw [Nat.pow_succ]; omega
theorem dgc_le (n : Nat) (h : 1 ≤ n) : 1 ≤ dgc n ∧ 10 ^ (dgc n - 1) ≤ n := by
  induction n using Nat.strongRecOn with
  | ind n ih =>
    unfold dgc
    split
    · exact ⟨Nat.le_refl _, by omega⟩
    · obtain ⟨i1, i2⟩ := ih (n / 10) (by omega) (by omega)
      refine ⟨by omega, ?_⟩
      have e : dgc (n / 10) + 1 - 1 = (dgc (n / 10) - 1) + 1 := by omega
      rw [e, Nat.pow_succ]; omega
theorem p10_lt {a b : Nat} (h : 10 ^ a < 10 ^ b) : a < b := (Nat.pow_lt_pow_iff_right (by decide)).1 h
/-- the height: digits of the longer of both -/
def qL (P : qP) : Int := dgc (qH P)
theorem p10_4 (H d : Nat) (h : H < 10 ^ d) (h0 : 1 ≤ H) : H * H * H * H < 10 ^ (4 * d) := by
  have e : H * H * H * H = H ^ 4 := by grind
  rw [e, Nat.mul_comm 4 d, Nat.pow_mul]
  exact Nat.pow_lt_pow_left h (by decide)
theorem p10_4' (H d : Nat) (h : 10 ^ d ≤ H) : 10 ^ (4 * d) ≤ H * H * H * H := by
  have e : H * H * H * H = H ^ 4 := by grind
  rw [e, Nat.mul_comm 4 d, Nat.pow_mul]
  exact Nat.pow_le_pow_left h 4
theorem ecOk.ht {A : ecE} (hA : ecOk A) : qHt (toE A) qL := by
  refine ⟨by show ((dgc 1 : Nat) : Int) = 1; unfold dgc; rfl, fun P hP => ?_, fun P hP => ?_, fun P Q hP hQ => ?_⟩
  · have h := (q_dbl_h hA hP rfl rfl).1
    obtain ⟨a1, a2⟩ := dgc_le _ (qH_pos P)
    have b1 := dgc_lt (qH (qad (toE A) P P))
    show 4 * ((dgc (qH P) : Nat) : Int) - 55 ≤ ((dgc (qH (qad (toE A) P P)) : Nat) : Int)
    have q := Nat.lt_of_le_of_lt (Nat.le_trans (p10_4' _ _ a2) h) (Nat.mul_lt_mul_of_pos_left b1 (show 0 < 10 ^ 52 by decide))
    rw [← Nat.pow_add] at q
    have := p10_lt q
    omega
  · have h := (q_dbl_h hA hP rfl rfl).2
    obtain ⟨a1, a2⟩ := dgc_le _ (qH_pos (qad (toE A) P P))
    have b1 := dgc_lt (qH P)
    show ((dgc (qH (qad (toE A) P P)) : Nat) : Int) ≤ 4 * ((dgc (qH P) : Nat) : Int) + 16
    have q := Nat.lt_of_le_of_lt (Nat.le_trans a2 h) (Nat.mul_lt_mul_of_pos_left (p10_4 _ _ b1 (qH_pos P)) (show 0 < 10 ^ 16 by decide))
    rw [← Nat.pow_add] at q
    have := p10_lt q
    omega
  · have h := q_par_h hA hP hQ
    obtain ⟨a1, a2⟩ := dgc_le _ (qH_pos (qad (toE A) P Q))
    obtain ⟨a3, a4⟩ := dgc_le _ (qH_pos (qad (toE A) P (qng (toE A) Q)))
    have b1 := dgc_lt (qH P)
    have b2 := dgc_lt (qH Q)
    show ((dgc (qH (qad (toE A) P Q)) : Nat) : Int) + ((dgc (qH (qad (toE A) P (qng (toE A) Q))) : Nat) : Int) ≤ 2 * ((dgc (qH P) : Nat) : Int) + 2 * ((dgc (qH Q) : Nat) : Int) + 17
    have c := Nat.mul_lt_mul'' b1 b2
    have c2 := Nat.mul_lt_mul'' c c
    have q := Nat.lt_of_le_of_lt (Nat.le_trans (Nat.mul_le_mul a2 a4) h) (Nat.mul_lt_mul_of_pos_left c2 (show 0 < 10 ^ 16 by decide))
    rw [← Nat.pow_add, ← Nat.pow_add, ← Nat.pow_add, ← Nat.pow_add] at q
    have := p10_lt q
    omega
abbrev ecP := Option (Int × Int × Int)
/-- a point in whole numbers: x = x / (z z), y = y / (z z z), lowest terms -/
def ecOn (A : ecE) : ecP → Prop
  | none => True
  | some (x, y, z) => 0 < z ∧ Int.gcd x z = 1 ∧ y * y + A.1 * x * y * z + A.2.2.1 * y * (z * z * z) = x * x * x + A.2.1 * (x * x) * (z * z) + A.2.2.2.1 * x * (z * z * (z * z)) + A.2.2.2.2 * (z * z * z * (z * z * z))
def ecQ : ecP → qP
  | none => none
  | some (x, y, z) => some ((x : Rat) / ((z * z : Int) : Rat), (y : Rat) / ((z * z * z : Int) : Rat))
theorem zn_ne {z : Int} (h : 0 < z) : (z : Rat) ≠ 0 := by
  intro h0
  have := Rat.intCast_eq_zero_iff.1 h0
  omega
theorem cop_mul {a b k : Int} (h1 : Int.gcd a k = 1) (h2 : Int.gcd b k = 1) : Int.gcd (a * b) k = 1 := by
  show Nat.gcd (a * b).natAbs k.natAbs = 1
  rw [Int.natAbs_mul]
  exact Nat.Coprime.mul_left h1 h2
theorem cop_sq {a k : Int} (h : Int.gcd a k = 1) : Int.gcd (a * a) (k * k) = 1 := by
  have h1 : Int.gcd (a * a) k = 1 := cop_mul h h
  have h2 : Int.gcd k (a * a) = 1 := by rw [Int.gcd_comm]; exact h1
  rw [Int.gcd_comm]
  exact cop_mul h2 h2
theorem cop_add {a k : Int} (t : Int) (h : Int.gcd a k = 1) : Int.gcd (a + k * t) k = 1 := by
  have d1 : ((Int.gcd (a + k * t) k : Nat) : Int) ∣ k := Int.gcd_dvd_right ..
  have d2 : ((Int.gcd (a + k * t) k : Nat) : Int) ∣ a + k * t := Int.gcd_dvd_left ..
  generalize ((Int.gcd (a + k * t) k : Nat)) = g at *
  have d3 : (g : Int) ∣ a := by
    obtain ⟨c, hc⟩ := d1
    obtain ⟨d, hd⟩ := d2
    exact ⟨d - c * t, by grind⟩
  have d4 := Int.dvd_coe_gcd d3 d1
  rw [h] at d4
  have := Int.natCast_dvd_natCast.1 (show (g : Int) ∣ ((1 : Nat) : Int) from d4)
  exact Nat.eq_one_of_dvd_one this
theorem cop_dvd {a b c : Int} (h : Int.gcd a b = 1) (hd : a ∣ b * c) : a ∣ c := by
  have h1 : a.natAbs ∣ b.natAbs * c.natAbs := by rw [← Int.natAbs_mul]; exact Int.natAbs_dvd_natAbs.2 hd
  exact Int.natAbs_dvd_natAbs.1 (Nat.Coprime.dvd_of_dvd_mul_left h h1)
theorem sq_dvd {m n : Int} (h : m * m ∣ n * n) : m ∣ n := by
  have h1 := Int.natAbs_dvd_natAbs.2 h
  rw [Int.natAbs_mul, Int.natAbs_mul, ← Nat.pow_two, ← Nat.pow_two] at h1
  exact Int.natAbs_dvd_natAbs.1 ((Nat.pow_dvd_pow_iff (by decide)).1 h1)
/-- the bottoms of x and y on a curve -/
theorem bottoms {A : ecE} {X Y m n : Int} (hm : 0 < m) (hn : 0 < n) (cX : Int.gcd X m = 1) (cY : Int.gcd Y n = 1) (h : Y * Y * (m * m * m) + A.1 * X * Y * (m * m) * n + A.2.2.1 * Y * (m * m * m) * n = n * n * (X * X * X + A.2.1 * (X * X) * m + A.2.2.2.1 * X * (m * m) + A.2.2.2.2 * (m * m * m))) : ∃ k : Int, 0 < k ∧ m = k * k ∧ n = k * k * k := by
  have cC : Int.gcd (X * X * X + A.2.1 * (X * X) * m + A.2.2.2.1 * X * (m * m) + A.2.2.2.2 * (m * m * m)) m = 1 := by
    have := cop_add (A.2.1 * (X * X) + A.2.2.2.1 * X * m + A.2.2.2.2 * (m * m)) (cop_mul (cop_mul cX cX) cX)
    rw [← this]; congr 1; grind
  generalize hC : X * X * X + A.2.1 * (X * X) * m + A.2.2.2.1 * X * (m * m) + A.2.2.2.2 * (m * m * m) = C at *
  have cC' : Int.gcd m C = 1 := by rw [Int.gcd_comm]; exact cC
  have s1 : m * m ∣ n * n := by
    refine cop_dvd (b := C) ?_ ⟨Y * Y * m + A.1 * X * Y * n + A.2.2.1 * Y * m * n, by grind⟩
    exact cop_mul cC' cC'
  obtain ⟨k, hk⟩ := sq_dvd s1
  have hk0 : 0 < k := by
    rcases Int.lt_or_le 0 k with h0 | h0
    · exact h0
    · have := Int.mul_le_mul_of_nonneg_left h0 (Int.le_of_lt hm)
      omega
  have e1 : k * k * C = m * (Y * Y + k * (A.1 * X * Y + A.2.2.1 * Y * m)) := by
    have : (m * m) * (k * k * C) = (m * m) * (m * (Y * Y + k * (A.1 * X * Y + A.2.2.1 * Y * m))) := by
      rw [hk] at h
      clear hC cC cC' s1 cX cY hk hk0 hm hn
      grind
    exact Int.eq_of_mul_eq_mul_left (Int.mul_ne_zero (by omega) (by omega)) this
  have s2 : m ∣ k * k := cop_dvd (b := C) cC' ⟨Y * Y + k * (A.1 * X * Y + A.2.2.1 * Y * m), by rw [← e1]; grind⟩
  have cYk : Int.gcd Y k = 1 := by
    have d1 : Y.natAbs.gcd k.natAbs ∣ Y.natAbs.gcd n.natAbs := Nat.gcd_dvd_gcd_of_dvd_right _ (Int.natAbs_dvd_natAbs.2 ⟨m, by rw [hk]; grind⟩)
    rw [show Y.natAbs.gcd n.natAbs = 1 from cY] at d1
    exact Nat.eq_one_of_dvd_one d1
  have s3 : k * k ∣ m := by
    refine cop_dvd (b := Y * Y + k * (A.1 * X * Y + A.2.2.1 * Y * m)) ?_ ⟨C, by rw [e1]; grind⟩
    have c1 := cop_add (A.1 * X * Y + A.2.2.1 * Y * m) (cop_mul cYk cYk)
    have c2 : Int.gcd k (Y * Y + k * (A.1 * X * Y + A.2.2.1 * Y * m)) = 1 := by rw [Int.gcd_comm]; exact c1
    exact cop_mul c2 c2
  have e2 : m = k * k := Int.dvd_antisymm (Int.le_of_lt hm) (Int.le_of_lt (Int.mul_pos hk0 hk0)) s2 s3
  exact ⟨k, hk0, e2, by rw [hk]; rw [e2]⟩
theorem rne2 {w : Rat} (h : w ≠ 0) : w * w ≠ 0 := by grind
theorem rne3 {w : Rat} (h : w ≠ 0) : w * w * w ≠ 0 := by have := rne2 h; grind
theorem rne6 {w : Rat} (h : w ≠ 0) : w * w * w * (w * w * w) ≠ 0 := rne2 (rne3 h)
theorem rmd {x w : Rat} (h : w ≠ 0) : x * w / w = x := by grind
theorem rdv {u w : Rat} (h : w ≠ 0) : u = u / w * w := by grind
theorem ecOn.q {A : ecE} {P : ecP} (h : ecOn A P) : qOn (toE A) (ecQ P) := by
  match P, h with
  | none, _ => trivial
  | some (x, y, z), ⟨h1, _, h3⟩ =>
    have hz := zn_ne h1
    have e := congrArg (fun v : Int => (v : Rat)) h3
    simp only [ecQ, qOn, qon, toE, Rat.intCast_mul, Rat.intCast_add] at *
    generalize (z : Rat) = w at *
    generalize (x : Rat) = u at *
    generalize (y : Rat) = v at *
    clear h3 h1
    have e1 : u = u / (w * w) * (w * w) := rdv (rne2 hz)
    have e2 : v = v / (w * w * w) * (w * w * w) := rdv (rne3 hz)
    generalize u / (w * w) = p at *
    generalize v / (w * w * w) = q at *
    subst e1
    subst e2
    exact q_cut (c := w * w * w * (w * w * w)) (rne6 hz) (by clear hz h; grind)
/-- every rational point is one in whole numbers -/
theorem ecOn_ex {A : ecE} {p : qP} (h : qOn (toE A) p) : ∃ P : ecP, ecOn A P ∧ ecQ P = p := by
  match p, h with
  | none, _ => exact ⟨none, trivial, rfl⟩
  | some (x, y), h =>
    obtain ⟨hx, hxz⟩ := q_num x
    obtain ⟨hy, hyz⟩ := q_num y
    have px : (0 : Int) < x.den := by have := x.den_pos; omega
    have py : (0 : Int) < y.den := by have := y.den_pos; omega
    have key : y.num * y.num * ((x.den : Int) * x.den * x.den) + A.1 * x.num * y.num * ((x.den : Int) * x.den) * y.den + A.2.2.1 * y.num * ((x.den : Int) * x.den * x.den) * y.den = (y.den : Int) * y.den * (x.num * x.num * x.num + A.2.1 * (x.num * x.num) * x.den + A.2.2.2.1 * x.num * ((x.den : Int) * x.den) + A.2.2.2.2 * ((x.den : Int) * x.den * x.den)) := by
      apply Rat.intCast_inj.1
      simp only [qOn, qon, toE, Rat.intCast_mul, Rat.intCast_add] at *
      rw [← hx, ← hy]
      generalize (((x.den : Int)) : Rat) = z at *
      generalize (((y.den : Int)) : Rat) = w at *
      clear hx hy
      grind
    obtain ⟨k, k0, k1, k2⟩ := bottoms px py x.reduced y.reduced key
    have cx : Int.gcd x.num k = 1 := by
      have d1 : x.num.natAbs.gcd k.natAbs ∣ x.num.natAbs.gcd (x.den : Int).natAbs := Nat.gcd_dvd_gcd_of_dvd_right _ (Int.natAbs_dvd_natAbs.2 ⟨k, k1⟩)
      rw [show x.num.natAbs.gcd (x.den : Int).natAbs = 1 from x.reduced] at d1
      exact Nat.eq_one_of_dvd_one d1
    refine ⟨some (x.num, y.num, k), ⟨k0, cx, ?_⟩, ?_⟩
    · rw [k1, k2] at key
      have : (k * k * k * (k * k * k)) * (y.num * y.num + A.1 * x.num * y.num * k + A.2.2.1 * y.num * (k * k * k)) = (k * k * k * (k * k * k)) * (x.num * x.num * x.num + A.2.1 * (x.num * x.num) * (k * k) + A.2.2.2.1 * x.num * (k * k * (k * k)) + A.2.2.2.2 * (k * k * k * (k * k * k))) := by grind
      have kn : k ≠ 0 := by omega
      exact Int.eq_of_mul_eq_mul_left (Int.mul_ne_zero (Int.mul_ne_zero (Int.mul_ne_zero kn kn) kn) (Int.mul_ne_zero (Int.mul_ne_zero kn kn) kn)) this
    · have e1 : (x.num : Rat) / ((k * k : Int) : Rat) = x := by rw [← k1, ← hx]; exact rmd hxz
      have e2 : (y.num : Rat) / ((k * k * k : Int) : Rat) = y := by rw [← k2, ← hy]; exact rmd hyz
      simp only [ecQ, e1, e2]
theorem ecQ_xz {A : ecE} {x y z : Int} (h : ecOn A (some (x, y, z))) : qX (ecQ (some (x, y, z))) = x ∧ qZ (ecQ (some (x, y, z))) = z * z := by
  obtain ⟨h1, h2, _⟩ := h
  simp only [ecQ, qX, qZ]
  have hz := zn_ne (Int.mul_pos h1 h1)
  obtain ⟨hx, hxz⟩ := q_num ((x : Rat) / ((z * z : Int) : Rat))
  have hr : (x : Rat) / ((z * z : Int) : Rat) * ((z * z : Int) : Rat) = x := (rdv hz).symm
  generalize (x : Rat) / ((z * z : Int) : Rat) = r at *
  have pr : (0 : Int) < r.den := by have := r.den_pos; omega
  have e : r.num * (z * z) = x * (r.den : Int) := by
    apply Rat.intCast_inj.1
    rw [Rat.intCast_mul, Rat.intCast_mul x, ← hx, ← hr]
    generalize (((r.den : Int)) : Rat) = z at *
    grind
  have c2 : Int.gcd x (z * z) = 1 := by
    have : Int.gcd z x = 1 := by rw [Int.gcd_comm]; exact h2
    rw [Int.gcd_comm]; exact cop_mul this this
  obtain ⟨k, k1, k2⟩ := frac_k c2 (show r.num * (z * z) = (r.den : Int) * x by rw [e, Int.mul_comm])
  obtain ⟨j, j1, j2⟩ := frac_k (show Int.gcd r.num r.den = 1 from r.reduced) (show x * (r.den : Int) = (z * z) * r.num by rw [← e, Int.mul_comm])
  have hz2 : 0 < z * z := Int.mul_pos h1 h1
  have kp : 0 < k := by
    rcases Int.lt_or_le 0 k with h0 | h0
    · exact h0
    · have := Int.mul_le_mul_of_nonneg_right h0 (Int.le_of_lt hz2); omega
  have jp : 0 < j := by
    rcases Int.lt_or_le 0 j with h0 | h0
    · exact h0
    · have := Int.mul_le_mul_of_nonneg_right h0 (Int.le_of_lt pr); omega
  have kj : k * j = 1 := by
    have : (r.den : Int) * (k * j) = (r.den : Int) * 1 := by rw [j2] at k2; grind
    exact Int.eq_of_mul_eq_mul_left (by omega) this
  have k9 : k = 1 := by
    have : k * 1 ≤ k * j := Int.mul_le_mul_of_nonneg_left (by omega) (by omega)
    omega
  rw [k9] at k1 k2
  omega
theorem ecQ_inj {A : ecE} {P Q : ecP} (hP : ecOn A P) (hQ : ecOn A Q) (h : ecQ P = ecQ Q) : P = Q := by
  match P, Q, hP, hQ, h with
  | none, none, _, _, _ => rfl
  | none, some (x, y, z), _, _, h => simp [ecQ] at h
  | some (x, y, z), none, _, _, h => simp [ecQ] at h
  | some (x, y, z), some (x', y', z'), hP, hQ, h =>
    obtain ⟨a1, a2⟩ := ecQ_xz hP
    obtain ⟨b1, b2⟩ := ecQ_xz hQ
    have ex : x = x' := by rw [← a1, ← b1, h]
    have ez : z * z = z' * z' := by rw [← a2, ← b2, h]
    have p1 := hP.1
    have p2 := hQ.1
    have ez' : z = z' := by
      rcases Int.lt_trichotomy z z' with h0 | h0 | h0
      · have q1 := Int.mul_lt_mul_of_pos_right h0 p1
        have q2 := Int.mul_le_mul_of_nonneg_left (Int.le_of_lt h0) (Int.le_of_lt p2)
        omega
      · exact h0
      · have q1 := Int.mul_lt_mul_of_pos_right h0 p2
        have q2 := Int.mul_le_mul_of_nonneg_left (Int.le_of_lt h0) (Int.le_of_lt p1)
        omega
    subst ez'
    subst ex
    simp only [ecQ, Option.some.injEq, Prod.mk.injEq, true_and] at h
    have hz := zn_ne (Int.mul_pos (Int.mul_pos p1 p1) p1)
    have e : (y : Rat) = y' := by rw [rdv (u := (y : Rat)) hz, h, ← rdv hz]
    rw [Rat.intCast_inj.1 e]
