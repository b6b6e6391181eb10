/-- its chord -/
def kLeft (x1 z1 x2 z2 : Int) : Int := x1 * (z2 * z2) + x2 * (z1 * z1)
def kTwist (A : ecE) (x1 y1 z1 x2 y2 z2 : Int) : Int := A.2.2.1 * (y1 * (z2 * z2 * z2) + y2 * (z1 * z1 * z1)) + y1 * y2 + y1 * y2 + A.1 * (x1 * y2 * z1 + x2 * y1 * z2)
def kTop (A : ecE) (x1 y1 z1 x2 y2 z2 : Int) : Int := x1 * x2 * kLeft x1 z1 x2 z2 + (2 * A.2.1 * (x1 * x2) + A.2.2.2.1 * kLeft x1 z1 x2 z2 + 2 * A.2.2.2.2 * (z1 * z2 * (z1 * z2))) * (z1 * z2 * (z1 * z2)) - kTwist A x1 y1 z1 x2 y2 z2 * (z1 * z2)
/-- its tangent -/
def kTopT (A : ecE) (x z : Int) : Int := x * x * (x * x) - ((2 * eb6 A * x + eb8 A * (z * z)) * (z * z) + eb4 A * (x * x)) * (z * z * (z * z))
theorem q_chord_x {E : qE} {u1 v1 u2 v2 l : Rat} (h1 : qon E u1 v1) (h2 : qon E u2 v2) (hl : v2 = v1 + l * (u2 - u1)) : qx E l u1 u2 * ((u2 - u1) * (u2 - u1)) = u1 * u2 * (u1 + u2) + 2 * E.2.1 * (u1 * u2) + E.2.2.2.1 * (u1 + u2) + 2 * E.2.2.2.2 - E.2.2.1 * (v1 + v2) - 2 * (v1 * v2) - E.1 * (u1 * v2 + u2 * v1) := by
  have e1 : qx E l u1 u2 * ((u2 - u1) * (u2 - u1)) = (v2 - v1) * (v2 - v1) + E.1 * (v2 - v1) * (u2 - u1) - (E.2.1 + u1 + u2) * ((u2 - u1) * (u2 - u1)) := by unfold qx; grind
  rw [e1]
  clear e1 hl
  unfold qon at *; grind
/-- bottom and top have a common part -/
theorem share_ex {x z T B : Int} (hz : 0 < z) (hc : Int.gcd x z = 1) (hB : B ≠ 0) (h : T * (z * z) = x * (B * B)) : ∃ s : Int, s ≠ 0 ∧ B = z * s ∧ T = x * (s * s) := by
  have c1 : Int.gcd z x = 1 := by rw [Int.gcd_comm]; exact hc
  have d1 : z * z ∣ B * B := cop_dvd (b := x) (cop_mul c1 c1) ⟨T, by rw [← h, Int.mul_comm]⟩
  obtain ⟨s, hs⟩ := sq_dvd d1
  have zn : z ≠ 0 := by omega
  refine ⟨s, ?_, hs, ?_⟩
  · intro h0; rw [h0, Int.mul_zero] at hs; exact hB hs
  · have : (z * z) * T = (z * z) * (x * (s * s)) := by rw [hs] at h; grind
    exact Int.eq_of_mul_eq_mul_left (Int.mul_ne_zero zn zn) this
theorem k_chord {A : ecE} {x1 y1 z1 x2 y2 z2 x3 y3 z3 : Int} (hP : ecOn A (some (x1, y1, z1))) (hQ : ecOn A (some (x2, y2, z2))) (h : ¬ (x1 = x2 ∧ z1 = z2)) (hR : jnA A (some (x1, y1, z1)) (some (x2, y2, z2)) = some (x3, y3, z3)) :
    ∃ s : Int, s ≠ 0 ∧ cD x1 z1 x2 z2 = z3 * s ∧ kTop A x1 y1 z1 x2 y2 z2 = x3 * (s * s) ∧ cN y1 z1 y2 z2 * (x3 * (z1 * z1) - x1 * (z3 * z3)) + y1 * (z3 * z3 * z3) * (z2 * s) = -(y3 + A.1 * x3 * z3 + A.2.2.1 * (z3 * z3 * z3)) * (z2 * s * (z1 * z1 * z1)) := by
  obtain ⟨j1, j2, j3⟩ := jn_q hP hQ
  rw [hR] at j1 j2
  have hD := j3.1 _ _ _ _ _ _ rfl rfl h
  obtain ⟨u1, v1, e1, f1, g1, n1, o1⟩ := ecQ_uv hP
  obtain ⟨u2, v2, e2, f2, g2, n2, o2⟩ := ecQ_uv hQ
  obtain ⟨u3, v3, e3, f3, g3, n3, o3⟩ := ecQ_uv j1
  have hu : u1 ≠ u2 := fun eu => by subst eu; exact h (zx_eq hP hQ e1 e2)
  obtain ⟨l, hl, h4⟩ := q_chord o1 o2 hu
  rw [e1, e2, e3, qad_c hu hl] at j2
  simp only [Option.some.injEq, qth, Prod.mk.injEq] at j2
  obtain ⟨j4, j5⟩ := j2
  have hc := cD_q f1 f2
  have hn := cN_q g1 g2
  have hx := q_chord_x o1 o2 hl
  rw [← j4] at hx j5
  have ht : (kTop A x1 y1 z1 x2 y2 z2 : Rat) = u3 * ((u2 - u1) * (u2 - u1)) * ((z1 : Rat) * z1 * (z1 * z1) * (z2 * z2 * (z2 * z2))) := by
    rw [hx]
    simp only [kTop, kLeft, kTwist, Rat.intCast_mul, Rat.intCast_add, Rat.intCast_sub, Rat.intCast_ofNat, toE]
    rw [f1, f2, g1, g2]
    clear hx hc hn h4 j4 j5 f1 f2 f3 g1 g2 g3 e1 e2 e3 o1 o2 o3 hl
    grind
  obtain ⟨s, s0, s1, s2⟩ := share_ex j1.1 j1.2.1 hD (T := kTop A x1 y1 z1 x2 y2 z2) (by
    apply Rat.intCast_inj.1
    simp only [Rat.intCast_mul]
    rw [ht, hc, f3]
    clear ht hx hc hn h4 j4 j5 f1 f2 f3 g1 g2 g3 e1 e2 e3 o1 o2 o3 hl
    grind)
  refine ⟨s, s0, s1, s2, ?_⟩
  have hs : (u2 - u1) * ((z1 : Rat) * z1 * (z2 * z2)) = z3 * s := by rw [← hc, s1, Rat.intCast_mul]
  apply Rat.intCast_inj.1
  simp only [Rat.intCast_mul, Rat.intCast_add, Rat.intCast_sub, Rat.intCast_neg]
  rw [hn, f3, f1, g1, g3, j5, hl]
  simp only [qy, toE]
  clear ht hx hc hn h4 j4 f1 f2 f3 g1 g2 g3 e1 e2 e3 o1 o2 o3 hl j5 hu hD s1 s2
  have hs2 : l * (u2 - u1) * ((z1 : Rat) * z1 * (z2 * z2)) = l * (z3 * s) := by rw [← hs]; grind
  grind
theorem k_touch {A : ecE} {x y z x3 y3 z3 : Int} (hP : ecOn A (some (x, y, z))) (hR : jnA A (some (x, y, z)) (some (x, y, z)) = some (x3, y3, z3)) :
    ∃ s : Int, s ≠ 0 ∧ tD A.1 A.2.2.1 x y z * z = z3 * s ∧ kTopT A x z = x3 * (s * s) ∧ tN A.1 A.2.1 A.2.2.2.1 x y z * (z * z) * (x3 * (z * z) - x * (z3 * z3)) + y * (z3 * z3 * z3) * (z * s) = -(y3 + A.1 * x3 * z3 + A.2.2.1 * (z3 * z3 * z3)) * (z * s * (z * z * z)) := by
  obtain ⟨j1, j2, j3⟩ := jn_q hP hP
  rw [hR] at j1 j2
  obtain ⟨u1, v1, e1, f1, g1, n1, o1⟩ := ecQ_uv hP
  obtain ⟨u3, v3, e3, f3, g3, n3, o3⟩ := ecQ_uv j1
  have ht := tD_q (A := A) f1 g1
  have htn := tN_q (A := A) f1 g1
  rw [e1, e3] at j2
  have hd : qd (toE A) u1 v1 ≠ 0 := by
    intro h0
    rw [qad_o (by unfold qd at h0; grind)] at j2
    cases j2
  have hl : qn (toE A) u1 v1 = (qn (toE A) u1 v1 / qd (toE A) u1 v1) * qd (toE A) u1 v1 := rdv hd
  rw [qad_t hd hl] at j2
  generalize qn (toE A) u1 v1 / qd (toE A) u1 v1 = l at hl j2
  simp only [Option.some.injEq, qth, Prod.mk.injEq] at j2
  obtain ⟨j4, j5⟩ := j2
  have hx := q_dbl_x o1 hl hd
  have hg : 4 * u1 * u1 * u1 + ((toE A).1 * (toE A).1 + 4 * (toE A).2.1) * u1 * u1 + 2 * ((toE A).1 * (toE A).2.2.1 + 2 * (toE A).2.2.2.1) * u1 + ((toE A).2.2.1 * (toE A).2.2.1 + 4 * (toE A).2.2.2.2) = qd (toE A) u1 v1 * qd (toE A) u1 v1 := by clear hl hx ht htn j4 j5 hd; unfold qd qon at *; grind
  rw [hg, ← j4] at hx
  rw [← j4] at j5
  have hT : (kTopT A x z : Rat) = u3 * (qd (toE A) u1 v1 * qd (toE A) u1 v1) * ((z : Rat) * z * (z * z) * (z * z * (z * z))) := by
    rw [hx]
    simp only [kTopT, eb4, eb6, eb8, Rat.intCast_mul, Rat.intCast_add, Rat.intCast_sub, Rat.intCast_ofNat, toE]
    rw [f1]
    clear hx hg ht htn j4 j5 f1 f3 g1 g3 e1 e3 o1 o3 hl
    grind
  have hz0 : z ≠ 0 := zc_ne n1
  have hD0 : tD A.1 A.2.2.1 x y z ≠ 0 := zc_ne (by rw [ht]; exact rz_ne hd (rne3 n1))
  obtain ⟨s, s0, s1, s2⟩ := share_ex j1.1 j1.2.1 (Int.mul_ne_zero hD0 hz0) (T := kTopT A x z) (by
    apply Rat.intCast_inj.1
    simp only [Rat.intCast_mul]
    rw [hT, ht, f3]
    clear hT hx hg ht htn j4 j5 f1 f3 g1 g3 e1 e3 o1 o3 hl
    grind)
  refine ⟨s, s0, s1, s2, ?_⟩
  have hs : qd (toE A) u1 v1 * ((z : Rat) * z * z) * z = z3 * s := by rw [← ht, ← Rat.intCast_mul, s1, Rat.intCast_mul]
  apply Rat.intCast_inj.1
  simp only [Rat.intCast_mul, Rat.intCast_add, Rat.intCast_sub, Rat.intCast_neg]
  rw [htn, f3, f1, g1, g3, j5, hl]
  generalize qd (toE A) u1 v1 = d at *
  simp only [qy, toE]
  clear hT hx hg ht htn j4 f1 f3 g1 g3 e1 e3 o1 o3 hl j5 hD0 s1 s2
  grind
/-- the common part, by two divisors and a root -/
theorem share_nat {x z s g1 f g2 : Nat} (hc : Nat.gcd x z = 1) (hs : 0 < s) (e1 : g1 = Nat.gcd (x * (s * s)) (z * s)) (e2 : f = x * (s * s) / g1) (e3 : g2 = Nat.gcd f g1) : 0 < g1 ∧ 0 < g2 ∧ g1 ∣ x * (s * s) ∧ g2 ∣ g1 ∧ (g2 = g1 → g1 = s) ∧ ∃ h : Nat, g1 / g2 = h * h ∧ h * g2 = s := by
  have hh : 0 < Nat.gcd s z := Nat.gcd_pos_of_pos_left _ hs
  obtain ⟨t, ht⟩ : Nat.gcd s z ∣ s := Nat.gcd_dvd_left _ _
  have hcs : Nat.gcd x (Nat.gcd s z) = 1 := by
    have : Nat.gcd x (Nat.gcd s z) ∣ Nat.gcd x z := Nat.gcd_dvd_gcd_of_dvd_right _ (Nat.gcd_dvd_right _ _)
    rw [hc] at this
    exact Nat.eq_one_of_dvd_one this
  have k1 : g1 = s * Nat.gcd s z := by
    rw [e1, show x * (s * s) = s * (x * s) by grind, show z * s = s * z by grind, Nat.gcd_mul_left]
    congr 1
    -- gcd (x s) z = gcd s z
    rw [Nat.mul_comm x s]
    exact Nat.Coprime.gcd_mul_right_cancel s hc
  generalize Nat.gcd s z = h at *
  have tp : 0 < t := by
    rcases Nat.eq_zero_or_pos t with h0 | h0
    · rw [h0, Nat.mul_zero] at ht; omega
    · exact h0
  have k2 : g1 = t * (h * h) := by rw [k1, ht]; grind
  have g1p : 0 < g1 := by rw [k2]; exact Nat.mul_pos tp (Nat.mul_pos hh hh)
  have k3 : x * (s * s) = g1 * (x * t) := by rw [k2, ht]; grind
  have k4 : f = x * t := by rw [e2, k3]; exact Nat.mul_div_cancel_left _ g1p
  have k5 : g2 = t := by
    rw [e3, k4, k2, show x * t = t * x by grind, Nat.gcd_mul_left]
    have : Nat.gcd x (h * h) = 1 := Nat.Coprime.mul_right hcs hcs
    rw [this, Nat.mul_one]
  refine ⟨g1p, by omega, ⟨x * t, k3⟩, ⟨h * h, by rw [k2, k5]⟩, fun e => ?_, h, ?_, ?_⟩
  · have : t * 1 = t * (h * h) := by rw [← k2, ← e, k5, Nat.mul_one]
    have h1 := Nat.eq_of_mul_eq_mul_left tp this
    have h2 : h = 1 := by
      rcases Nat.lt_or_ge h 2 with h0 | h0
      · omega
      · have := Nat.mul_le_mul h0 h0; omega
    rw [k2, ht, h2]; grind
  · rw [k2, k5]; exact Nat.mul_div_cancel_left _ tp
  · rw [k5, ht]
/-- Newton's root from above: one turn -/
theorem root_step {x h q : Nat} (hh : 0 < h) (hq : q = (x / h + h) / 2) : x < (q + 1) * (q + 1) := by
  have h1 := Nat.div_add_mod x h
  have h2 := Nat.mod_lt x hh
  generalize x / h = d at *
  have h3 : d + h ≤ 2 * q + 1 := by omega
  -- x < h (d + 1); 4 h (d + 1) ≤ (h + d + 1)^2 ≤ (2 q + 2)^2
  have h4 : x < h * (d + 1) := by rw [Nat.mul_add, Nat.mul_one]; omega
  have h5 : 4 * (h * (d + 1)) ≤ (h + (d + 1)) * (h + (d + 1)) := by
    rcases Nat.le_total h (d + 1) with h0 | h0
    · obtain ⟨c, hc⟩ := Nat.le.dest h0
      rw [← hc]
      have : (h + (h + c)) * (h + (h + c)) = 4 * (h * (h + c)) + c * c := by grind
      omega
    · obtain ⟨c, hc⟩ := Nat.le.dest h0
      rw [← hc]
      have : (d + 1 + c + (d + 1)) * (d + 1 + c + (d + 1)) = 4 * ((d + 1 + c) * (d + 1)) + c * c := by grind
      omega
  have h6 : (h + (d + 1)) * (h + (d + 1)) ≤ (2 * (q + 1)) * (2 * (q + 1)) := Nat.mul_le_mul (by omega) (by omega)
  have h7 : (2 * (q + 1)) * (2 * (q + 1)) = 4 * ((q + 1) * (q + 1)) := by grind
  generalize (h + (d + 1)) * (h + (d + 1)) = u at *
  generalize (q + 1) * (q + 1) = w at *
  generalize h * (d + 1) = r at *
  omega
/-- where it no longer falls, it is the root -/
theorem root_end {x h q : Nat} (hq : q = (x / h + h) / 2) (hge : h ≤ q) : h * h ≤ x := by
  have h1 : h ≤ x / h := by omega
  have := Nat.mul_le_mul_left h h1
  exact Nat.le_trans this (Nat.mul_div_le x h)
theorem root_uniq {x h r : Nat} (h1 : h * h ≤ x) (h2 : x < (h + 1) * (h + 1)) (h3 : x = r * r) : h = r := by
  subst h3
  rcases Nat.lt_trichotomy h r with h0 | h0 | h0
  · have := Nat.mul_le_mul (show h + 1 ≤ r from h0) (show h + 1 ≤ r from h0); omega
  · exact h0
  · have := Nat.mul_le_mul (show r + 1 ≤ h from h0) (show r + 1 ≤ h from h0)
    have e : (r + 1) * (r + 1) = r * r + 2 * r + 1 := by grind
    omega
/-- Lehmer: the quotient of the leading digits is the quotient -/
theorem leh_k {H L D u0 v0 A B C E k : Int} (hD : 0 < D) (h1 : D * u0 ≤ H ∧ H < D * u0 + D) (h2 : D * v0 ≤ L ∧ L < D * v0 + D) (sg : (0 ≤ A ∧ B ≤ 0 ∧ C ≤ 0 ∧ 0 ≤ E) ∨ (A ≤ 0 ∧ 0 ≤ B ∧ 0 ≤ C ∧ E ≤ 0)) (hk0 : 0 ≤ k)
    (k1 : k * (C * u0 + E * v0 + E) ≤ A * u0 + B * v0 + B) (k2 : k * (C * u0 + E * v0 + C) ≤ A * u0 + B * v0 + A) (k3 : A * u0 + B * v0 + A < (k + 1) * (C * u0 + E * v0 + C)) (k4 : A * u0 + B * v0 + B < (k + 1) * (C * u0 + E * v0 + E)) :
    k * (C * H + E * L) ≤ A * H + B * L ∧ A * H + B * L < (k + 1) * (C * H + E * L) := by
  obtain ⟨r, hr⟩ : ∃ r : Int, H = D * u0 + r := ⟨H - D * u0, by omega⟩
  obtain ⟨t, ht⟩ : ∃ t : Int, L = D * v0 + t := ⟨L - D * v0, by omega⟩
  have r0 : 0 ≤ r ∧ r < D := by omega
  have t0 : 0 ≤ t ∧ t < D := by omega
  subst hr
  subst ht
  rcases sg with ⟨a, b, c, e⟩ | ⟨a, b, c, e⟩
  · have p1 : 0 ≤ (A - k * C) * r := Int.mul_nonneg (by have := Int.mul_nonpos_of_nonneg_of_nonpos hk0 c; omega) r0.1
    have p2 : 0 ≤ (k * E - B) * (D - t) := Int.mul_nonneg (by have := Int.mul_nonneg hk0 e; omega) (by omega)
    have p3 : 0 ≤ D * (A * u0 + B * v0 + B - k * (C * u0 + E * v0 + E)) := Int.mul_nonneg (by omega) (by omega)
    have p4 : 0 ≤ (A - (k + 1) * C) * (D - r) := Int.mul_nonneg (by have := Int.mul_nonpos_of_nonneg_of_nonpos (show 0 ≤ k + 1 by omega) c; omega) (by omega)
    have p5 : 0 ≤ ((k + 1) * E - B) * t := Int.mul_nonneg (by have := Int.mul_nonneg (show 0 ≤ k + 1 by omega) e; omega) t0.1
    have p6 : 0 < D * ((k + 1) * (C * u0 + E * v0 + C) - (A * u0 + B * v0 + A)) := Int.mul_pos hD (by omega)
    constructor
    · have id : A * (D * u0 + r) + B * (D * v0 + t) - k * (C * (D * u0 + r) + E * (D * v0 + t)) = D * (A * u0 + B * v0 + B - k * (C * u0 + E * v0 + E)) + (A - k * C) * r + (k * E - B) * (D - t) := by clear p1 p2 p3 p4 p5 p6 k1 k2 k3 k4 h1 h2; grind
      omega
    · have id : (k + 1) * (C * (D * u0 + r) + E * (D * v0 + t)) - (A * (D * u0 + r) + B * (D * v0 + t)) = D * ((k + 1) * (C * u0 + E * v0 + C) - (A * u0 + B * v0 + A)) + (A - (k + 1) * C) * (D - r) + ((k + 1) * E - B) * t := by clear p1 p2 p3 p4 p5 p6 k1 k2 k3 k4 h1 h2; grind
      omega
  · have p1 : 0 ≤ (B - k * E) * t := Int.mul_nonneg (by have := Int.mul_nonpos_of_nonneg_of_nonpos hk0 e; omega) t0.1
    have p2 : 0 ≤ (k * C - A) * (D - r) := Int.mul_nonneg (by have := Int.mul_nonneg hk0 c; omega) (by omega)
    have p3 : 0 ≤ D * (A * u0 + B * v0 + A - k * (C * u0 + E * v0 + C)) := Int.mul_nonneg (by omega) (by omega)
    have p4 : 0 ≤ (B - (k + 1) * E) * (D - t) := Int.mul_nonneg (by have := Int.mul_nonpos_of_nonneg_of_nonpos (show 0 ≤ k + 1 by omega) e; omega) (by omega)
    have p5 : 0 ≤ ((k + 1) * C - A) * r := Int.mul_nonneg (by have := Int.mul_nonneg (show 0 ≤ k + 1 by omega) c; omega) r0.1
    have p6 : 0 < D * ((k + 1) * (C * u0 + E * v0 + E) - (A * u0 + B * v0 + B)) := Int.mul_pos hD (by omega)
    constructor
    · have id : A * (D * u0 + r) + B * (D * v0 + t) - k * (C * (D * u0 + r) + E * (D * v0 + t)) = D * (A * u0 + B * v0 + A - k * (C * u0 + E * v0 + C)) + (B - k * E) * t + (k * C - A) * (D - r) := by clear p1 p2 p3 p4 p5 p6 k1 k2 k3 k4 h1 h2; grind
      omega
    · have id : (k + 1) * (C * (D * u0 + r) + E * (D * v0 + t)) - (A * (D * u0 + r) + B * (D * v0 + t)) = D * ((k + 1) * (C * u0 + E * v0 + E) - (A * u0 + B * v0 + B)) + (B - (k + 1) * E) * (D - t) + ((k + 1) * C - A) * r := by clear p1 p2 p3 p4 p5 p6 k1 k2 k3 k4 h1 h2; grind
      omega
/-- one step of Euclid's -/
theorem euc_step {h l k : Int} (hl : 0 < l) (h1 : k * l ≤ h) (h2 : h < (k + 1) * l) : h % l = h - k * l ∧ Int.gcd l (h - k * l) = Int.gcd h l := by
  have e1 : (k + 1) * l = k * l + l := by grind
  have e : h - k * l = h % l := by
    have : h = (h - k * l) + l * k := by rw [Int.mul_comm l k]; omega
    rw [this, Int.add_mul_emod_self_left, Int.emod_eq_of_lt (by omega) (by omega)]
    rw [Int.mul_comm l k]; omega
  refine ⟨e.symm, ?_⟩
  apply Nat.dvd_antisymm
  · apply Int.natCast_dvd_natCast.1
    refine Int.dvd_coe_gcd ?_ (Int.gcd_dvd_left ..)
    obtain ⟨c, hc⟩ : ((Int.gcd l (h - k * l) : Nat) : Int) ∣ l := Int.gcd_dvd_left ..
    obtain ⟨d, hd⟩ : ((Int.gcd l (h - k * l) : Nat) : Int) ∣ h - k * l := Int.gcd_dvd_right ..
    generalize ((Int.gcd l (h - k * l) : Nat) : Int) = g at *
    exact ⟨d + k * c, by rw [Int.mul_add, ← hd, show g * (k * c) = k * (g * c) by grind, ← hc]; omega⟩
  · apply Int.natCast_dvd_natCast.1
    refine Int.dvd_coe_gcd (Int.gcd_dvd_right ..) ?_
    obtain ⟨c, hc⟩ : ((Int.gcd h l : Nat) : Int) ∣ h := Int.gcd_dvd_left ..
    obtain ⟨d, hd⟩ : ((Int.gcd h l : Nat) : Int) ∣ l := Int.gcd_dvd_right ..
    generalize ((Int.gcd h l : Nat) : Int) = g at *
    exact ⟨c - k * d, by rw [Int.mul_sub, ← hc, show g * (k * d) = k * (g * d) by grind, ← hd]⟩
theorem fr_low {a b : Int} (hb : b ≠ 0) : Int.gcd (fUp a b) (fLo a b) = 1 ∧ 0 < fLo a b ∧ a * fLo a b = fUp a b * b ∧ (fUp a b).natAbs ≤ a.natAbs ∧ (fLo a b).natAbs ≤ b.natAbs := by
  have hg : 0 < Int.gcd a b := Int.gcd_pos_of_ne_zero_right a hb
  obtain ⟨x, hx⟩ : ((Int.gcd a b : Nat) : Int) ∣ a := Int.gcd_dvd_left ..
  obtain ⟨y, hy⟩ : ((Int.gcd a b : Nat) : Int) ∣ b := Int.gcd_dvd_right ..
  generalize hgd : Int.gcd a b = g0 at *
  have hc : Int.gcd x y = 1 := by
    rw [hx, hy, Int.gcd_mul_left, Int.natAbs_natCast] at hgd
    have h2 : g0 * Int.gcd x y = g0 * 1 := by rw [Nat.mul_one]; exact hgd
    exact Nat.eq_of_mul_eq_mul_left hg h2
  have yn : y ≠ 0 := by intro h0; rw [h0, Int.mul_zero] at hy; exact hb hy
  have ha : x.natAbs ≤ a.natAbs := by rw [hx, Int.natAbs_mul]; exact Nat.le_mul_of_pos_left _ hg
  have hb' : y.natAbs ≤ b.natAbs := by rw [hy, Int.natAbs_mul]; exact Nat.le_mul_of_pos_left _ hg
  clear hgd
  generalize (g0 : Int) = g at *
  rcases Int.lt_or_lt_of_ne yn with h0 | h0
  · have e : a * (-y) = (-x) * b := by rw [hx, hy]; clear hx hy; grind
    have hc' : Int.gcd (-x) (-y) = 1 := by rw [Int.neg_gcd, Int.gcd_neg]; exact hc
    obtain ⟨q1, q2⟩ := fr_eq hb e hc' (by omega)
    rw [q1, q2]
    exact ⟨hc', by omega, e, by omega, by omega⟩
  · have e : a * y = x * b := by rw [hx, hy]; clear hx hy; grind
    obtain ⟨q1, q2⟩ := fr_eq hb e hc h0
    rw [q1, q2]
    exact ⟨hc, h0, e, ha, hb'⟩
/-- a point that is read -/
theorem point_on {A : ecE} {u1 w1 u2 w2 : Int} (n1 : w1 ≠ 0) (n2 : w2 ≠ 0) (i1 : u1.natAbs ≤ 9223372036854775808) (i3 : u2.natAbs ≤ 9223372036854775808) (i4 : w2.natAbs ≤ 9223372036854775808) (h : pRight A (fUp u1 w1) (fLo u1 w1) (fUp u2 w2) (fLo u2 w2) = pLeft A (fUp u1 w1) (fLo u1 w1) (fUp u2 w2) (fLo u2 w2)) : ∃ z : Int, 0 < z ∧ fLo u1 w1 = z * z ∧ fLo u2 w2 = z * z * z ∧ (fLo u2 w2).tdiv (fLo u1 w1) = z ∧ slP A (some (fUp u1 w1, fUp u2 w2, z)) := by
  obtain ⟨c1, p1, q1, b1, q2⟩ := fr_low (a := u1) n1
  obtain ⟨c2, p2, q3, b2, b3⟩ := fr_low (a := u2) n2
  clear q1 q2 q3
  generalize fUp u1 w1 = xu at *
  generalize fLo u1 w1 = xl at *
  generalize fUp u2 w2 = yu at *
  generalize fLo u2 w2 = yl at *
  obtain ⟨k, k0, k1, k2⟩ := bottoms (A := A) p1 p2 c1 c2 (by unfold pRight pLeft at h; clear c1 c2 b1 b2 b3; grind)
  subst k1
  subst k2
  refine ⟨k, k0, rfl, rfl, z_tdiv k0, ⟨⟨k0, ?_, ?_⟩, ?_⟩⟩
  · have d1 : xu.natAbs.gcd k.natAbs ∣ xu.natAbs.gcd (k * k).natAbs := Nat.gcd_dvd_gcd_of_dvd_right _ (Int.natAbs_dvd_natAbs.2 ⟨k, rfl⟩)
    rw [show xu.natAbs.gcd (k * k).natAbs = 1 from c1] at d1
    exact Nat.eq_one_of_dvd_one d1
  · have kn : k ≠ 0 := by omega
    have : (k * k * k * (k * k * k)) * (yu * yu + A.1 * xu * yu * k + A.2.2.1 * yu * (k * k * k)) = (k * k * k * (k * k * k)) * (xu * xu * xu + A.2.1 * (xu * xu) * (k * k) + A.2.2.2.1 * xu * (k * k * (k * k)) + A.2.2.2.2 * (k * k * k * (k * k * k))) := by
      unfold pRight pLeft at h
      clear c1 c2 b1 b2 b3 p1 p2
      grind
    exact Int.eq_of_mul_eq_mul_left (Int.mul_ne_zero (Int.mul_ne_zero (Int.mul_ne_zero kn kn) kn) (Int.mul_ne_zero (Int.mul_ne_zero kn kn) kn)) this
  · rintro (h1 | h1 | h1)
    · have : (10 : Nat) ^ 120 ≤ 9223372036854775808 := Nat.le_trans h1 (Nat.le_trans b1 i1)
      exact absurd this (by decide)
    · have : (10 : Nat) ^ 120 ≤ 9223372036854775808 := Nat.le_trans h1 (Nat.le_trans b2 i3)
      exact absurd this (by decide)
    · have : (10 : Nat) ^ 120 ≤ 9223372036854775808 := Nat.le_trans h1 (Nat.le_trans b3 i4)
      exact absurd this (by decide)
/-- Newton's root: how far above -/
theorem root_half {r h q : Nat} (hr : r ≤ h) (h0 : 0 < h) (hq : q = (r * r / h + h) / 2) : q - r ≤ (h - r) / 2 := by
  have : r * r / h ≤ r := by
    have h1 : r * r ≤ r * h := Nat.mul_le_mul_left r hr
    have h2 := Nat.div_le_div_right (c := h) h1
    rw [Nat.mul_div_cancel _ h0] at h2
    exact h2
  omega
theorem root_above {r h q : Nat} (h0 : 0 < h) (hq : q = (r * r / h + h) / 2) : r ≤ q := by
  have h1 := root_step h0 hq
  rcases Nat.lt_or_ge q r with h2 | h2
  · have := Nat.mul_le_mul (show q + 1 ≤ r from h2) (show q + 1 ≤ r from h2); omega
  · exact h2
/-- Euclid's step halves the product -/
theorem euc_half {a b : Nat} (hb : 0 < b) (h : b ≤ a) : 2 * (b * (a % b)) ≤ a * b := by
  have h1 := Nat.mod_lt a hb
  have h2 : 2 * (a % b) ≤ a := by
    have h3 := Nat.div_add_mod a b
    have h4 : 1 ≤ a / b := (Nat.le_div_iff_mul_le hb).2 (by omega)
    have h5 := Nat.mul_le_mul_left b h4
    omega
  calc 2 * (b * (a % b)) = b * (2 * (a % b)) := by grind
    _ ≤ b * a := Nat.mul_le_mul_left b h2
    _ = a * b := Nat.mul_comm b a
