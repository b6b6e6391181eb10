/-- doubling, in whole numbers -/
def dF (b4 b6 b8 X Z : Int) : Int := X * X * X * X - b4 * (X * X * Z * Z) - 2 * b6 * (X * Z * Z * Z) - b8 * (Z * Z * Z * Z)
def dG (b2 b4 b6 X Z : Int) : Int := 4 * (X * X * X * Z) + b2 * (X * X * Z * Z) + 2 * b4 * (X * Z * Z * Z) + b6 * (Z * Z * Z * Z)
def dD (b2 b4 b6 b8 : Int) : Int := b2 * b4 * b6 * 9 - b2 * b2 * b8 - b4 * b4 * b4 * 8 - b6 * b6 * 27
def df1 (b2 b4 X Z : Int) : Int := (b2 * b2 - 32 * b4) * (Z * Z * Z) - 8 * b2 * (X * Z * Z) - 48 * (X * X * Z)
def dg1 (b2 b4 b6 X Z : Int) : Int := (b2 * b4 - 27 * b6) * (Z * Z * Z) - 10 * b4 * (X * Z * Z) - b2 * (X * X * Z) + 12 * (X * X * X)
def df2 (b2 b4 b6 X Z : Int) : Int := 24 * b6 * (b2 * b4 * b6 - b4 * b4 * b4 - 4 * (b6 * b6)) * (Z * Z * Z) - 4 * (b2 * b2 * b6 * b6 - 13 * (b2 * b4 * b4 * b6) + 12 * (b4 * b4 * b4 * b4) + 44 * (b4 * b6 * b6)) * (X * Z * Z) + 16 * (b2 * b2 * b4 * b6 - b2 * b4 * b4 * b4 - 5 * (b2 * b6 * b6) + b4 * b4 * b6) * (X * X * Z) - 4 * (b2 * b2 * b2 * b6 - b2 * b2 * b4 * b4 - 36 * (b2 * b4 * b6) + 32 * (b4 * b4 * b4) + 108 * (b6 * b6)) * (X * X * X)
def dg2 (b2 b4 b6 X Z : Int) : Int := 6 * (b2 * b6 - b4 * b4) * (b2 * b4 * b6 - b4 * b4 * b4 - 4 * (b6 * b6)) * (Z * Z * Z) - (b2 * b2 * b2 * b6 * b6 - 2 * (b2 * b2 * b4 * b4 * b6) + b2 * b4 * b4 * b4 * b4 - 52 * (b2 * b4 * b6 * b6) + 52 * (b4 * b4 * b4 * b6) + 192 * (b6 * b6 * b6)) * (X * Z * Z) - 4 * (b2 * b2 * b6 * b6 - 6 * (b2 * b4 * b4 * b6) + 5 * (b4 * b4 * b4 * b4) + 16 * (b4 * b6 * b6)) * (X * X * Z) - 4 * (b2 * b2 * b4 * b6 - b2 * b4 * b4 * b4 - 5 * (b2 * b6 * b6) + b4 * b4 * b6) * (X * X * X)
theorem d_id1 {b2 b4 b6 b8 X Z : Int} (h8 : 4 * b8 = b2 * b6 - b4 * b4) : 4 * (dD b2 b4 b6 b8 * (Z * Z * Z * Z * Z * Z * Z)) = 4 * (df1 b2 b4 X Z * dF b4 b6 b8 X Z + dg1 b2 b4 b6 X Z * dG b2 b4 b6 X Z) := by
  unfold dD df1 dF dg1 dG; grind
theorem d_id2 {b2 b4 b6 b8 X Z : Int} (h8 : 4 * b8 = b2 * b6 - b4 * b4) : 4 * (16 * dD b2 b4 b6 b8 * (X * X * X * X * X * X * X)) = 4 * (df2 b2 b4 b6 X Z * dF b4 b6 b8 X Z + dg2 b2 b4 b6 X Z * dG b2 b4 b6 X Z) := by
  unfold dD df2 dF dg2 dG; grind
theorem bd_add {a b : Int} {m n : Nat} (h : a.natAbs ≤ m) (h' : b.natAbs ≤ n) : (a + b).natAbs ≤ m + n := by omega
theorem bd_sub {a b : Int} {m n : Nat} (h : a.natAbs ≤ m) (h' : b.natAbs ≤ n) : (a - b).natAbs ≤ m + n := by omega
theorem bd_mul {a b : Int} {m n : Nat} (h : a.natAbs ≤ m) (h' : b.natAbs ≤ n) : (a * b).natAbs ≤ m * n := by rw [Int.natAbs_mul]; exact Nat.mul_le_mul h h'
theorem d_bF {b4 b6 b8 X Z : Int} {H : Nat} (h4 : b4.natAbs ≤ 10001000000) (h6 : b6.natAbs ≤ 10001000000) (h8 : b8.natAbs ≤ 3100000000000000) (hX : X.natAbs ≤ H) (hZ : Z.natAbs ≤ H) : (dF b4 b6 b8 X Z).natAbs ≤ 3200000000000000 * (H * H * H * H) := by
  unfold dF
  refine Nat.le_trans (bd_sub (bd_sub (bd_sub (bd_mul (bd_mul (bd_mul hX hX) hX) hX) (bd_mul h4 (bd_mul (bd_mul (bd_mul hX hX) hZ) hZ))) (bd_mul (bd_mul (show (2 : Int).natAbs ≤ 2 by decide) h6) (bd_mul (bd_mul (bd_mul hX hZ) hZ) hZ))) (bd_mul h8 (bd_mul (bd_mul (bd_mul hZ hZ) hZ) hZ))) ?_
  generalize H * H * H * H = t
  omega
theorem d_bG {b2 b4 b6 X Z : Int} {H : Nat} (h2 : b2.natAbs ≤ 10001000000) (h4 : b4.natAbs ≤ 10001000000) (h6 : b6.natAbs ≤ 10001000000) (hX : X.natAbs ≤ H) (hZ : Z.natAbs ≤ H) : (dG b2 b4 b6 X Z).natAbs ≤ 3200000000000000 * (H * H * H * H) := by
  unfold dG
  refine Nat.le_trans (bd_add (bd_add (bd_add (bd_mul (show (4 : Int).natAbs ≤ 4 by decide) (bd_mul (bd_mul (bd_mul hX hX) hX) hZ)) (bd_mul h2 (bd_mul (bd_mul (bd_mul hX hX) hZ) hZ))) (bd_mul (bd_mul (show (2 : Int).natAbs ≤ 2 by decide) h4) (bd_mul (bd_mul (bd_mul hX hZ) hZ) hZ))) (bd_mul h6 (bd_mul (bd_mul (bd_mul hZ hZ) hZ) hZ))) ?_
  generalize H * H * H * H = t
  omega
theorem d_bf1 {b2 b4 X Z : Int} {H : Nat} (h2 : b2.natAbs ≤ 10001000000) (h4 : b4.natAbs ≤ 10001000000) (hX : X.natAbs ≤ H) (hZ : Z.natAbs ≤ H) : (df1 b2 b4 X Z).natAbs ≤ 10 ^ 21 * (H * H * H) := by
  unfold df1
  refine Nat.le_trans (bd_sub (bd_sub (bd_mul (bd_sub (bd_mul h2 h2) (bd_mul (show (32 : Int).natAbs ≤ 32 by decide) h4)) (bd_mul (bd_mul hZ hZ) hZ)) (bd_mul (bd_mul (show (8 : Int).natAbs ≤ 8 by decide) h2) (bd_mul (bd_mul hX hZ) hZ))) (bd_mul (show (48 : Int).natAbs ≤ 48 by decide) (bd_mul (bd_mul hX hX) hZ))) ?_
  generalize H * H * H = t
  omega
theorem d_bg1 {b2 b4 b6 X Z : Int} {H : Nat} (h2 : b2.natAbs ≤ 10001000000) (h4 : b4.natAbs ≤ 10001000000) (h6 : b6.natAbs ≤ 10001000000) (hX : X.natAbs ≤ H) (hZ : Z.natAbs ≤ H) : (dg1 b2 b4 b6 X Z).natAbs ≤ 10 ^ 21 * (H * H * H) := by
  unfold dg1
  refine Nat.le_trans (bd_add (bd_sub (bd_sub (bd_mul (bd_sub (bd_mul h2 h4) (bd_mul (show (27 : Int).natAbs ≤ 27 by decide) h6)) (bd_mul (bd_mul hZ hZ) hZ)) (bd_mul (bd_mul (show (10 : Int).natAbs ≤ 10 by decide) h4) (bd_mul (bd_mul hX hZ) hZ))) (bd_mul h2 (bd_mul (bd_mul hX hX) hZ))) (bd_mul (show (12 : Int).natAbs ≤ 12 by decide) (bd_mul (bd_mul hX hX) hX))) ?_
  generalize H * H * H = t
  omega
theorem d_bf2 {b2 b4 b6 X Z : Int} {H : Nat} (h2 : b2.natAbs ≤ 10001000000) (h4 : b4.natAbs ≤ 10001000000) (h6 : b6.natAbs ≤ 10001000000) (hX : X.natAbs ≤ H) (hZ : Z.natAbs ≤ H) : (df2 b2 b4 b6 X Z).natAbs ≤ 10 ^ 44 * (H * H * H) := by
  unfold df2
  refine Nat.le_trans (bd_sub (bd_add (bd_sub (bd_mul (bd_mul (bd_mul (show (24 : Int).natAbs ≤ 24 by decide) h6) (bd_sub (bd_sub (bd_mul (bd_mul h2 h4) h6) (bd_mul (bd_mul h4 h4) h4)) (bd_mul (show (4 : Int).natAbs ≤ 4 by decide) (bd_mul h6 h6)))) (bd_mul (bd_mul hZ hZ) hZ)) (bd_mul (bd_mul (show (4 : Int).natAbs ≤ 4 by decide) (bd_add (bd_add (bd_sub (bd_mul (bd_mul (bd_mul h2 h2) h6) h6) (bd_mul (show (13 : Int).natAbs ≤ 13 by decide) (bd_mul (bd_mul (bd_mul h2 h4) h4) h6))) (bd_mul (show (12 : Int).natAbs ≤ 12 by decide) (bd_mul (bd_mul (bd_mul h4 h4) h4) h4))) (bd_mul (show (44 : Int).natAbs ≤ 44 by decide) (bd_mul (bd_mul h4 h6) h6)))) (bd_mul (bd_mul hX hZ) hZ))) (bd_mul (bd_mul (show (16 : Int).natAbs ≤ 16 by decide) (bd_add (bd_sub (bd_sub (bd_mul (bd_mul (bd_mul h2 h2) h4) h6) (bd_mul (bd_mul (bd_mul h2 h4) h4) h4)) (bd_mul (show (5 : Int).natAbs ≤ 5 by decide) (bd_mul (bd_mul h2 h6) h6))) (bd_mul (bd_mul h4 h4) h6))) (bd_mul (bd_mul hX hX) hZ))) (bd_mul (bd_mul (show (4 : Int).natAbs ≤ 4 by decide) (bd_add (bd_add (bd_sub (bd_sub (bd_mul (bd_mul (bd_mul h2 h2) h2) h6) (bd_mul (bd_mul (bd_mul h2 h2) h4) h4)) (bd_mul (show (36 : Int).natAbs ≤ 36 by decide) (bd_mul (bd_mul h2 h4) h6))) (bd_mul (show (32 : Int).natAbs ≤ 32 by decide) (bd_mul (bd_mul h4 h4) h4))) (bd_mul (show (108 : Int).natAbs ≤ 108 by decide) (bd_mul h6 h6)))) (bd_mul (bd_mul hX hX) hX))) ?_
  generalize H * H * H = t
  omega
theorem d_bg2 {b2 b4 b6 X Z : Int} {H : Nat} (h2 : b2.natAbs ≤ 10001000000) (h4 : b4.natAbs ≤ 10001000000) (h6 : b6.natAbs ≤ 10001000000) (hX : X.natAbs ≤ H) (hZ : Z.natAbs ≤ H) : (dg2 b2 b4 b6 X Z).natAbs ≤ 29 * 10 ^ 50 * (H * H * H) := by
  unfold dg2
  refine Nat.le_trans (bd_sub (bd_sub (bd_sub (bd_mul (bd_mul (bd_mul (show (6 : Int).natAbs ≤ 6 by decide) (bd_sub (bd_mul h2 h6) (bd_mul h4 h4))) (bd_sub (bd_sub (bd_mul (bd_mul h2 h4) h6) (bd_mul (bd_mul h4 h4) h4)) (bd_mul (show (4 : Int).natAbs ≤ 4 by decide) (bd_mul h6 h6)))) (bd_mul (bd_mul hZ hZ) hZ)) (bd_mul (bd_add (bd_add (bd_sub (bd_add (bd_sub (bd_mul (bd_mul (bd_mul (bd_mul h2 h2) h2) h6) h6) (bd_mul (show (2 : Int).natAbs ≤ 2 by decide) (bd_mul (bd_mul (bd_mul (bd_mul h2 h2) h4) h4) h6))) (bd_mul (bd_mul (bd_mul (bd_mul h2 h4) h4) h4) h4)) (bd_mul (show (52 : Int).natAbs ≤ 52 by decide) (bd_mul (bd_mul (bd_mul h2 h4) h6) h6))) (bd_mul (show (52 : Int).natAbs ≤ 52 by decide) (bd_mul (bd_mul (bd_mul h4 h4) h4) h6))) (bd_mul (show (192 : Int).natAbs ≤ 192 by decide) (bd_mul (bd_mul h6 h6) h6))) (bd_mul (bd_mul hX hZ) hZ))) (bd_mul (bd_mul (show (4 : Int).natAbs ≤ 4 by decide) (bd_add (bd_add (bd_sub (bd_mul (bd_mul (bd_mul h2 h2) h6) h6) (bd_mul (show (6 : Int).natAbs ≤ 6 by decide) (bd_mul (bd_mul (bd_mul h2 h4) h4) h6))) (bd_mul (show (5 : Int).natAbs ≤ 5 by decide) (bd_mul (bd_mul (bd_mul h4 h4) h4) h4))) (bd_mul (show (16 : Int).natAbs ≤ 16 by decide) (bd_mul (bd_mul h4 h6) h6)))) (bd_mul (bd_mul hX hX) hZ))) (bd_mul (bd_mul (show (4 : Int).natAbs ≤ 4 by decide) (bd_add (bd_sub (bd_sub (bd_mul (bd_mul (bd_mul h2 h2) h4) h6) (bd_mul (bd_mul (bd_mul h2 h4) h4) h4)) (bd_mul (show (5 : Int).natAbs ≤ 5 by decide) (bd_mul (bd_mul h2 h6) h6))) (bd_mul (bd_mul h4 h4) h6))) (bd_mul (bd_mul hX hX) hX))) ?_
  generalize H * H * H = t
  omega
theorem d_cop {k D X Z : Nat} (hc : Nat.gcd X Z = 1) (h1 : k ∣ D * (X * X * X * X * X * X * X)) (h2 : k ∣ D * (Z * Z * Z * Z * Z * Z * Z)) : k ∣ D := by
  have e1 : X * X * X * X * X * X * X = X ^ 7 := by grind
  have e2 : Z * Z * Z * Z * Z * Z * Z = Z ^ 7 := by grind
  rw [e1] at h1
  rw [e2] at h2
  have h3 := Nat.dvd_gcd h1 h2
  rw [Nat.gcd_mul_left] at h3
  have h4 : Nat.gcd (X ^ 7) (Z ^ 7) = 1 := Nat.Coprime.pow 7 7 hc
  rwa [h4, Nat.mul_one] at h3
theorem d_max {X Z : Int} : X.natAbs ≤ max X.natAbs Z.natAbs ∧ Z.natAbs ≤ max X.natAbs Z.natAbs := ⟨Nat.le_max_left _ _, Nat.le_max_right _ _⟩
theorem d_ab7 (a : Int) : (a * a * a * a * a * a * a).natAbs = a.natAbs * a.natAbs * a.natAbs * a.natAbs * a.natAbs * a.natAbs * a.natAbs := by simp only [Int.natAbs_mul]
theorem d_cut {H W K : Nat} (hH : 0 < H) (h : H * H * H * H * H * H * H ≤ K * (H * H * H) * W) : H * H * H * H ≤ K * W := by
  have e1 : H * H * H * H * H * H * H = (H * H * H) * (H * H * H * H) := by grind
  have e2 : K * (H * H * H) * W = (H * H * H) * (K * W) := by grind
  rw [e1, e2] at h
  exact Nat.le_of_mul_le_mul_left h (Nat.mul_pos (Nat.mul_pos hH hH) hH)
/-- doubling and heights -/
theorem d_k {b2 b4 b6 b8 X Z X' Z' k : Int} (h8 : 4 * b8 = b2 * b6 - b4 * b4) (l2 : b2.natAbs ≤ 10001000000) (l4 : b4.natAbs ≤ 10001000000) (l6 : b6.natAbs ≤ 10001000000) (l8 : b8.natAbs ≤ 3100000000000000) (hD : dD b2 b4 b6 b8 ≠ 0) (hc : Int.gcd X Z = 1) (hF : dF b4 b6 b8 X Z = k * X') (hG : dG b2 b4 b6 X Z = k * Z') {H H' : Nat} (eH : H = max X.natAbs Z.natAbs) (eH' : H' = max X'.natAbs Z'.natAbs) : k ≠ 0 ∧ H * H * H * H ≤ 10 ^ 52 * H' ∧ H' ≤ 10 ^ 16 * (H * H * H * H) := by
  have i1 := d_id1 (X := X) (Z := Z) h8
  have i2 := d_id2 (X := X) (Z := Z) h8
  rw [hF, hG] at i1 i2
  have j1 : dD b2 b4 b6 b8 * (Z * Z * Z * Z * Z * Z * Z) = k * (df1 b2 b4 X Z * X' + dg1 b2 b4 b6 X Z * Z') := by grind
  have j2 : 16 * dD b2 b4 b6 b8 * (X * X * X * X * X * X * X) = k * (df2 b2 b4 b6 X Z * X' + dg2 b2 b4 b6 X Z * Z') := by grind
  have bX : X.natAbs ≤ H := eH ▸ d_max.1
  have bZ : Z.natAbs ≤ H := eH ▸ d_max.2
  have bX' : X'.natAbs ≤ H' := eH' ▸ d_max.1
  have bZ' : Z'.natAbs ≤ H' := eH' ▸ d_max.2
  have hH : 0 < H := by
    rcases Nat.eq_zero_or_pos H with h | h
    · rw [h] at bX bZ
      have x0 : X = 0 := by omega
      have z0 : Z = 0 := by omega
      rw [x0, z0] at hc
      exact absurd hc (by decide)
    · exact h
  have m1 : (df1 b2 b4 X Z * X' + dg1 b2 b4 b6 X Z * Z').natAbs ≤ 2 * 10 ^ 21 * (H * H * H) * H' := by
    refine Nat.le_trans (bd_add (bd_mul (d_bf1 l2 l4 bX bZ) bX') (bd_mul (d_bg1 l2 l4 l6 bX bZ) bZ')) (Nat.le_of_eq ?_)
    generalize H * H * H = t; grind
  have m2 : (df2 b2 b4 b6 X Z * X' + dg2 b2 b4 b6 X Z * Z').natAbs ≤ 3 * 10 ^ 51 * (H * H * H) * H' := by
    refine Nat.le_trans (bd_add (bd_mul (d_bf2 l2 l4 l6 bX bZ) bX') (bd_mul (d_bg2 l2 l4 l6 bX bZ) bZ')) ?_
    rw [← Nat.add_mul]
    exact Nat.mul_le_mul_right _ (by generalize H * H * H = t; omega)
  generalize df1 b2 b4 X Z * X' + dg1 b2 b4 b6 X Z * Z' = u1 at *
  generalize df2 b2 b4 b6 X Z * X' + dg2 b2 b4 b6 X Z * Z' = u2 at *
  have bF := d_bF l4 l6 l8 bX bZ
  have bG := d_bG l2 l4 l6 bX bZ
  rw [hF, Int.natAbs_mul] at bF
  rw [hG, Int.natAbs_mul] at bG
  generalize dD b2 b4 b6 b8 = D at *
  have n1 := congrArg Int.natAbs j1
  have n2 := congrArg Int.natAbs j2
  simp only [Int.natAbs_mul] at n1 n2
  rw [show (16 : Int).natAbs = 16 from rfl] at n2
  have hD' : 0 < D.natAbs := by omega
  have hk0 : k.natAbs ∣ 16 * D.natAbs := by
    refine d_cop (X := X.natAbs) (Z := Z.natAbs) hc ⟨u2.natAbs, n2⟩ ⟨16 * u1.natAbs, ?_⟩
    rw [Nat.mul_assoc, n1]; grind
  have hk1 : k.natAbs ≤ 16 * D.natAbs := Nat.le_of_dvd (by omega) hk0
  have hk2 : k ≠ 0 := by
    intro h0
    rw [h0] at hk0
    have := Nat.eq_zero_of_zero_dvd hk0
    omega
  refine ⟨hk2, ?_, ?_⟩
  · rcases Nat.le_total Z.natAbs X.natAbs with h | h
    · have eX : X.natAbs = H := by rw [eH]; exact (Nat.max_eq_left h).symm
      rw [eX] at n2
      have : 16 * D.natAbs * (H * H * H * H * H * H * H) ≤ 16 * D.natAbs * (3 * 10 ^ 51 * (H * H * H) * H') := by
        rw [n2]; exact Nat.mul_le_mul hk1 m2
      have := d_cut hH (Nat.le_of_mul_le_mul_left this (by omega))
      generalize H * H * H * H = t at *
      omega
    · have eZ : Z.natAbs = H := by rw [eH]; exact (Nat.max_eq_right h).symm
      rw [eZ] at n1
      have : D.natAbs * (H * H * H * H * H * H * H) ≤ D.natAbs * (32 * 10 ^ 21 * (H * H * H) * H') := by
        rw [n1]
        refine Nat.le_trans (Nat.mul_le_mul hk1 m1) (Nat.le_of_eq ?_)
        generalize H * H * H = t; grind
      have := d_cut hH (Nat.le_of_mul_le_mul_left this (by omega))
      generalize H * H * H * H = t at *
      omega
  · have hk3 : 1 ≤ k.natAbs := by omega
    have q1 : X'.natAbs ≤ 3200000000000000 * (H * H * H * H) := Nat.le_trans (by have := Nat.mul_le_mul_right X'.natAbs hk3; omega) bF
    have q2 : Z'.natAbs ≤ 3200000000000000 * (H * H * H * H) := Nat.le_trans (by have := Nat.mul_le_mul_right Z'.natAbs hk3; omega) bG
    rw [eH']
    generalize H * H * H * H = t at *
    omega
theorem q_num (x : Rat) : x * (((x.den : Int)) : Rat) = (x.num : Rat) ∧ (((x.den : Int)) : Rat) ≠ 0 := by
  have h : Rat.divInt x.num x.den = x := Rat.num_divInt_den x
  have hd : (((x.den : Int)) : Rat) ≠ 0 := by
    have := x.den_nz
    intro h
    have := Rat.intCast_eq_zero_iff.1 h
    omega
  have h2 : (x.num : Rat) / ((x.den : Int) : Rat) = x := by rw [← Rat.divInt_eq_div]; exact h
  exact ⟨by grind, hd⟩
/-- a fraction, and its lowest terms -/
theorem frac_k {F G X Z : Int} (hc : Int.gcd X Z = 1) (h : F * Z = G * X) : ∃ k : Int, F = k * X ∧ G = k * Z := by
  by_cases hX : X = 0
  · subst hX
    have hZ : Z.natAbs = 1 := by simpa using hc
    have : Z = 1 ∨ Z = -1 := by omega
    rcases this with h1 | h1
    · subst h1; exact ⟨G, by omega, by omega⟩
    · subst h1; exact ⟨-G, by omega, by omega⟩
  · have h1 : X.natAbs ∣ F.natAbs * Z.natAbs := ⟨G.natAbs, by rw [← Int.natAbs_mul, h, Int.natAbs_mul, Nat.mul_comm]⟩
    have h2 : X.natAbs ∣ F.natAbs := Nat.Coprime.dvd_of_dvd_mul_right hc h1
    obtain ⟨k, hk⟩ := Int.natAbs_dvd_natAbs.1 h2
    refine ⟨k, by rw [hk, Int.mul_comm], ?_⟩
    subst hk
    have : X * (k * Z) = X * G := by grind
    exact (Int.eq_of_mul_eq_mul_left hX this).symm
/-- two fractions, by their sum and product -/
theorem frac2_cop {p1 q1 p2 q2 g : Nat} (s : Int) (h1 : Nat.gcd p1 q1 = 1) (h2 : Nat.gcd p2 q2 = 1) (hs : s = p1 * q2 + p2 * q1 ∨ s = p1 * q2 - p2 * q1) (d1 : g ∣ q1 * q2) (d2 : g ∣ p1 * p2) (d3 : (g : Int) ∣ s) : g = 1 := by
  have a1 : (g : Int) ∣ (p1 : Int) * q2 * ((p1 : Int) * q2) := by
    obtain ⟨c, hc⟩ := d3
    obtain ⟨d, hd⟩ := d2
    have hd' : (p1 : Int) * p2 = g * d := by rw [← Int.natCast_mul, hd, Int.natCast_mul]
    rcases hs with hs | hs
    · exact ⟨p1 * q2 * c - d * q1 * q2, by grind⟩
    · exact ⟨p1 * q2 * c + d * q1 * q2, by grind⟩
  have a2 : (g : Int) ∣ (p2 : Int) * q1 * ((p2 : Int) * q1) := by
    obtain ⟨c, hc⟩ := d3
    obtain ⟨d, hd⟩ := d2
    have hd' : (p1 : Int) * p2 = g * d := by rw [← Int.natCast_mul, hd, Int.natCast_mul]
    rcases hs with hs | hs
    · exact ⟨p2 * q1 * c - d * q1 * q2, by grind⟩
    · exact ⟨d * q1 * q2 - p2 * q1 * c, by grind⟩
  have b1 : g ∣ p1 * q2 * (p1 * q2) := by
    have := a1; rw [← Int.natCast_mul, ← Int.natCast_mul] at this; exact Int.natCast_dvd_natCast.1 this
  have b2 : g ∣ p2 * q1 * (p2 * q1) := by
    have := a2; rw [← Int.natCast_mul, ← Int.natCast_mul] at this; exact Int.natCast_dvd_natCast.1 this
  have c1 : Nat.gcd (p1 ^ 2) (q1 ^ 2) = 1 := Nat.Coprime.pow 2 2 h1
  have c2 : Nat.gcd (p2 ^ 2) (q2 ^ 2) = 1 := Nat.Coprime.pow 2 2 h2
  have e1 : g ∣ q2 ^ 2 * p1 ^ 2 := by have e : q2 ^ 2 * p1 ^ 2 = p1 * q2 * (p1 * q2) := by grind
                                      rw [e]; exact b1
  have e2 : g ∣ q2 ^ 2 * q1 ^ 2 := by have e : q2 ^ 2 * q1 ^ 2 = (q1 * q2) * (q1 * q2) := by grind
                                      rw [e]; exact Nat.dvd_trans d1 (Nat.dvd_mul_left _ _)
  have e3 : g ∣ p2 ^ 2 * p1 ^ 2 := by have e : p2 ^ 2 * p1 ^ 2 = (p1 * p2) * (p1 * p2) := by grind
                                      rw [e]; exact Nat.dvd_trans d2 (Nat.dvd_mul_left _ _)
  have e4 : g ∣ p2 ^ 2 * q1 ^ 2 := by have e : p2 ^ 2 * q1 ^ 2 = p2 * q1 * (p2 * q1) := by grind
                                      rw [e]; exact b2
  have f1 := Nat.dvd_gcd e1 e2
  rw [Nat.gcd_mul_left, c1, Nat.mul_one] at f1
  have f2 := Nat.dvd_gcd e3 e4
  rw [Nat.gcd_mul_left, c1, Nat.mul_one] at f2
  have f3 := Nat.dvd_gcd f2 f1
  rw [c2] at f3
  exact Nat.eq_one_of_dvd_one f3
theorem frac2_k {p1 q1 p2 q2 D S M : Int} (h1 : Int.gcd p1 q1 = 1) (h2 : Int.gcd p2 q2 = 1) (hq : q1 * q2 ≠ 0) (hS : D * (p1 * q2 + p2 * q1) = S * (q1 * q2)) (hM : D * (p1 * p2) = M * (q1 * q2)) : ∃ k : Int, D = k * (q1 * q2) ∧ S = k * (p1 * q2 + p2 * q1) ∧ M = k * (p1 * p2) := by
  -- g: what q1 q2 shares with D; c: the rest of q1 q2
  have hdv : (q1 * q2).natAbs ∣ D.natAbs := by
    have g1 : (q1 * q2).natAbs ∣ D.natAbs * (p1 * q2 + p2 * q1).natAbs := ⟨S.natAbs, by rw [← Int.natAbs_mul, hS, Int.natAbs_mul, Nat.mul_comm]⟩
    have g2 : (q1 * q2).natAbs ∣ D.natAbs * (p1 * p2).natAbs := ⟨M.natAbs, by rw [← Int.natAbs_mul, hM, Int.natAbs_mul, Nat.mul_comm]⟩
    have g3 : (q1 * q2).natAbs ∣ D.natAbs * (q1 * q2).natAbs := Nat.dvd_mul_left _ _
    have g4 := Nat.dvd_gcd (Nat.dvd_gcd g1 g2) g3
    rw [Nat.gcd_mul_left, Nat.gcd_mul_left] at g4
    have e : Nat.gcd (Nat.gcd (p1 * q2 + p2 * q1).natAbs (p1 * p2).natAbs) (q1 * q2).natAbs = 1 := by
      generalize hg : Nat.gcd (Nat.gcd (p1 * q2 + p2 * q1).natAbs (p1 * p2).natAbs) (q1 * q2).natAbs = g
      have d1 : g ∣ q1.natAbs * q2.natAbs := by rw [← Int.natAbs_mul, ← hg]; exact Nat.gcd_dvd_right _ _
      have d2 : g ∣ p1.natAbs * p2.natAbs := by rw [← Int.natAbs_mul, ← hg]; exact Nat.dvd_trans (Nat.gcd_dvd_left _ _) (Nat.gcd_dvd_right _ _)
      have d3 : (g : Int) ∣ p1 * q2 + p2 * q1 := by rw [← hg]; exact Int.ofNat_dvd_left.2 (Nat.dvd_trans (Nat.gcd_dvd_left _ _) (Nat.gcd_dvd_left _ _))
      -- signs
      have sg : ∀ v : Int, v = v.natAbs ∨ v = -(v.natAbs : Int) := fun v => by omega
      have key : ∃ s : Int, (s = p1.natAbs * q2.natAbs + p2.natAbs * q1.natAbs ∨ s = p1.natAbs * q2.natAbs - p2.natAbs * q1.natAbs) ∧ (s = p1 * q2 + p2 * q1 ∨ s = -(p1 * q2 + p2 * q1)) := by
        have a1 := sg (p1 * q2)
        have a2 := sg (p2 * q1)
        rw [Int.natAbs_mul, Int.natCast_mul] at a1 a2
        generalize (p1.natAbs : Int) * q2.natAbs = u at *
        generalize (p2.natAbs : Int) * q1.natAbs = w at *
        generalize p1 * q2 = u' at *
        generalize p2 * q1 = w' at *
        rcases a1 with a1 | a1 <;> rcases a2 with a2 | a2
        · exact ⟨u + w, .inl rfl, .inl (by omega)⟩
        · exact ⟨u - w, .inr rfl, .inl (by omega)⟩
        · exact ⟨u - w, .inr rfl, .inr (by omega)⟩
        · exact ⟨u + w, .inl rfl, .inr (by omega)⟩
      obtain ⟨s, k1, k2⟩ := key
      refine frac2_cop s h1 h2 k1 d1 d2 ?_
      rcases k2 with k2 | k2
      · rw [k2]; exact d3
      · rw [k2]; exact Int.dvd_neg.2 d3
    rwa [e, Nat.mul_one] at g4
  obtain ⟨k, hk⟩ := Int.natAbs_dvd_natAbs.1 hdv
  refine ⟨k, by rw [hk, Int.mul_comm], ?_, ?_⟩
  · have : (q1 * q2) * S = (q1 * q2) * (k * (p1 * q2 + p2 * q1)) := by rw [hk] at hS; grind
    exact Int.eq_of_mul_eq_mul_left hq this
  · have : (q1 * q2) * M = (q1 * q2) * (k * (p1 * p2)) := by rw [hk] at hM; grind
    exact Int.eq_of_mul_eq_mul_left hq this
/-- heights of two by their sum and product -/
theorem frac2_h {p1 q1 p2 q2 D S M k : Int} {K : Nat} (hk : k ≠ 0) (hD : D = k * (q1 * q2)) (hS : S = k * (p1 * q2 + p2 * q1)) (hM : M = k * (p1 * p2)) (bD : D.natAbs ≤ K) (bS : S.natAbs ≤ K) (bM : M.natAbs ≤ K) : max p1.natAbs q1.natAbs * max p2.natAbs q2.natAbs ≤ 2 * K := by
  have hk1 : 1 ≤ k.natAbs := by omega
  have cut : ∀ v : Int, (k * v).natAbs ≤ K → v.natAbs ≤ K := fun v h => by
    rw [Int.natAbs_mul] at h
    have := Nat.mul_le_mul_right v.natAbs hk1
    omega
  have c1 := cut _ (hD ▸ bD)
  have c2 := cut _ (hS ▸ bS)
  have c3 := cut _ (hM ▸ bM)
  have pr : (p1 * q2).natAbs * (p2 * q1).natAbs ≤ K * K := by
    have := Nat.mul_le_mul c3 c1
    rw [← Int.natAbs_mul] at this ⊢
    have e : p1 * q2 * (p2 * q1) = p1 * p2 * (q1 * q2) := by grind
    rw [e]; exact this
  have mn : (p1 * q2).natAbs ≤ K ∨ (p2 * q1).natAbs ≤ K := by
    rcases Nat.lt_or_ge K (p1 * q2).natAbs with h | h
    · rcases Nat.lt_or_ge K (p2 * q1).natAbs with h' | h'
      · have := Nat.mul_lt_mul'' h h'
        omega
      · exact .inr h'
    · exact .inl h
  have r1 : (p1 * q2).natAbs ≤ 2 * K ∧ (p2 * q1).natAbs ≤ 2 * K := by omega
  rw [Int.natAbs_mul] at c1 c3
  rw [Int.natAbs_mul, Int.natAbs_mul] at r1
  rcases Nat.le_total p1.natAbs q1.natAbs with h | h <;> rcases Nat.le_total p2.natAbs q2.natAbs with h' | h'
  · rw [Nat.max_eq_right h, Nat.max_eq_right h']; omega
  · rw [Nat.max_eq_right h, Nat.max_eq_left h', Nat.mul_comm]; omega
  · rw [Nat.max_eq_left h, Nat.max_eq_right h']; omega
  · rw [Nat.max_eq_left h, Nat.max_eq_left h']; omega
/-- the point as a fraction, O as 1 / 0 -/
def qX : qP → Int
  | none => 1
  | some (x, _) => x.num
def qZ : qP → Int
  | none => 0
  | some (x, _) => x.den
def qH (P : qP) : Nat := max (qX P).natAbs (qZ P).natAbs
theorem q_cop (P : qP) : Int.gcd (qX P) (qZ P) = 1 := by
  match P with
  | none => rfl
  | some (x, y) => exact x.reduced
abbrev ecE := Int × Int × Int × Int × Int
def toE (A : ecE) : qE := ⟨A.1, A.2.1, A.2.2.1, A.2.2.2.1, A.2.2.2.2⟩
abbrev eb2 (A : ecE) : Int := A.1 * A.1 + 4 * A.2.1
abbrev eb4 (A : ecE) : Int := A.1 * A.2.2.1 + 2 * A.2.2.2.1
abbrev eb6 (A : ecE) : Int := A.2.2.1 * A.2.2.1 + 4 * A.2.2.2.2
abbrev eb8 (A : ecE) : Int := A.1 * A.1 * A.2.2.2.2 - A.1 * A.2.2.1 * A.2.2.2.1 + 4 * A.2.1 * A.2.2.2.2 + A.2.1 * A.2.2.1 * A.2.2.1 - A.2.2.2.1 * A.2.2.2.1
theorem eb_8 (A : ecE) : 4 * eb8 A = eb2 A * eb6 A - eb4 A * eb4 A := by grind
/-- doubling, over the rationals -/
theorem q_dbl_x {E : qE} {x y l : Rat} (h : qon E x y) (hl : qn E x y = l * qd E x y) (hd : qd E x y ≠ 0) : qx E l x x * (4 * x * x * x + (E.1 * E.1 + 4 * E.2.1) * x * x + 2 * (E.1 * E.2.2.1 + 2 * E.2.2.2.1) * x + (E.2.2.1 * E.2.2.1 + 4 * E.2.2.2.2)) = x * x * x * x - (E.1 * E.2.2.1 + 2 * E.2.2.2.1) * x * x - 2 * (E.2.2.1 * E.2.2.1 + 4 * E.2.2.2.2) * x - (E.1 * E.1 * E.2.2.2.2 - E.1 * E.2.2.1 * E.2.2.2.1 + 4 * E.2.1 * E.2.2.2.2 + E.2.1 * E.2.2.1 * E.2.2.1 - E.2.2.2.1 * E.2.2.2.1) := by
  have e : 4 * x * x * x + (E.1 * E.1 + 4 * E.2.1) * x * x + 2 * (E.1 * E.2.2.1 + 2 * E.2.2.2.1) * x + (E.2.2.1 * E.2.2.1 + 4 * E.2.2.2.2) = qd E x y * qd E x y := by unfold qd qon at *; grind
  rw [e]
  have e2 : qx E l x x * (qd E x y * qd E x y) = qn E x y * qn E x y + E.1 * qn E x y * qd E x y - (E.2.1 + x + x) * (qd E x y * qd E x y) := by rw [hl]; unfold qx; grind
  rw [e2]
  unfold qd qn qon at *; grind
theorem q_dbl_0 {E : qE} {x y : Rat} (h : qon E x y) (hd : qd E x y = 0) : 4 * x * x * x + (E.1 * E.1 + 4 * E.2.1) * x * x + 2 * (E.1 * E.2.2.1 + 2 * E.2.2.2.1) * x + (E.2.2.1 * E.2.2.1 + 4 * E.2.2.2.2) = 0 := by
  unfold qd qon at *; grind
/-- sum and product of the two chords' x -/
theorem q_par_s {E : qE} {x1 y1 x2 y2 l l' : Rat} (h1 : qon E x1 y1) (h2 : qon E x2 y2) (hl : y2 = y1 + l * (x2 - x1)) (hl' : -y2 - E.1 * x2 - E.2.2.1 = y1 + l' * (x2 - x1)) : (x1 - x2) * (x1 - x2) * (qx E l x1 x2 + qx E l' x1 x2) = (x1 + x2) * (E.1 * E.2.2.1 + 2 * E.2.2.2.1 + 2 * x1 * x2) + (E.1 * E.1 + 4 * E.2.1) * x1 * x2 + (E.2.2.1 * E.2.2.1 + 4 * E.2.2.2.2) := by
  have e1 : (x1 - x2) * (x1 - x2) * qx E l x1 x2 = (y2 - y1) * (y2 - y1) + E.1 * (y2 - y1) * (x2 - x1) - (E.2.1 + x1 + x2) * ((x1 - x2) * (x1 - x2)) := by unfold qx; grind
  have e2 : (x1 - x2) * (x1 - x2) * qx E l' x1 x2 = (-y2 - E.1 * x2 - E.2.2.1 - y1) * (-y2 - E.1 * x2 - E.2.2.1 - y1) + E.1 * (-y2 - E.1 * x2 - E.2.2.1 - y1) * (x2 - x1) - (E.2.1 + x1 + x2) * ((x1 - x2) * (x1 - x2)) := by unfold qx; grind
  rw [show (x1 - x2) * (x1 - x2) * (qx E l x1 x2 + qx E l' x1 x2) = (x1 - x2) * (x1 - x2) * qx E l x1 x2 + (x1 - x2) * (x1 - x2) * qx E l' x1 x2 by grind, e1, e2]
  unfold qon at *; grind
theorem q_par_m {E : qE} {x1 y1 x2 y2 l l' : Rat} (hx : x1 ≠ x2) (h1 : qon E x1 y1) (h2 : qon E x2 y2) (hl : y2 = y1 + l * (x2 - x1)) (hl' : -y2 - E.1 * x2 - E.2.2.1 = y1 + l' * (x2 - x1)) : (x1 - x2) * (x1 - x2) * (qx E l x1 x2 * qx E l' x1 x2) = x1 * x1 * x2 * x2 - (E.1 * E.2.2.1 + 2 * E.2.2.2.1) * x1 * x2 - (E.2.2.1 * E.2.2.1 + 4 * E.2.2.2.2) * (x1 + x2) - (E.1 * E.1 * E.2.2.2.2 - E.1 * E.2.2.1 * E.2.2.2.1 + 4 * E.2.1 * E.2.2.2.2 + E.2.1 * E.2.2.1 * E.2.2.1 - E.2.2.2.1 * E.2.2.2.1) := by
  have e1 : (x1 - x2) * (x1 - x2) * qx E l x1 x2 = (y2 - y1) * (y2 - y1) + E.1 * (y2 - y1) * (x2 - x1) - (E.2.1 + x1 + x2) * ((x1 - x2) * (x1 - x2)) := by unfold qx; grind
  have e2 : (x1 - x2) * (x1 - x2) * qx E l' x1 x2 = (-y2 - E.1 * x2 - E.2.2.1 - y1) * (-y2 - E.1 * x2 - E.2.2.1 - y1) + E.1 * (-y2 - E.1 * x2 - E.2.2.1 - y1) * (x2 - x1) - (E.2.1 + x1 + x2) * ((x1 - x2) * (x1 - x2)) := by unfold qx; grind
  have hd : (x1 - x2) * (x1 - x2) ≠ 0 := by grind
  have e3 : ((x1 - x2) * (x1 - x2)) * ((x1 - x2) * (x1 - x2) * (qx E l x1 x2 * qx E l' x1 x2) - (x1 * x1 * x2 * x2 - (E.1 * E.2.2.1 + 2 * E.2.2.2.1) * x1 * x2 - (E.2.2.1 * E.2.2.1 + 4 * E.2.2.2.2) * (x1 + x2) - (E.1 * E.1 * E.2.2.2.2 - E.1 * E.2.2.1 * E.2.2.2.1 + 4 * E.2.1 * E.2.2.2.2 + E.2.1 * E.2.2.1 * E.2.2.1 - E.2.2.2.1 * E.2.2.2.1))) = 0 := by
    have : ((x1 - x2) * (x1 - x2)) * ((x1 - x2) * (x1 - x2) * (qx E l x1 x2 * qx E l' x1 x2)) = ((x1 - x2) * (x1 - x2) * qx E l x1 x2) * ((x1 - x2) * (x1 - x2) * qx E l' x1 x2) := by grind
    rw [show ∀ a b c : Rat, a * (b - c) = a * b - a * c by intro a b c; grind, this, e1, e2]
    unfold qon at *
    clear hl hl' e1 e2 this hd hx
    grind
  have z : ∀ a b c : Rat, a ≠ 0 → a * (b - c) = 0 → b = c := by intro a b c h h'; grind
  exact z _ _ _ hd e3
