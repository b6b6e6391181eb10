/-! points of the program, as numbers -/
def PV (U : Nat → Int) (o : Nat) (x y z : Int) : Prop := U (o + 1) = x ∧ U (o + 3) = y ∧ U (o + 5) = z ∧ U (o + 7) = z * z ∧ U (o + 9) = z * z * z
def PB (x y z : Int) : Prop := lt9 x 18 ∧ lt9 y 28 ∧ lt9 z 9 ∧ lt9 (z * z) 18 ∧ lt9 (z * z * z) 27
theorem PB.mk' {x y z : Int} (h1 : lt9 x 18) (h2 : lt9 y 28) (h3 : lt9 z 9) : PB x y z := by
  have a := lt9_mul h3 h3
  have b := lt9_mul a h3
  exact ⟨h1, h2, h3, a, b⟩
def EQ (U : Nat → Int) (A : ecE) : Prop := U 19 = A.1 ∧ U 21 = A.2.1 ∧ U 23 = A.2.2.1 ∧ U 25 = A.2.2.2.1 ∧ U 27 = A.2.2.2.2 ∧ U 29 = 2 * A.2.1 ∧ U 31 = 2 * A.2.2.2.2 ∧ U 33 = eb4 A ∧ U 35 = 2 * eb6 A ∧ U 37 = eb8 A
theorem lt9_n {v : Int} {n m : Nat} (h : v.natAbs ≤ n) (hn : (n : Int) < BS ^ m) : lt9 v m := by
  show (v.natAbs : Int) < BS ^ m
  exact Int.lt_of_le_of_lt (Int.ofNat_le.2 h) hn
theorem ecOk.bq {A : ecE} (h : ecOk A) : lt9 A.1 1 ∧ lt9 A.2.1 1 ∧ lt9 A.2.2.1 1 ∧ lt9 A.2.2.2.1 1 ∧ lt9 A.2.2.2.2 1 ∧ lt9 (2 * A.2.1) 1 ∧ lt9 (2 * A.2.2.2.2) 1 ∧ lt9 (eb4 A) 2 ∧ lt9 (2 * eb6 A) 2 ∧ lt9 (eb8 A) 2 := by
  have l2 := h.l2
  have l6 := h.l6
  have b6 := h.b6
  refine ⟨lt9_n h.l1 (by decide), lt9_n h.l2 (by decide), lt9_n h.l3 (by decide), lt9_n h.l4 (by decide), lt9_n h.l6 (by decide), lt9_n (n := 199998) (by omega) (by decide), lt9_n (n := 199998) (by omega) (by decide), lt9_n h.b4 (by decide), lt9_n (n := 20002000000) ?_ (by decide), lt9_n h.b8 (by decide)⟩
  rw [Int.natAbs_mul]
  exact Nat.mul_le_mul (show (2 : Int).natAbs ≤ 2 by decide) b6
theorem isP_75 {o : Nat} (h : isP o = true) : 75 ≤ o := by
  have h1 := (isP_lt h).1
  have key : ∀ k : Nat, k < 187 → isP k = true → 75 ≤ k := by decide +kernel
  exact key o h1 h
theorem nR_P {o : Nat} (h : isP o = true) : ∀ i : Nat, i < 11 → nR (o + i) = 30 := by
  intro i hi
  have h1 := isP_75 h
  unfold nR
  rw [show (o + i == 10) = false by rw [beq_eq_false_iff_ne]; omega]
  have hh : ∀ m : Nat, m < 75 → Nat.ble (o + i) m = false := fun m hm => by
    cases hb : Nat.ble (o + i) m with
    | false => rfl
    | true => have := Nat.le_of_ble_eq_true hb; omega
  rw [hh 37 (by decide), hh 73 (by decide)]
  have : Nat.ble 75 (o + i) = true := Nat.ble_eq_true_of_le (by omega)
  rw [this]
  simp
theorem isP_far {o p : Nat} (h : isP o = true) (h' : isP p = true) (hn : o ≠ p) : o + 11 ≤ p ∨ p + 11 ≤ o := by
  have key : ∀ k : Nat, k < 187 → isP k = true → (k % 11 = 9 ∧ k < 98) ∨ (k % 11 = 10 ∧ 109 ≤ k) := by decide +kernel
  have h1 := key o (isP_lt h).1 h
  have h2 := key p (isP_lt h').1 h'
  omega
