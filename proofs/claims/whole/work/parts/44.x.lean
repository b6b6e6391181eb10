/-! THE PROGRAM: its object at the address a, all that its constructor makes behind it, by offsets. -/
def isP (j : Nat) : Bool := (Nat.ble 75 j && Nat.ble j 107 && (j - 75) % 11 == 0) || (Nat.ble 109 j && Nat.ble j 196 && (j - 109) % 11 == 0)
/-- where numbers lie -/
def isN (j : Nat) : Bool := j == 5 || j == 8 || j == 10 || j == 12 || j == 14 || j == 16 || (Nat.ble 19 j && Nat.ble j 37 && j % 2 == 1) || (Nat.ble 40 j && Nat.ble j 58 && j % 2 == 0) || (Nat.ble 61 j && Nat.ble j 73 && j % 2 == 1) || (Nat.ble 75 j && Nat.ble j 107 && (j - 75) % 11 % 2 == 1) || (Nat.ble 109 j && Nat.ble j 196 && (j - 109) % 11 % 2 == 1)
/-- how many limbs they have room for -/
def nR (j : Nat) : Nat := bif j == 10 || (Nat.ble 19 j && Nat.ble j 37) then 3 else bif Nat.ble 61 j && Nat.ble j 73 then 16 else bif Nat.ble 75 j then 30 else 112
theorem nR_le (j : Nat) : 3 ≤ nR j ∧ nR j ≤ 112 := by
  unfold nR
  cases (j == 10 || (Nat.ble 19 j && Nat.ble j 37)) <;> cases (Nat.ble 61 j && Nat.ble j 73) <;> cases (Nat.ble 75 j) <;> decide
abbrev xF : Type := (Nat → Int) × Int × Nat × Nat × Nat
abbrev xF.nn (F : xF) : Nat → Int := F.1
abbrev xF.lost (F : xF) : Int := F.2.1
abbrev xF.hi (F : xF) : Nat := F.2.2.1
abbrev xF.lo (F : xF) : Nat := F.2.2.2.1
abbrev xF.re (F : xF) : Nat := F.2.2.2.2
abbrev xS : Type := (Nat → Int → Int) × (Nat → Int) × (Nat → Int) × (Int → Int) × (Int → Int) × (Int → Int) × Int × Int × Int × Int × xF
abbrev xS.C (S : xS) : Nat → Int → Int := S.1
abbrev xS.L (S : xS) : Nat → Int := S.2.1
abbrev xS.B (S : xS) : Nat → Int := S.2.2.1
abbrev xS.r0 (S : xS) : Int → Int := S.2.2.2.1
abbrev xS.r1 (S : xS) : Int → Int := S.2.2.2.2.1
abbrev xS.r2 (S : xS) : Int → Int := S.2.2.2.2.2.1
abbrev xS.m0 (S : xS) : Int := S.2.2.2.2.2.2.1
abbrev xS.m1 (S : xS) : Int := S.2.2.2.2.2.2.2.1
abbrev xS.m2 (S : xS) : Int := S.2.2.2.2.2.2.2.2.1
abbrev xS.m3 (S : xS) : Int := S.2.2.2.2.2.2.2.2.2.1
abbrev xS.f (S : xS) : xF := S.2.2.2.2.2.2.2.2.2.2
abbrev xS.sC (S : xS) (v : Nat → Int → Int) : xS := (v, S.2)
abbrev xS.sL (S : xS) (v : Nat → Int) : xS := (S.1, v, S.2.2)
abbrev xS.sB (S : xS) (v : Nat → Int) : xS := (S.1, S.2.1, v, S.2.2.2)
abbrev xS.s0 (S : xS) (v : Int → Int) : xS := (S.1, S.2.1, S.2.2.1, v, S.2.2.2.2)
abbrev xS.s1 (S : xS) (v : Int → Int) : xS := (S.1, S.2.1, S.2.2.1, S.2.2.2.1, v, S.2.2.2.2.2)
abbrev xS.s2 (S : xS) (v : Int → Int) : xS := (S.1, S.2.1, S.2.2.1, S.2.2.2.1, S.2.2.2.2.1, v, S.2.2.2.2.2.2)
abbrev xS.sm0 (S : xS) (v : Int) : xS := (S.1, S.2.1, S.2.2.1, S.2.2.2.1, S.2.2.2.2.1, S.2.2.2.2.2.1, v, S.2.2.2.2.2.2.2)
abbrev xS.sm1 (S : xS) (v : Int) : xS := (S.1, S.2.1, S.2.2.1, S.2.2.2.1, S.2.2.2.2.1, S.2.2.2.2.2.1, S.2.2.2.2.2.2.1, v, S.2.2.2.2.2.2.2.2)
abbrev xS.sm2 (S : xS) (v : Int) : xS := (S.1, S.2.1, S.2.2.1, S.2.2.2.1, S.2.2.2.2.1, S.2.2.2.2.2.1, S.2.2.2.2.2.2.1, S.2.2.2.2.2.2.2.1, v, S.2.2.2.2.2.2.2.2.2)
abbrev xS.sm3 (S : xS) (v : Int) : xS := (S.1, S.2.1, S.2.2.1, S.2.2.2.1, S.2.2.2.2.1, S.2.2.2.2.2.1, S.2.2.2.2.2.2.1, S.2.2.2.2.2.2.2.1, S.2.2.2.2.2.2.2.2.1, v, S.2.2.2.2.2.2.2.2.2.2)
abbrev xS.sf (S : xS) (v : xF) : xS := (S.1, S.2.1, S.2.2.1, S.2.2.2.1, S.2.2.2.2.1, S.2.2.2.2.2.1, S.2.2.2.2.2.2.1, S.2.2.2.2.2.2.2.1, S.2.2.2.2.2.2.2.2.1, S.2.2.2.2.2.2.2.2.2.1, v)
abbrev xF.snn (F : xF) (v : Nat → Int) : xF := (v, F.2)
abbrev xF.slost (F : xF) (v : Int) : xF := (F.1, v, F.2.2)
abbrev xF.shi (F : xF) (v : Nat) : xF := (F.1, F.2.1, v, F.2.2.2)
abbrev xF.slo (F : xF) (v : Nat) : xF := (F.1, F.2.1, F.2.2.1, v, F.2.2.2.2)
abbrev xF.sre (F : xF) (v : Nat) : xF := (F.1, F.2.1, F.2.2.1, F.2.2.2.1, v)
def nu {α : Type} (f : Nat → α) (k : Nat) (v : α) : Nat → α := fun j => if j = k then v else f j
theorem nu_self {α : Type} (f : Nat → α) (k : Nat) (v : α) : nu f k v k = v := by simp [nu, xS.sL, xS.L, xS.sB, xS.B, xS.sC, xS.C, xS.sf, xS.f, xF.nn, xF.snn]
theorem nu_ne {α : Type} (f : Nat → α) {k j : Nat} (v : α) (h : j ≠ k) : nu f k v j = f j := by simp [nu, h]
theorem nu_id {α : Type} (f : Nat → α) (k : Nat) : nu f k (f k) = f := by
  funext j; unfold nu; by_cases h : j = k <;> simp [h]
theorem nu_nu {α : Type} (f : Nat → α) (k : Nat) (v w : α) : nu (nu f k v) k w = nu f k w := by
  funext j; unfold nu; by_cases h : j = k <;> simp [h]
abbrev oN (a j : Nat) (S : xS) : List Value := [.ref (a + j + 1), .int (jI (S.L j)), .int (jI (S.B j))]
abbrev oP (a j : Nat) (S : xS) : List Value := [.ref (a + (j + 1)), .ref (a + (j + 3)), .ref (a + (j + 5)), .ref (a + (j + 7)), .ref (a + (j + 9)), .int (jI (S.f.nn j))]
abbrev oX (a : Nat) : List Value := [.ref (a + 108), .ref (a + 18), .ref (a + 39), .ref (a + 60), .ref (a + 75), .ref (a + 86), .ref (a + 97)]
abbrev oR (a : Nat) (S : xS) : List Value := [.ref (a + 2), .ref (a + 3), .ref (a + 4), .ref (a + 5), .int (jI S.f.lost)]
abbrev oD (a : Nat) (S : xS) : List Value := [.ref (a + 1), .ref (a + 8), .ref (a + 10), .ref (a + S.f.hi), .ref (a + S.f.lo), .ref (a + S.f.re), .long (kI S.m0), .long (kI S.m1), .long (kI S.m2), .long (kI S.m3)]
abbrev oQ (a : Nat) : List Value := [.ref (a + 19), .ref (a + 21), .ref (a + 23), .ref (a + 25), .ref (a + 27), .ref (a + 29), .ref (a + 31), .ref (a + 33), .ref (a + 35), .ref (a + 37)]
abbrev oC (a : Nat) : List Value := [.ref (a + 18), .ref (a + 1), .ref (a + 7), .ref (a + 40), .ref (a + 42), .ref (a + 44), .ref (a + 46), .ref (a + 48), .ref (a + 50), .ref (a + 52), .ref (a + 54), .ref (a + 56), .ref (a + 58)]
abbrev oE (a : Nat) : List Value := [.ref (a + 18), .ref (a + 1), .ref (a + 7), .ref (a + 61), .ref (a + 63), .ref (a + 65), .ref (a + 67), .ref (a + 69), .ref (a + 71), .ref (a + 73)]
def xCell (G : zG) (a : Nat) (S : xS) (j : Nat) : va_E :=
  if isN j = true then .inr (1, oN a j S)
  else if j ≠ 0 ∧ isN (j - 1) = true then .inl (G.2 0, nR (j - 1), .inl (fun i : Nat => jI (S.C (j - 1) i)))
  else if isP j = true then .inr (2, oP a j S)
  else if j = 0 then .inr (8, oX a)
  else if j = 1 then .inr (4, oR a S)
  else if j = 2 then .inl (G.2 0, 112, .inl (fun i : Nat => jI (S.r0 i)))
  else if j = 3 then .inl (G.2 0, 113, .inl (fun i : Nat => jI (S.r1 i)))
  else if j = 4 then .inl (G.2 0, 113, .inl (fun i : Nat => jI (S.r2 i)))
  else if j = 7 then .inr (5, oD a S)
  else if j = 18 then .inr (3, oQ a)
  else if j = 39 then .inr (7, oC a)
  else if j = 60 then .inr (6, oE a)
  else .inl (G.2 2, 8, .inr (.inr (.inr (.inr (fun i : Nat => if i < 8 then some (a + (109 + 11 * i)) else none)))))
def hx (G : zG) (h : zH) (a : Nat) (S : xS) : zH := (h.1, fun q => if a ≤ q ∧ q < a + 197 then xCell G a S (q - a) else h.2 q)
section HX
variable {G : zG} {h : zH} {a : Nat} {S : xS}
theorem hx_at {j : Nat} (hj : j < 197) : (hx G h a S).2 (a + j) = xCell G a S j := by
  show (if a ≤ a + j ∧ a + j < a + 197 then xCell G a S (a + j - a) else h.2 (a + j)) = _
  rw [if_pos (by omega), show a + j - a = j by omega]
theorem isN_lt {k : Nat} (hk : isN k = true) : k < 196 ∧ isN (k + 1) = false ∧ isP (k + 1) = false := by
  have h1 : k < 197 := by
    rcases Nat.lt_or_ge k 197 with h | h
    · exact h
    · exfalso
      have hh : ∀ m : Nat, m < 197 → Nat.ble k m = false := fun m hm => by
        cases hb : Nat.ble k m with
        | false => rfl
        | true => have := Nat.le_of_ble_eq_true hb; omega
      have e : ∀ m : Nat, m < 197 → (k == m) = false := fun m hm => by
        rw [beq_eq_false_iff_ne]; omega
      unfold isN at hk
      rw [hh 37 (by decide), hh 58 (by decide), hh 73 (by decide), hh 107 (by decide), hh 196 (by decide), e 5 (by decide), e 8 (by decide), e 10 (by decide), e 12 (by decide), e 14 (by decide), e 16 (by decide)] at hk
      simp at hk
  have key : ∀ k : Nat, k < 197 → isN k = true → k < 196 ∧ isN (k + 1) = false ∧ isP (k + 1) = false := by decide +kernel
  exact key k h1 hk
theorem hx_N {k : Nat} (hk : isN k = true) : (hx G h a S).2 (a + k) = .inr (1, oN a k S) := by
  rw [hx_at (by have := (isN_lt hk).1; omega)]
  unfold xCell
  rw [if_pos hk]
theorem hx_A {k : Nat} (hk : isN k = true) : (hx G h a S).2 (a + k + 1) = .inl (G.2 0, nR k, .inl (fun i : Nat => jI (S.C k i))) := by
  rw [Nat.add_assoc, hx_at (by have := (isN_lt hk).1; omega)]
  unfold xCell
  rw [if_neg (by rw [(isN_lt hk).2.1]; decide), if_pos ⟨by omega, by rw [Nat.add_sub_cancel]; exact hk⟩, Nat.add_sub_cancel]
theorem isP_lt {k : Nat} (hk : isP k = true) : k < 187 ∧ isN k = false ∧ isN (k - 1) = false ∧ isN (k + 1) = true ∧ isN (k + 3) = true ∧ isN (k + 5) = true ∧ isN (k + 7) = true ∧ isN (k + 9) = true := by
  have h1 : k < 197 := by
    rcases Nat.lt_or_ge k 197 with h | h
    · exact h
    · exfalso
      have hh : ∀ m : Nat, m < 197 → Nat.ble k m = false := fun m hm => by
        cases hb : Nat.ble k m with
        | false => rfl
        | true => have := Nat.le_of_ble_eq_true hb; omega
      unfold isP at hk
      rw [hh 107 (by decide), hh 196 (by decide)] at hk
      simp at hk
  have key : ∀ k : Nat, k < 197 → isP k = true → k < 187 ∧ isN k = false ∧ isN (k - 1) = false ∧ isN (k + 1) = true ∧ isN (k + 3) = true ∧ isN (k + 5) = true ∧ isN (k + 7) = true ∧ isN (k + 9) = true := by decide +kernel
  exact key k h1 hk
theorem hx_P {k : Nat} (hk : isP k = true) : (hx G h a S).2 (a + k) = .inr (2, oP a k S) := by
  have q := isP_lt hk
  rw [hx_at (by omega)]
  unfold xCell
  rw [if_neg (by rw [q.2.1]; decide), if_neg (by rw [q.2.2.1]; simp), if_pos hk]
theorem hx_X : (hx G h a S).2 a = .inr (8, oX a) := hx_at (j := 0) (by decide)
theorem hx_R : (hx G h a S).2 (a + 1) = .inr (4, oR a S) := hx_at (j := 1) (by decide)
theorem hx_r0 : (hx G h a S).2 (a + 2) = .inl (G.2 0, 112, .inl (fun i : Nat => jI (S.r0 i))) := hx_at (j := 2) (by decide)
theorem hx_r1 : (hx G h a S).2 (a + 3) = .inl (G.2 0, 113, .inl (fun i : Nat => jI (S.r1 i))) := hx_at (j := 3) (by decide)
theorem hx_r2 : (hx G h a S).2 (a + 4) = .inl (G.2 0, 113, .inl (fun i : Nat => jI (S.r2 i))) := hx_at (j := 4) (by decide)
theorem hx_D : (hx G h a S).2 (a + 7) = .inr (5, oD a S) := hx_at (j := 7) (by decide)
theorem hx_Q : (hx G h a S).2 (a + 18) = .inr (3, oQ a) := hx_at (j := 18) (by decide)
theorem hx_C : (hx G h a S).2 (a + 39) = .inr (7, oC a) := hx_at (j := 39) (by decide)
theorem hx_E : (hx G h a S).2 (a + 60) = .inr (6, oE a) := hx_at (j := 60) (by decide)
theorem hx_V : (hx G h a S).2 (a + 108) = .inl (G.2 2, 8, .inr (.inr (.inr (.inr (fun i : Nat => if i < 8 then some (a + (109 + 11 * i)) else none))))) := hx_at (j := 108) (by decide)
theorem hx_up {S' : xS} {j : Nat} {v : va_E} (hj : j < 197) (h1 : xCell G a S' j = v) (h2 : ∀ i : Nat, i < 197 → i ≠ j → xCell G a S' i = xCell G a S i) : ((hx G h a S).1, va_up (hx G h a S).2 (a + j) v) = hx G h a S' := by
  refine Prod.ext rfl (funext fun q => ?_)
  by_cases h0 : q = a + j
  · subst h0
    rw [hx_at hj, h1]
    simp [va_up]
  · show va_up (hx G h a S).2 (a + j) v q = _
    rw [va_up_ne _ _ h0]
    show (if a ≤ q ∧ q < a + 197 then xCell G a S (q - a) else h.2 q) = (if a ≤ q ∧ q < a + 197 then xCell G a S' (q - a) else h.2 q)
    by_cases h3 : a ≤ q ∧ q < a + 197
    · rw [if_pos h3, if_pos h3, h2 (q - a) (by omega) (by omega)]
    · rw [if_neg h3, if_neg h3]
theorem hx_sL {k : Nat} {v : Int} (hk : isN k = true) : ((hx G h a S).1, va_up (hx G h a S).2 (a + k) (.inr (1, (oN a k S).set 1 (.int (jI v))))) = hx G h a (S.sL (nu S.L k v)) := by
  refine hx_up (by have := (isN_lt hk).1; omega) ?_ ?_
  · unfold xCell; rw [if_pos hk]; simp [nu, xS.sL, xS.L, xS.sB, xS.B, xS.sC, xS.C, xS.sf, xS.f, xF.nn, xF.snn]
  · intro i _ hi
    unfold xCell oN
    simp only [nu, xS.sL, xS.L, xS.sB, xS.B, xS.sC, xS.C, xS.sf, xS.f, xF.nn, xF.snn, if_neg hi]
theorem hx_sB {k : Nat} {v : Int} (hk : isN k = true) : ((hx G h a S).1, va_up (hx G h a S).2 (a + k) (.inr (1, (oN a k S).set 2 (.int (jI v))))) = hx G h a (S.sB (nu S.B k v)) := by
  refine hx_up (by have := (isN_lt hk).1; omega) ?_ ?_
  · unfold xCell; rw [if_pos hk]; simp [nu, xS.sL, xS.L, xS.sB, xS.B, xS.sC, xS.C, xS.sf, xS.f, xF.nn, xF.snn]
  · intro i _ hi
    unfold xCell oN
    simp only [nu, xS.sL, xS.L, xS.sB, xS.B, xS.sC, xS.C, xS.sf, xS.f, xF.nn, xF.snn, if_neg hi]
theorem hx_sC {k : Nat} {f : Int → Int} (hk : isN k = true) : ((hx G h a S).1, va_up (hx G h a S).2 (a + k + 1) (.inl (G.2 0, nR k, .inl (fun i : Nat => jI (f i))))) = hx G h a (S.sC (nu S.C k f)) := by
  rw [Nat.add_assoc]
  refine hx_up (by have := (isN_lt hk).1; omega) ?_ ?_
  · unfold xCell; rw [if_neg (by rw [(isN_lt hk).2.1]; decide), if_pos ⟨by omega, by rw [Nat.add_sub_cancel]; exact hk⟩, Nat.add_sub_cancel]; simp [nu, xS.sL, xS.L, xS.sB, xS.B, xS.sC, xS.C, xS.sf, xS.f, xF.nn, xF.snn]
  · intro i _ hi
    unfold xCell
    by_cases h0 : i ≠ 0 ∧ isN (i - 1) = true
    · simp only [nu, xS.sL, xS.L, xS.sB, xS.B, xS.sC, xS.C, xS.sf, xS.f, xF.nn, xF.snn, if_neg (show ¬ i - 1 = k by omega)]
    · rw [if_neg h0, if_neg h0]
theorem hx_r0s {f : Int → Int} : ((hx G h a S).1, va_up (hx G h a S).2 (a + 2) (.inl (G.2 0, 112, .inl (fun i : Nat => jI (f i))))) = hx G h a (S.s0 (f)) := by
  refine hx_up (by decide) rfl ?_
  intro i _ hi
  unfold xCell
  simp only [if_neg hi]
theorem hx_r1s {f : Int → Int} : ((hx G h a S).1, va_up (hx G h a S).2 (a + 3) (.inl (G.2 0, 113, .inl (fun i : Nat => jI (f i))))) = hx G h a (S.s1 (f)) := by
  refine hx_up (by decide) rfl ?_
  intro i _ hi
  unfold xCell
  simp only [if_neg hi]
theorem hx_r2s {f : Int → Int} : ((hx G h a S).1, va_up (hx G h a S).2 (a + 4) (.inl (G.2 0, 113, .inl (fun i : Nat => jI (f i))))) = hx G h a (S.s2 (f)) := by
  refine hx_up (by decide) rfl ?_
  intro i _ hi
  unfold xCell
  simp only [if_neg hi]
theorem hx_sR {v : Int} : ((hx G h a S).1, va_up (hx G h a S).2 (a + 1) (.inr (4, (oR a S).set 4 (.int (jI v))))) = hx G h a (S.sf (S.f.slost (v))) := by
  refine hx_up (by decide) rfl ?_
  intro i _ hi
  unfold xCell
  simp only [if_neg hi]
theorem hx_sP {k : Nat} {v : Int} (hk : isP k = true) : ((hx G h a S).1, va_up (hx G h a S).2 (a + k) (.inr (2, (oP a k S).set 5 (.int (jI v))))) = hx G h a (S.sf (S.f.snn (nu S.f.nn k v))) := by
  have q := isP_lt hk
  refine hx_up (by omega) ?_ ?_
  · unfold xCell; rw [if_neg (by rw [q.2.1]; decide), if_neg (by rw [q.2.2.1]; simp), if_pos hk]; simp [nu, xS.sL, xS.L, xS.sB, xS.B, xS.sC, xS.C, xS.sf, xS.f, xF.nn, xF.snn]
  · intro i _ hi
    unfold xCell oP
    simp only [nu, xS.sL, xS.L, xS.sB, xS.B, xS.sC, xS.C, xS.sf, xS.f, xF.nn, xF.snn, if_neg hi]
theorem hx_sD {g : Nat} {v : Value} {S' : xS} (e1 : oD a S' = (oD a S).set g v) (e2 : S'.C = S.C ∧ S'.L = S.L ∧ S'.B = S.B ∧ S'.r0 = S.r0 ∧ S'.r1 = S.r1 ∧ S'.r2 = S.r2 ∧ S'.f.nn = S.f.nn ∧ S'.f.lost = S.f.lost) : ((hx G h a S).1, va_up (hx G h a S).2 (a + 7) (.inr (5, (oD a S).set g v))) = hx G h a S' := by
  obtain ⟨q1, q2, q3, q4, q5, q6, q7, q8⟩ := e2
  refine hx_up (by decide) (by rw [← e1]; rfl) ?_
  intro i _ hi
  unfold xCell oN oP oR
  simp only [if_neg hi, q1, q2, q3, q4, q5, q6, q7, q8]
end HX
