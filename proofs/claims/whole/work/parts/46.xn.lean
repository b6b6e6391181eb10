/-! numbers of the program: NR: the number at k holds v in n limbs; VX: all of them; xK: only the number k changed -/
def NR (S : xS) (k n : Nat) (v : Int) : Prop :=
  S.L k = n ∧ n ≤ nR k ∧ dg (S.C k) 0 n ∧ (∀ j : Nat, n = j + 1 → S.C k j ≠ 0) ∧ S.B k = (if v < 0 then 1 else 0) ∧ (v.natAbs : Int) = dv (S.C k) 0 n
def VX (S : xS) (U : Nat → Int) : Prop := ∀ k : Nat, isN k = true → ∃ n : Nat, NR S k n (U k)
def xK (k : Nat) (S S' : xS) : Prop := (∀ j : Nat, j ≠ k → S'.C j = S.C j ∧ S'.L j = S.L j ∧ S'.B j = S.B j) ∧ S'.f = S.f
theorem xK.rf {k : Nat} {S : xS} : xK k S S := ⟨fun _ _ => ⟨rfl, rfl, rfl⟩, rfl⟩
theorem xK.tr {k : Nat} {S S' S'' : xS} (h : xK k S S') (h' : xK k S' S'') : xK k S S'' :=
  ⟨fun j hj => ⟨(h'.1 j hj).1.trans (h.1 j hj).1, (h'.1 j hj).2.1.trans (h.1 j hj).2.1, (h'.1 j hj).2.2.trans (h.1 j hj).2.2⟩, h'.2.trans h.2⟩
theorem NR.fr {S S' : xS} {k n : Nat} {v : Int} (h : NR S k n v) (e : S'.C k = S.C k ∧ S'.L k = S.L k ∧ S'.B k = S.B k) : NR S' k n v := by
  obtain ⟨e1, e2, e3⟩ := e
  unfold NR
  rw [e1, e2, e3]
  exact h
theorem xK.nr {S S' : xS} {k j n : Nat} {v : Int} (hK : xK k S S') (h : NR S j n v) (hj : j ≠ k) : NR S' j n v := h.fr (hK.1 j hj)
theorem VX.up {S S' : xS} {U : Nat → Int} {k n : Nat} {v : Int} (h : VX S U) (hK : xK k S S') (hv : NR S' k n v) : VX S' (nu U k v) := fun j hj => by
  by_cases e : j = k
  · subst e; rw [nu_self]; exact ⟨n, hv⟩
  · rw [nu_ne _ _ e]
    obtain ⟨m, hm⟩ := h j hj
    exact ⟨m, hK.nr hm e⟩
theorem NR.rg {S : xS} {k n : Nat} {v : Int} (h : NR S k n v) : Rg (S.C k, fun _ => n, fun _ => v.sign, fun _ => 0) 0 n v :=
  ⟨rfl, by have := nR_le k; have := h.2.1; omega, h.2.2.1, fun j hj => by have := h.2.2.2.1 j hj; show S.C k (460 * 0 + j) ≠ 0; rw [show (460 * 0 + (j : Int)) = j by omega]; exact this, rfl, h.2.2.2.2.2⟩
theorem NR.nn {S : xS} {k n : Nat} {v : Int} (h : NR S k n v) : (v.natAbs : Int) < BS ^ n := h.rg.nn
theorem NR.zero {S : xS} {k n : Nat} {v : Int} (h : NR S k n v) : n = 0 ↔ v = 0 := h.rg.zero
theorem NR.ge {S : xS} {k n : Nat} {v : Int} (h : NR S k (n + 1) v) : BS ^ n ≤ (v.natAbs : Int) := h.rg.ge
theorem NR.le {S : xS} {k n m : Nat} {v : Int} (h : NR S k n v) (hv : lt9 v m) : n ≤ m := h.rg.le hv
theorem NR.i31 {S : xS} {k n : Nat} {v : Int} (h : NR S k n v) : n ≤ 112 := Nat.le_trans h.2.1 (nR_le k).2
theorem NR.b01 {S : xS} {k n : Nat} {v : Int} (h : NR S k n v) : S.B k = 0 ∨ S.B k = 1 := by rw [h.2.2.2.2.1]; by_cases q : v < 0 <;> simp [q]
/-- one limb -/
theorem NR.limb {S : xS} {k n : Nat} {v : Int} (h : NR S k n v) {i : Int} (h0 : 0 ≤ i) (hi : i < n) : 0 ≤ S.C k i ∧ S.C k i < 1000000000 := by
  have := h.2.2.1 i.toNat (by omega)
  rw [show (0 : Int) + (i.toNat : Int) = i by omega] at this
  exact this
def sgn (b x : Int) : Int := if b = 1 then -x else x
theorem dv_shrink {f : Int → Int} {n : Nat} (h : f n = 0) : dv f 0 (n + 1) = dv f 0 n := by
  show dv f 0 n + f (0 + n) * BS ^ n = dv f 0 n
  rw [Int.zero_add, h]; omega
/-- a number by its limbs -/
theorem NR.mk' {S : xS} {k n : Nat} {b : Int} (h1 : S.L k = n) (h2 : n ≤ nR k) (h3 : dg (S.C k) 0 n) (h4 : ∀ j : Nat, n = j + 1 → S.C k j ≠ 0) (h5 : S.B k = b) (hb : b = 0 ∨ b = 1 ∧ n ≠ 0) : NR S k n (sgn b (dv (S.C k) 0 n)) := by
  have h6 := dv_bd (f := S.C k) (b := 0) (n := n) h3
  refine ⟨h1, h2, h3, h4, ?_, ?_⟩
  · rcases hb with rfl | ⟨rfl, hn⟩
    · rw [h5]
      unfold sgn
      rw [if_neg (show ¬ (0 : Int) = 1 by decide), if_neg (by omega)]
    · have hp : 0 < dv (S.C k) 0 n := by
        obtain ⟨j, rfl⟩ : ∃ j, n = j + 1 := ⟨n - 1, by omega⟩
        have h7 := dv_bd (f := S.C k) (b := 0) (n := j) (fun i hi => h3 i (by omega))
        have h8 := h3 j (by omega)
        have h9 := h4 j rfl
        rw [Int.zero_add] at h8
        show 0 < dv (S.C k) 0 j + S.C k (0 + j) * BS ^ j
        rw [Int.zero_add]
        have := Int.mul_pos (show 0 < S.C k j by omega) (BS_pos j)
        omega
      rw [h5]
      unfold sgn
      rw [if_pos (show (1 : Int) = 1 from rfl), if_pos (by omega)]
  · unfold sgn
    by_cases q : b = 1
    · rw [if_pos q]; omega
    · rw [if_neg q]; omega
theorem VX.get {S : xS} {U : Nat → Int} (h : VX S U) {k : Nat} (hk : isN k = true) : ∃ n : Nat, NR S k n (U k) := h k hk
