/-! numbers in registers: dv is the value of n cells from b on; Rg: the register r holds v in n cells; Fr: only the registers rs changed -/
abbrev BS : Int := 1000000000
def dv (f : Int → Int) (b : Int) : Nat → Int
  | 0 => 0
  | n + 1 => dv f b n + f (b + n) * BS ^ n
theorem BS_pos (n : Nat) : 0 < BS ^ n := Int.pow_pos (by decide)
theorem dv_congr {f g : Int → Int} {b c : Int} : ∀ {n : Nat}, (∀ k : Nat, k < n → f (b + k) = g (c + k)) → dv f b n = dv g c n
  | 0, _ => rfl
  | n + 1, h => by
    simp only [dv]
    rw [dv_congr (n := n) (fun k hk => h k (by omega)), h n (by omega)]
theorem dv_bd {f : Int → Int} {b : Int} : ∀ {n : Nat}, (∀ k : Nat, k < n → 0 ≤ f (b + k) ∧ f (b + k) < 1000000000) → 0 ≤ dv f b n ∧ dv f b n < BS ^ n
  | 0, _ => ⟨Int.le_refl _, by simp [dv]⟩
  | n + 1, h => by
    obtain ⟨h1, h2⟩ := dv_bd (n := n) (fun k hk => h k (by omega))
    obtain ⟨h3, h4⟩ := h n (by omega)
    have hp := BS_pos n
    simp only [dv]
    refine ⟨Int.add_nonneg h1 (Int.mul_nonneg h3 (Int.le_of_lt hp)), ?_⟩
    have h5 : f (b + n) * BS ^ n ≤ (1000000000 - 1) * BS ^ n := Int.mul_le_mul_of_nonneg_right (by omega) (Int.le_of_lt hp)
    have h6 : BS ^ (n + 1) = 1000000000 * BS ^ n := by rw [Int.pow_succ, Int.mul_comm]
    rw [Int.sub_mul, Int.one_mul] at h5
    rw [h6]
    omega
/-- cells of a register are digits -/
abbrev dg (f : Int → Int) (b : Int) (n : Nat) : Prop := ∀ k : Nat, k < n → 0 ≤ f (b + k) ∧ f (b + k) < 1000000000
def Rg (T : mT) (r : Int) (n : Nat) (v : Int) : Prop :=
  T.2.1 r = n ∧ n ≤ 459 ∧ dg T.1 (460 * r) n ∧ (∀ j : Nat, n = j + 1 → T.1 (460 * r + j) ≠ 0) ∧ T.2.2.1 r = v.sign ∧ (v.natAbs : Int) = dv T.1 (460 * r) n
def Fr (rs : List Int) (T T' : mT) : Prop :=
  T'.2.2.2 = T.2.2.2 ∧ ∀ q : Int, q ∉ rs → T'.2.1 q = T.2.1 q ∧ T'.2.2.1 q = T.2.2.1 q ∧ ∀ k : Int, 0 ≤ k → k < 460 → T'.1 (460 * q + k) = T.1 (460 * q + k)
theorem Fr.rf {rs : List Int} {T : mT} : Fr rs T T := ⟨rfl, fun _ _ => ⟨rfl, rfl, fun _ _ _ => rfl⟩⟩
theorem Fr.tr {rs : List Int} {T T' T'' : mT} (h : Fr rs T T') (h' : Fr rs T' T'') : Fr rs T T'' :=
  ⟨h'.1.trans h.1, fun q hq => ⟨(h'.2 q hq).1.trans (h.2 q hq).1, (h'.2 q hq).2.1.trans (h.2 q hq).2.1, fun k h0 h1 => ((h'.2 q hq).2.2 k h0 h1).trans ((h.2 q hq).2.2 k h0 h1)⟩⟩
theorem Fr.mono {rs rs' : List Int} {T T' : mT} (h : Fr rs T T') (hs : ∀ q ∈ rs, q ∈ rs') : Fr rs' T T' :=
  ⟨h.1, fun q hq => h.2 q (fun z => hq (hs q z))⟩
theorem Rg.fr {rs : List Int} {T T' : mT} {r v : Int} {n : Nat} (h : Rg T r n v) (hf : Fr rs T T') (hr : r ∉ rs) : Rg T' r n v := by
  obtain ⟨h1, h2, h3, h4, h5, h6⟩ := h
  obtain ⟨g1, g2, g3⟩ := hf.2 r hr
  have hc : ∀ k : Nat, k < 460 → T'.1 (460 * r + k) = T.1 (460 * r + k) := fun k hk => g3 k (by omega) (by omega)
  refine ⟨g1.trans h1, h2, fun k hk => ?_, fun j hj => ?_, g2.trans h5, ?_⟩
  · rw [hc k (by omega)]; exact h3 k hk
  · rw [hc j (by omega)]; exact h4 j hj
  · rw [h6]; exact dv_congr (fun k hk => (hc k (by omega)).symm)
theorem Rg.nn {T : mT} {r v : Int} {n : Nat} (h : Rg T r n v) : v.natAbs < BS ^ n := by
  have := (dv_bd h.2.2.1).2
  rw [← h.2.2.2.2.2] at this
  exact this
theorem Rg.zero {T : mT} {r v : Int} {n : Nat} (h : Rg T r n v) : n = 0 ↔ v = 0 := by
  obtain ⟨h1, h2, h3, h4, h5, h6⟩ := h
  constructor
  · intro hn
    subst hn
    simp only [dv] at h6
    omega
  · intro hv
    subst hv
    rcases n with _ | n
    · rfl
    · exfalso
      have hz : dv T.1 (460 * r) (n + 1) = 0 := by rw [← h6]; rfl
      simp only [dv] at hz
      have h7 := (dv_bd (n := n) (fun k hk => h3 k (by omega))).1
      have h8 := h3 n (by omega)
      have h9 := h4 n rfl
      have hp := BS_pos n
      have : 0 < T.1 (460 * r + n) * BS ^ n := Int.mul_pos (by omega) hp
      omega
/-- a number of n cells is at least BS^(n-1) -/
theorem Rg.ge {T : mT} {r v : Int} {n : Nat} (h : Rg T r (n + 1) v) : BS ^ n ≤ v.natAbs := by
  obtain ⟨h1, h2, h3, h4, h5, h6⟩ := h
  rw [h6]
  simp only [dv]
  have h7 := (dv_bd (n := n) (fun k hk => h3 k (by omega))).1
  have h8 := h3 n (by omega)
  have h9 := h4 n rfl
  have hp := BS_pos n
  have : 1 * BS ^ n ≤ T.1 (460 * r + n) * BS ^ n := Int.mul_le_mul_of_nonneg_right (by omega) (Int.le_of_lt hp)
  omega
theorem BS_mono {a b : Nat} (h : a ≤ b) : BS ^ a ≤ BS ^ b := by
  obtain ⟨c, rfl⟩ := Nat.exists_eq_add_of_le h
  rw [Int.pow_add]
  have h1 := BS_pos a
  have h2 := BS_pos c
  have : BS ^ a * 1 ≤ BS ^ a * BS ^ c := Int.mul_le_mul_of_nonneg_left (by omega) (Int.le_of_lt h1)
  omega
/-- and has no more cells than it needs -/
theorem Rg.le {T : mT} {r v : Int} {n m : Nat} (h : Rg T r n v) (hv : v.natAbs < BS ^ m) : n ≤ m := by
  rcases n with _ | n
  · exact Nat.zero_le _
  · have h1 := h.ge
    rcases Nat.lt_or_ge n m with h2 | h2
    · exact h2
    · have := BS_mono h2
      omega
