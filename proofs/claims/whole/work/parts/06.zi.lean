/-! whole numbers: every int on stack and in locals is jI of an Int, every long kI of one -/
abbrev jI (z : Int) : Int32 := Int32.ofInt z
abbrev kI (z : Int) : Int64 := Int64.ofInt z
abbrev i32 (z : Int) : Prop := -2147483648 ≤ z ∧ z < 2147483648
abbrev i64 (z : Int) : Prop := -9223372036854775808 ≤ z ∧ z < 9223372036854775808
theorem jI_toInt {z : Int} (h : i32 z) : (jI z).toInt = z := Int32.toInt_ofInt_of_le (by simpa using h.1) (by simpa using h.2)
theorem kI_toInt {z : Int} (h : i64 z) : (kI z).toInt = z := Int64.toInt_ofInt_of_le (by simpa using h.1) (by simpa using h.2)
theorem jI_of (x : Int32) : ∃ z : Int, i32 z ∧ x = jI z := ⟨x.toInt, ⟨by simpa using Int32.le_toInt x, by have := Int32.toInt_lt x; simpa using this⟩, by simp [jI]⟩
theorem kI_of (x : Int64) : ∃ z : Int, i64 z ∧ x = kI z := ⟨x.toInt, ⟨by simpa using Int64.le_toInt x, by have := Int64.toInt_lt x; simpa using this⟩, by simp [kI]⟩
theorem jI_inj {a b : Int} (ha : i32 a) (hb : i32 b) : jI a = jI b ↔ a = b := ⟨fun h => by have := congrArg Int32.toInt h; rwa [jI_toInt ha, jI_toInt hb] at this, fun h => by rw [h]⟩
theorem kI_inj {a b : Int} (ha : i64 a) (hb : i64 b) : kI a = kI b ↔ a = b := ⟨fun h => by have := congrArg Int64.toInt h; rwa [kI_toInt ha, kI_toInt hb] at this, fun h => by rw [h]⟩
theorem jI_lt {a b : Int} (ha : i32 a) (hb : i32 b) : jI a < jI b ↔ a < b := by rw [Int32.lt_iff_toInt_lt, jI_toInt ha, jI_toInt hb]
theorem jI_le {a b : Int} (ha : i32 a) (hb : i32 b) : jI a ≤ jI b ↔ a ≤ b := by rw [Int32.le_iff_toInt_le, jI_toInt ha, jI_toInt hb]
theorem jI_0 : jI 0 = 0 := rfl
theorem jI_n0 {y : Int} (hy : i32 y) (h0 : 0 < y) : ¬ jI y = 0 := fun q => by
  have := (jI_inj (b := 0) hy ⟨by decide, by decide⟩).mp q
  omega
theorem kI_n0 {y : Int} (hy : i64 y) (h0 : 0 < y) : ¬ kI y = 0 := fun q => by
  have := (kI_inj (b := 0) hy ⟨by decide, by decide⟩).mp q
  omega
theorem jI_clamp {z : Int} (h0 : 0 ≤ z) (h : i32 z) : (jI z).toNatClampNeg = z.toNat := by
  show (jI z).toInt.toNat = z.toNat
  rw [jI_toInt h]
theorem jI_in {z : Int} {N : Nat} (h0 : 0 ≤ z) (h : z < N) (hN : N < 2147483648) : vp_in (jI z) N := by
  have hz : i32 z := ⟨by omega, by omega⟩
  rintro (q | q)
  · rw [← jI_0, jI_lt hz ⟨by decide, by decide⟩] at q; omega
  · rw [jI_clamp h0 hz] at q; omega
theorem jI_add (a b : Int) : jI a + jI b = jI (a + b) := (Int32.ofInt_add a b).symm
theorem jI_sub (a b : Int) : jI a - jI b = jI (a - b) := (Int32.ofInt_sub a b).symm
theorem jI_mul (a b : Int) : jI a * jI b = jI (a * b) := (Int32.ofInt_mul a b).symm
theorem jI_neg (a : Int) : - jI a = jI (- a) := (Int32.ofInt_neg a).symm
theorem kI_add (a b : Int) : kI a + kI b = kI (a + b) := (Int64.ofInt_add a b).symm
theorem kI_sub (a b : Int) : kI a - kI b = kI (a - b) := (Int64.ofInt_sub a b).symm
theorem kI_mul (a b : Int) : kI a * kI b = kI (a * b) := (Int64.ofInt_mul a b).symm
theorem kI_neg (a : Int) : - kI a = kI (- a) := (Int64.ofInt_neg a).symm
theorem jI_div {a b : Int} (ha : i32 a) (hb : i32 b) (h1 : b ≠ -1) : jI a / jI b = jI (a.tdiv b) := by
  apply Int32.toInt_inj.mp
  rw [Int32.toInt_div_of_ne_right _ _ (by
    intro h
    have := congrArg Int32.toInt h
    rw [jI_toInt hb] at this
    exact h1 this), jI_toInt ha, jI_toInt hb, jI_toInt]
  have h2 := Int.natAbs_tdiv a b
  have h3 : (a.tdiv b).natAbs ≤ a.natAbs := by rw [h2]; exact Nat.div_le_self _ _
  constructor
  · omega
  · by_cases hb0 : b = 0
    · subst hb0; simp
    · have h4 : b.natAbs ≠ 1 ∨ b = 1 := by omega
      rcases h4 with h4 | h4
      · have : 2 ≤ b.natAbs := by omega
        have h5 : (a.tdiv b).natAbs ≤ a.natAbs / 2 := by rw [h2]; exact Nat.div_le_div_left this (by decide)
        omega
      · subst h4; simp; omega
theorem kI_div {a b : Int} (ha : i64 a) (hb : i64 b) (h1 : b ≠ -1) : kI a / kI b = kI (a.tdiv b) := by
  apply Int64.toInt_inj.mp
  rw [Int64.toInt_div_of_ne_right _ _ (by
    intro h
    have := congrArg Int64.toInt h
    rw [kI_toInt hb] at this
    exact h1 this), kI_toInt ha, kI_toInt hb, kI_toInt]
  have h2 := Int.natAbs_tdiv a b
  have h3 : (a.tdiv b).natAbs ≤ a.natAbs := by rw [h2]; exact Nat.div_le_self _ _
  constructor
  · omega
  · by_cases hb0 : b = 0
    · subst hb0; simp
    · have h4 : b.natAbs ≠ 1 ∨ b = 1 := by omega
      rcases h4 with h4 | h4
      · have : 2 ≤ b.natAbs := by omega
        have h5 : (a.tdiv b).natAbs ≤ a.natAbs / 2 := by rw [h2]; exact Nat.div_le_div_left this (by decide)
        omega
      · subst h4; simp; omega
theorem jI_rem {a b : Int} (ha : i32 a) (hb : i32 b) (h1 : b ≠ -1) : jI a - jI a / jI b * jI b = jI (a.tmod b) := by
  rw [jI_div ha hb h1, jI_mul, jI_sub]
  congr 1
  have := Int.mul_tdiv_add_tmod a b
  rw [Int.mul_comm] at this
  omega
theorem kI_rem {a b : Int} (ha : i64 a) (hb : i64 b) (h1 : b ≠ -1) : kI a - kI a / kI b * kI b = kI (a.tmod b) := by
  rw [kI_div ha hb h1, kI_mul, kI_sub]
  congr 1
  have := Int.mul_tdiv_add_tmod a b
  rw [Int.mul_comm] at this
  omega
theorem jI_kI {a : Int} (ha : i32 a) : (jI a).toInt64 = kI a := by
  apply Int64.toInt_inj.mp
  rw [Int32.toInt_toInt64, jI_toInt ha, kI_toInt ⟨by omega, by omega⟩]
theorem kI_jI (a : Int) : (kI a).toInt32 = jI a := Int64.toInt32_ofInt
theorem lg_cmp_k {a b : Int} (ha : i64 a) (hb : i64 b) : lg_cmp (kI a) (kI b) = jI (if b < a then 1 else if a = b then 0 else -1) := by
  unfold lg_cmp
  simp only [gt_iff_lt, Int64.lt_iff_toInt_lt, kI_toInt ha, kI_toInt hb, kI_inj ha hb]
  by_cases h1 : b < a
  · rw [if_pos h1, if_pos h1]; rfl
  · rw [if_neg h1, if_neg h1]
    by_cases h2 : a = b
    · rw [if_pos h2, if_pos h2]; rfl
    · rw [if_neg h2, if_neg h2]; rfl
/-- a function changed at one place -/
def iu (f : Int → Int) (k v : Int) : Int → Int := fun j => if j = k then v else f j
theorem iu_self (f : Int → Int) (k v : Int) : iu f k v k = v := by simp [iu]
theorem iu_ne (f : Int → Int) {k j : Int} (v : Int) (h : j ≠ k) : iu f k v j = f j := by simp [iu, h]
theorem iu_upd (f : Int → Int) {k : Int} (v : Int) (h0 : 0 ≤ k) : upd (fun i : Nat => jI (f i)) k.toNat (jI v) = fun i : Nat => jI (iu f k v i) := by
  funext i
  simp only [upd, iu]
  by_cases hi : i = k.toNat
  · rw [if_pos hi, if_pos (by omega)]
  · rw [if_neg hi, if_neg (by omega)]
section ZI
variable {p : Program} {l : Launch} {e : Env} {R : Room} {s : State} {m : MethodId} {args : Array Value} {below : List Frame} {meth : Method} {c : Code} {Q : State → Prop}
variable {cc : ByteArray} {own : String} {nL b0 pc k n : Nat} {G : zG} {h : zH} {lv : List (Nat × Value)} {st : List Value}
theorem zi_iadd (K : zC p s m args c cc own nL b0 G) {x y : Int} (hd : decode cc pc = .ok (.iadd, 1))  (kk : zW p l e R s m args below meth c nL b0 G k n Q h (pc + 1) lv (.int (jI (x + y)) :: st)) : zW p l e R s m args below meth c nL b0 G k n Q h pc lv (.int (jI y) :: .int (jI x) :: st) :=
  z_iadd K hd  ((jI_add x y).symm ▸ kk)
theorem zi_isub (K : zC p s m args c cc own nL b0 G) {x y : Int} (hd : decode cc pc = .ok (.isub, 1))  (kk : zW p l e R s m args below meth c nL b0 G k n Q h (pc + 1) lv (.int (jI (x - y)) :: st)) : zW p l e R s m args below meth c nL b0 G k n Q h pc lv (.int (jI y) :: .int (jI x) :: st) :=
  z_isub K hd  ((jI_sub x y).symm ▸ kk)
theorem zi_imul (K : zC p s m args c cc own nL b0 G) {x y : Int} (hd : decode cc pc = .ok (.imul, 1))  (kk : zW p l e R s m args below meth c nL b0 G k n Q h (pc + 1) lv (.int (jI (x * y)) :: st)) : zW p l e R s m args below meth c nL b0 G k n Q h pc lv (.int (jI y) :: .int (jI x) :: st) :=
  z_imul K hd  ((jI_mul x y).symm ▸ kk)
theorem zi_ladd (K : zC p s m args c cc own nL b0 G) {x y : Int} (hd : decode cc pc = .ok (.ladd, 1))  (kk : zW p l e R s m args below meth c nL b0 G k n Q h (pc + 1) lv (.long (kI (x + y)) :: st)) : zW p l e R s m args below meth c nL b0 G k n Q h pc lv (.long (kI y) :: .long (kI x) :: st) :=
  z_ladd K hd  ((kI_add x y).symm ▸ kk)
theorem zi_lsub (K : zC p s m args c cc own nL b0 G) {x y : Int} (hd : decode cc pc = .ok (.lsub, 1))  (kk : zW p l e R s m args below meth c nL b0 G k n Q h (pc + 1) lv (.long (kI (x - y)) :: st)) : zW p l e R s m args below meth c nL b0 G k n Q h pc lv (.long (kI y) :: .long (kI x) :: st) :=
  z_lsub K hd  ((kI_sub x y).symm ▸ kk)
theorem zi_lmul (K : zC p s m args c cc own nL b0 G) {x y : Int} (hd : decode cc pc = .ok (.lmul, 1))  (kk : zW p l e R s m args below meth c nL b0 G k n Q h (pc + 1) lv (.long (kI (x * y)) :: st)) : zW p l e R s m args below meth c nL b0 G k n Q h pc lv (.long (kI y) :: .long (kI x) :: st) :=
  z_lmul K hd  ((kI_mul x y).symm ▸ kk)
theorem zi_ineg (K : zC p s m args c cc own nL b0 G) {x : Int} (hd : decode cc pc = .ok (.ineg, 1))  (kk : zW p l e R s m args below meth c nL b0 G k n Q h (pc + 1) lv (.int (jI (-x)) :: st)) : zW p l e R s m args below meth c nL b0 G k n Q h pc lv (.int (jI x) :: st) :=
  z_ineg K hd  ((jI_neg x).symm ▸ kk)
theorem zi_lneg (K : zC p s m args c cc own nL b0 G) {x : Int} (hd : decode cc pc = .ok (.lneg, 1))  (kk : zW p l e R s m args below meth c nL b0 G k n Q h (pc + 1) lv (.long (kI (-x)) :: st)) : zW p l e R s m args below meth c nL b0 G k n Q h pc lv (.long (kI x) :: st) :=
  z_lneg K hd  ((kI_neg x).symm ▸ kk)
theorem zi_i2l (K : zC p s m args c cc own nL b0 G) {x : Int} (hd : decode cc pc = .ok (.i2l, 1)) (hx : i32 x) (kk : zW p l e R s m args below meth c nL b0 G k n Q h (pc + 1) lv (.long (kI x) :: st)) : zW p l e R s m args below meth c nL b0 G k n Q h pc lv (.int (jI x) :: st) :=
  z_i2l K hd  ((jI_kI hx).symm ▸ kk)
theorem zi_l2i (K : zC p s m args c cc own nL b0 G) {x : Int} (hd : decode cc pc = .ok (.l2i, 1))  (kk : zW p l e R s m args below meth c nL b0 G k n Q h (pc + 1) lv (.int (jI x) :: st)) : zW p l e R s m args below meth c nL b0 G k n Q h pc lv (.long (kI x) :: st) :=
  z_l2i K hd  ((kI_jI x).symm ▸ kk)
theorem zi_lcmp (K : zC p s m args c cc own nL b0 G) {x y : Int} (hd : decode cc pc = .ok (.lcmp, 1)) (hx : i64 x) (hy : i64 y) (kk : zW p l e R s m args below meth c nL b0 G k n Q h (pc + 1) lv (.int (jI (if y < x then 1 else if x = y then 0 else -1)) :: st)) : zW p l e R s m args below meth c nL b0 G k n Q h pc lv (.long (kI y) :: .long (kI x) :: st) :=
  z_lcmp K hd  ((lg_cmp_k hx hy).symm ▸ kk)
theorem zi_idiv (K : zC p s m args c cc own nL b0 G) {x y : Int} (hd : decode cc pc = .ok (.idiv, 1)) (hx : i32 x) (hy : i32 y) (h0 : 0 < y) (kk : zW p l e R s m args below meth c nL b0 G k n Q h (pc + 1) lv (.int (jI (x.tdiv y)) :: st)) : zW p l e R s m args below meth c nL b0 G k n Q h pc lv (.int (jI y) :: .int (jI x) :: st) :=
  z_idiv K hd (jI_n0 hy h0) ((jI_div hx hy (by omega)).symm ▸ kk)
theorem zi_irem (K : zC p s m args c cc own nL b0 G) {x y : Int} (hd : decode cc pc = .ok (.irem, 1)) (hx : i32 x) (hy : i32 y) (h0 : 0 < y) (kk : zW p l e R s m args below meth c nL b0 G k n Q h (pc + 1) lv (.int (jI (x.tmod y)) :: st)) : zW p l e R s m args below meth c nL b0 G k n Q h pc lv (.int (jI y) :: .int (jI x) :: st) :=
  z_irem K hd (jI_n0 hy h0) ((jI_rem hx hy (by omega)).symm ▸ kk)
theorem zi_ldiv (K : zC p s m args c cc own nL b0 G) {x y : Int} (hd : decode cc pc = .ok (.ldiv, 1)) (hx : i64 x) (hy : i64 y) (h0 : 0 < y) (kk : zW p l e R s m args below meth c nL b0 G k n Q h (pc + 1) lv (.long (kI (x.tdiv y)) :: st)) : zW p l e R s m args below meth c nL b0 G k n Q h pc lv (.long (kI y) :: .long (kI x) :: st) :=
  z_ldiv K hd (kI_n0 hy h0) ((kI_div hx hy (by omega)).symm ▸ kk)
theorem zi_lrem (K : zC p s m args c cc own nL b0 G) {x y : Int} (hd : decode cc pc = .ok (.lrem, 1)) (hx : i64 x) (hy : i64 y) (h0 : 0 < y) (kk : zW p l e R s m args below meth c nL b0 G k n Q h (pc + 1) lv (.long (kI (x.tmod y)) :: st)) : zW p l e R s m args below meth c nL b0 G k n Q h pc lv (.long (kI y) :: .long (kI x) :: st) :=
  z_lrem K hd (kI_n0 hy h0) ((kI_rem hx hy (by omega)).symm ▸ kk)
theorem zi_if_eq (K : zC p s m args c cc own nL b0 G) {x : Int} {off : Int} {tgt : Nat} (hd : decode cc pc = .ok (.ifCond .eq off, 3)) (ht : (pc : Int) + off = (tgt : Int)) (hx : i32 x) (kt : x = 0 → zW p l e R s m args below meth c nL b0 G k n Q h tgt lv st) (kf : ¬ x = 0 → zW p l e R s m args below meth c nL b0 G k n Q h (pc + 3) lv st) : zW p l e R s m args below meth c nL b0 G k n Q h pc lv (.int (jI x) :: st) :=
  z_if_eq K hd ht (fun q => kt ((jI_inj (b := 0) hx ⟨by decide, by decide⟩).mp q)) (fun q => kf (fun z => q ((jI_inj (b := 0) hx ⟨by decide, by decide⟩).mpr z)))
theorem zi_icmp_eq (K : zC p s m args c cc own nL b0 G) {x y : Int} {off : Int} {tgt : Nat} (hd : decode cc pc = .ok (.if_icmp .eq off, 3)) (ht : (pc : Int) + off = (tgt : Int)) (hx : i32 x) (hy : i32 y) (kt : x = y → zW p l e R s m args below meth c nL b0 G k n Q h tgt lv st) (kf : ¬ x = y → zW p l e R s m args below meth c nL b0 G k n Q h (pc + 3) lv st) : zW p l e R s m args below meth c nL b0 G k n Q h pc lv (.int (jI y) :: .int (jI x) :: st) :=
  z_icmp_eq K hd ht (fun q => kt ((jI_inj hx hy).mp q)) (fun q => kf (fun z => q ((jI_inj hx hy).mpr z)))
theorem zi_if_ne (K : zC p s m args c cc own nL b0 G) {x : Int} {off : Int} {tgt : Nat} (hd : decode cc pc = .ok (.ifCond .ne off, 3)) (ht : (pc : Int) + off = (tgt : Int)) (hx : i32 x) (kt : ¬ x = 0 → zW p l e R s m args below meth c nL b0 G k n Q h tgt lv st) (kf : x = 0 → zW p l e R s m args below meth c nL b0 G k n Q h (pc + 3) lv st) : zW p l e R s m args below meth c nL b0 G k n Q h pc lv (.int (jI x) :: st) :=
  z_if_ne K hd ht (fun q => kt (fun z => q ((jI_inj (b := 0) hx ⟨by decide, by decide⟩).mpr z))) (fun q => kf ((jI_inj (b := 0) hx ⟨by decide, by decide⟩).mp q))
theorem zi_icmp_ne (K : zC p s m args c cc own nL b0 G) {x y : Int} {off : Int} {tgt : Nat} (hd : decode cc pc = .ok (.if_icmp .ne off, 3)) (ht : (pc : Int) + off = (tgt : Int)) (hx : i32 x) (hy : i32 y) (kt : ¬ x = y → zW p l e R s m args below meth c nL b0 G k n Q h tgt lv st) (kf : x = y → zW p l e R s m args below meth c nL b0 G k n Q h (pc + 3) lv st) : zW p l e R s m args below meth c nL b0 G k n Q h pc lv (.int (jI y) :: .int (jI x) :: st) :=
  z_icmp_ne K hd ht (fun q => kt (fun z => q ((jI_inj hx hy).mpr z))) (fun q => kf ((jI_inj hx hy).mp q))
theorem zi_if_lt (K : zC p s m args c cc own nL b0 G) {x : Int} {off : Int} {tgt : Nat} (hd : decode cc pc = .ok (.ifCond .lt off, 3)) (ht : (pc : Int) + off = (tgt : Int)) (hx : i32 x) (kt : x < 0 → zW p l e R s m args below meth c nL b0 G k n Q h tgt lv st) (kf : 0 ≤ x → zW p l e R s m args below meth c nL b0 G k n Q h (pc + 3) lv st) : zW p l e R s m args below meth c nL b0 G k n Q h pc lv (.int (jI x) :: st) :=
  z_if_lt K hd ht (fun q => kt ((jI_lt (b := 0) hx ⟨by decide, by decide⟩).mp q)) (fun q => kf (Int.not_lt.mp (fun z => q ((jI_lt (b := 0) hx ⟨by decide, by decide⟩).mpr z))))
theorem zi_icmp_lt (K : zC p s m args c cc own nL b0 G) {x y : Int} {off : Int} {tgt : Nat} (hd : decode cc pc = .ok (.if_icmp .lt off, 3)) (ht : (pc : Int) + off = (tgt : Int)) (hx : i32 x) (hy : i32 y) (kt : x < y → zW p l e R s m args below meth c nL b0 G k n Q h tgt lv st) (kf : y ≤ x → zW p l e R s m args below meth c nL b0 G k n Q h (pc + 3) lv st) : zW p l e R s m args below meth c nL b0 G k n Q h pc lv (.int (jI y) :: .int (jI x) :: st) :=
  z_icmp_lt K hd ht (fun q => kt ((jI_lt hx hy).mp q)) (fun q => kf (Int.not_lt.mp (fun z => q ((jI_lt hx hy).mpr z))))
theorem zi_if_ge (K : zC p s m args c cc own nL b0 G) {x : Int} {off : Int} {tgt : Nat} (hd : decode cc pc = .ok (.ifCond .ge off, 3)) (ht : (pc : Int) + off = (tgt : Int)) (hx : i32 x) (kt : 0 ≤ x → zW p l e R s m args below meth c nL b0 G k n Q h tgt lv st) (kf : x < 0 → zW p l e R s m args below meth c nL b0 G k n Q h (pc + 3) lv st) : zW p l e R s m args below meth c nL b0 G k n Q h pc lv (.int (jI x) :: st) :=
  z_if_ge K hd ht (fun q => kt ((jI_le (a := 0) ⟨by decide, by decide⟩ hx).mp q)) (fun q => kf (Int.not_le.mp (fun z => q ((jI_le (a := 0) ⟨by decide, by decide⟩ hx).mpr z))))
theorem zi_icmp_ge (K : zC p s m args c cc own nL b0 G) {x y : Int} {off : Int} {tgt : Nat} (hd : decode cc pc = .ok (.if_icmp .ge off, 3)) (ht : (pc : Int) + off = (tgt : Int)) (hx : i32 x) (hy : i32 y) (kt : y ≤ x → zW p l e R s m args below meth c nL b0 G k n Q h tgt lv st) (kf : x < y → zW p l e R s m args below meth c nL b0 G k n Q h (pc + 3) lv st) : zW p l e R s m args below meth c nL b0 G k n Q h pc lv (.int (jI y) :: .int (jI x) :: st) :=
  z_icmp_ge K hd ht (fun q => kt ((jI_le hy hx).mp q)) (fun q => kf (Int.not_le.mp (fun z => q ((jI_le hy hx).mpr z))))
theorem zi_if_gt (K : zC p s m args c cc own nL b0 G) {x : Int} {off : Int} {tgt : Nat} (hd : decode cc pc = .ok (.ifCond .gt off, 3)) (ht : (pc : Int) + off = (tgt : Int)) (hx : i32 x) (kt : 0 < x → zW p l e R s m args below meth c nL b0 G k n Q h tgt lv st) (kf : x ≤ 0 → zW p l e R s m args below meth c nL b0 G k n Q h (pc + 3) lv st) : zW p l e R s m args below meth c nL b0 G k n Q h pc lv (.int (jI x) :: st) :=
  z_if_gt K hd ht (fun q => kt ((jI_lt (a := 0) ⟨by decide, by decide⟩ hx).mp q)) (fun q => kf (Int.not_lt.mp (fun z => q ((jI_lt (a := 0) ⟨by decide, by decide⟩ hx).mpr z))))
theorem zi_icmp_gt (K : zC p s m args c cc own nL b0 G) {x y : Int} {off : Int} {tgt : Nat} (hd : decode cc pc = .ok (.if_icmp .gt off, 3)) (ht : (pc : Int) + off = (tgt : Int)) (hx : i32 x) (hy : i32 y) (kt : y < x → zW p l e R s m args below meth c nL b0 G k n Q h tgt lv st) (kf : x ≤ y → zW p l e R s m args below meth c nL b0 G k n Q h (pc + 3) lv st) : zW p l e R s m args below meth c nL b0 G k n Q h pc lv (.int (jI y) :: .int (jI x) :: st) :=
  z_icmp_gt K hd ht (fun q => kt ((jI_lt hy hx).mp q)) (fun q => kf (Int.not_lt.mp (fun z => q ((jI_lt hy hx).mpr z))))
theorem zi_if_le (K : zC p s m args c cc own nL b0 G) {x : Int} {off : Int} {tgt : Nat} (hd : decode cc pc = .ok (.ifCond .le off, 3)) (ht : (pc : Int) + off = (tgt : Int)) (hx : i32 x) (kt : x ≤ 0 → zW p l e R s m args below meth c nL b0 G k n Q h tgt lv st) (kf : 0 < x → zW p l e R s m args below meth c nL b0 G k n Q h (pc + 3) lv st) : zW p l e R s m args below meth c nL b0 G k n Q h pc lv (.int (jI x) :: st) :=
  z_if_le K hd ht (fun q => kt ((jI_le (b := 0) hx ⟨by decide, by decide⟩).mp q)) (fun q => kf (Int.not_le.mp (fun z => q ((jI_le (b := 0) hx ⟨by decide, by decide⟩).mpr z))))
theorem zi_icmp_le (K : zC p s m args c cc own nL b0 G) {x y : Int} {off : Int} {tgt : Nat} (hd : decode cc pc = .ok (.if_icmp .le off, 3)) (ht : (pc : Int) + off = (tgt : Int)) (hx : i32 x) (hy : i32 y) (kt : x ≤ y → zW p l e R s m args below meth c nL b0 G k n Q h tgt lv st) (kf : y < x → zW p l e R s m args below meth c nL b0 G k n Q h (pc + 3) lv st) : zW p l e R s m args below meth c nL b0 G k n Q h pc lv (.int (jI y) :: .int (jI x) :: st) :=
  z_icmp_le K hd ht (fun q => kt ((jI_le hx hy).mp q)) (fun q => kf (Int.not_le.mp (fun z => q ((jI_le hx hy).mpr z))))
theorem zi_iinc (K : zC p s m args c cc own nL b0 G) {a : Nat} {j x : Int} (hd : decode cc pc = .ok (.iinc a j, 3)) (hl : zl lv a = some (.int (jI x))) (hn : a < nL) (kk : zW p l e R s m args below meth c nL b0 G k n Q h (pc + 3) (zs1 a (.int (jI (x + j))) lv) st) : zW p l e R s m args below meth c nL b0 G k n Q h pc lv st :=
  z_iinc K hd hl hn ((jI_add x j).symm ▸ kk)
theorem zi_iald (K : zC p s m args c cc own nL b0 G) (t0 : Nat) {a N : Nat} {cA : ClassId} {f : Int → Int} {j : Int} (hf : h.2 a = .inl (cA, N, .inl (fun i : Nat => jI (f i)))) (ht : (zTys G)[t0]? = some (cA, .int)) (h0 : 0 ≤ j) (hj : j < N) (hN : N < 2147483648) (hd : decode cc pc = .ok (.iaload, 1)) (kk : zW p l e R s m args below meth c nL b0 G k n Q h (pc + 1) lv (.int (jI (f j)) :: st)) : zW p l e R s m args below meth c nL b0 G k n Q h pc lv (.int (jI j) :: .ref a :: st) :=
  z_iald K hf ht (jI_in h0 hj hN) hd (by rw [jI_clamp h0 ⟨by omega, by omega⟩, Int.toNat_of_nonneg h0]; exact kk)
theorem zi_zald (K : zC p s m args c cc own nL b0 G) (t0 : Nat) {a N : Nat} {cA : ClassId} {f : Int → Int} {j : Int} (hf : h.2 a = .inl (cA, N, .inl (fun i : Nat => jI (f i)))) (ht : (zTys G)[t0]? = some (cA, .boolean)) (h0 : 0 ≤ j) (hj : j < N) (hN : N < 2147483648) (hd : decode cc pc = .ok (.baload, 1)) (kk : zW p l e R s m args below meth c nL b0 G k n Q h (pc + 1) lv (.int (jI (f j)) :: st)) : zW p l e R s m args below meth c nL b0 G k n Q h pc lv (.int (jI j) :: .ref a :: st) :=
  z_zald K hf ht (jI_in h0 hj hN) hd (by rw [jI_clamp h0 ⟨by omega, by omega⟩, Int.toNat_of_nonneg h0]; exact kk)
theorem zi_iast (K : zC p s m args c cc own nL b0 G) (t0 : Nat) {a N : Nat} {cA : ClassId} {f : Int → Int} {j v : Int} (hf : h.2 a = .inl (cA, N, .inl (fun i : Nat => jI (f i)))) (ht : (zTys G)[t0]? = some (cA, .int)) (h0 : 0 ≤ j) (hj : j < N) (hN : N < 2147483648) (hd : decode cc pc = .ok (.iastore, 1)) (kk : zW p l e R s m args below meth c nL b0 G k n Q (h.1, va_up h.2 a (.inl (cA, N, .inl (fun i : Nat => jI (iu f j v i))))) (pc + 1) lv st) : zW p l e R s m args below meth c nL b0 G k n Q h pc lv (.int (jI v) :: .int (jI j) :: .ref a :: st) :=
  z_iast K hf ht (jI_in h0 hj hN) hd (by rw [jI_clamp h0 ⟨by omega, by omega⟩, iu_upd f v h0]; exact kk)
theorem zi_zast (K : zC p s m args c cc own nL b0 G) (t0 : Nat) {a N : Nat} {cA : ClassId} {f : Int → Int} {j v : Int} (hf : h.2 a = .inl (cA, N, .inl (fun i : Nat => jI (f i)))) (ht : (zTys G)[t0]? = some (cA, .boolean)) (h0 : 0 ≤ j) (hj : j < N) (hN : N < 2147483648) (hv : v = 0 ∨ v = 1) (hd : decode cc pc = .ok (.bastore, 1)) (kk : zW p l e R s m args below meth c nL b0 G k n Q (h.1, va_up h.2 a (.inl (cA, N, .inl (fun i : Nat => jI (iu f j v i))))) (pc + 1) lv st) : zW p l e R s m args below meth c nL b0 G k n Q h pc lv (.int (jI v) :: .int (jI j) :: .ref a :: st) :=
  z_zast K hf ht (jI_in h0 hj hN) (by rcases hv with rfl | rfl <;> decide) hd (by rw [jI_clamp h0 ⟨by omega, by omega⟩, iu_upd f v h0]; exact kk)
theorem cv_r (x y : Int) : i32 (if y < x then 1 else if x = y then 0 else -1) := by
  split
  · exact ⟨by decide, by decide⟩
  · split <;> exact ⟨by decide, by decide⟩
theorem cv_eq {x y : Int} : ((if y < x then (1 : Int) else if x = y then 0 else -1) = 0) → x = y := by
  intro h; by_cases h1 : y < x
  · rw [if_pos h1] at h; omega
  · rw [if_neg h1] at h
    by_cases h2 : x = y
    · rw [if_pos h2] at h; omega
    · rw [if_neg h2] at h; omega
theorem cv_eqn {x y : Int} : (¬ (if y < x then (1 : Int) else if x = y then 0 else -1) = 0) → ¬ x = y := by
  intro h; by_cases h1 : y < x
  · rw [if_pos h1] at h; omega
  · rw [if_neg h1] at h
    by_cases h2 : x = y
    · rw [if_pos h2] at h; omega
    · rw [if_neg h2] at h; omega
theorem zi_lc_eq (K : zC p s m args c cc own nL b0 G) {x y : Int} {off : Int} {tgt : Nat} (hd : decode cc pc = .ok (.lcmp, 1)) (hd2 : decode cc (pc + 1) = .ok (.ifCond .eq off, 3)) (ht : ((pc + 1 : Nat) : Int) + off = (tgt : Int)) (hx : i64 x) (hy : i64 y) (kt : x = y → zW p l e R s m args below meth c nL b0 G k n Q h tgt lv st) (kf : ¬ x = y → zW p l e R s m args below meth c nL b0 G k n Q h (pc + 1 + 3) lv st) : zW p l e R s m args below meth c nL b0 G k n Q h pc lv (.long (kI y) :: .long (kI x) :: st) :=
  zi_lcmp K hd hx hy (zi_if_eq K hd2 ht (cv_r x y) (fun q => kt (cv_eq q)) (fun q => kf (cv_eqn q)))
theorem cv_ne {x y : Int} : (¬ (if y < x then (1 : Int) else if x = y then 0 else -1) = 0) → ¬ x = y := by
  intro h; by_cases h1 : y < x
  · rw [if_pos h1] at h; omega
  · rw [if_neg h1] at h
    by_cases h2 : x = y
    · rw [if_pos h2] at h; omega
    · rw [if_neg h2] at h; omega
theorem cv_nen {x y : Int} : ((if y < x then (1 : Int) else if x = y then 0 else -1) = 0) → x = y := by
  intro h; by_cases h1 : y < x
  · rw [if_pos h1] at h; omega
  · rw [if_neg h1] at h
    by_cases h2 : x = y
    · rw [if_pos h2] at h; omega
    · rw [if_neg h2] at h; omega
theorem zi_lc_ne (K : zC p s m args c cc own nL b0 G) {x y : Int} {off : Int} {tgt : Nat} (hd : decode cc pc = .ok (.lcmp, 1)) (hd2 : decode cc (pc + 1) = .ok (.ifCond .ne off, 3)) (ht : ((pc + 1 : Nat) : Int) + off = (tgt : Int)) (hx : i64 x) (hy : i64 y) (kt : ¬ x = y → zW p l e R s m args below meth c nL b0 G k n Q h tgt lv st) (kf : x = y → zW p l e R s m args below meth c nL b0 G k n Q h (pc + 1 + 3) lv st) : zW p l e R s m args below meth c nL b0 G k n Q h pc lv (.long (kI y) :: .long (kI x) :: st) :=
  zi_lcmp K hd hx hy (zi_if_ne K hd2 ht (cv_r x y) (fun q => kt (cv_ne q)) (fun q => kf (cv_nen q)))
theorem cv_lt {x y : Int} : ((if y < x then (1 : Int) else if x = y then 0 else -1) < 0) → x < y := by
  intro h; by_cases h1 : y < x
  · rw [if_pos h1] at h; omega
  · rw [if_neg h1] at h
    by_cases h2 : x = y
    · rw [if_pos h2] at h; omega
    · rw [if_neg h2] at h; omega
theorem cv_ltn {x y : Int} : (0 ≤ (if y < x then (1 : Int) else if x = y then 0 else -1)) → y ≤ x := by
  intro h; by_cases h1 : y < x
  · rw [if_pos h1] at h; omega
  · rw [if_neg h1] at h
    by_cases h2 : x = y
    · rw [if_pos h2] at h; omega
    · rw [if_neg h2] at h; omega
theorem zi_lc_lt (K : zC p s m args c cc own nL b0 G) {x y : Int} {off : Int} {tgt : Nat} (hd : decode cc pc = .ok (.lcmp, 1)) (hd2 : decode cc (pc + 1) = .ok (.ifCond .lt off, 3)) (ht : ((pc + 1 : Nat) : Int) + off = (tgt : Int)) (hx : i64 x) (hy : i64 y) (kt : x < y → zW p l e R s m args below meth c nL b0 G k n Q h tgt lv st) (kf : y ≤ x → zW p l e R s m args below meth c nL b0 G k n Q h (pc + 1 + 3) lv st) : zW p l e R s m args below meth c nL b0 G k n Q h pc lv (.long (kI y) :: .long (kI x) :: st) :=
  zi_lcmp K hd hx hy (zi_if_lt K hd2 ht (cv_r x y) (fun q => kt (cv_lt q)) (fun q => kf (cv_ltn q)))
theorem cv_ge {x y : Int} : (0 ≤ (if y < x then (1 : Int) else if x = y then 0 else -1)) → y ≤ x := by
  intro h; by_cases h1 : y < x
  · rw [if_pos h1] at h; omega
  · rw [if_neg h1] at h
    by_cases h2 : x = y
    · rw [if_pos h2] at h; omega
    · rw [if_neg h2] at h; omega
theorem cv_gen {x y : Int} : ((if y < x then (1 : Int) else if x = y then 0 else -1) < 0) → x < y := by
  intro h; by_cases h1 : y < x
  · rw [if_pos h1] at h; omega
  · rw [if_neg h1] at h
    by_cases h2 : x = y
    · rw [if_pos h2] at h; omega
    · rw [if_neg h2] at h; omega
theorem zi_lc_ge (K : zC p s m args c cc own nL b0 G) {x y : Int} {off : Int} {tgt : Nat} (hd : decode cc pc = .ok (.lcmp, 1)) (hd2 : decode cc (pc + 1) = .ok (.ifCond .ge off, 3)) (ht : ((pc + 1 : Nat) : Int) + off = (tgt : Int)) (hx : i64 x) (hy : i64 y) (kt : y ≤ x → zW p l e R s m args below meth c nL b0 G k n Q h tgt lv st) (kf : x < y → zW p l e R s m args below meth c nL b0 G k n Q h (pc + 1 + 3) lv st) : zW p l e R s m args below meth c nL b0 G k n Q h pc lv (.long (kI y) :: .long (kI x) :: st) :=
  zi_lcmp K hd hx hy (zi_if_ge K hd2 ht (cv_r x y) (fun q => kt (cv_ge q)) (fun q => kf (cv_gen q)))
theorem cv_gt {x y : Int} : (0 < (if y < x then (1 : Int) else if x = y then 0 else -1)) → y < x := by
  intro h; by_cases h1 : y < x
  · rw [if_pos h1] at h; omega
  · rw [if_neg h1] at h
    by_cases h2 : x = y
    · rw [if_pos h2] at h; omega
    · rw [if_neg h2] at h; omega
theorem cv_gtn {x y : Int} : ((if y < x then (1 : Int) else if x = y then 0 else -1) ≤ 0) → x ≤ y := by
  intro h; by_cases h1 : y < x
  · rw [if_pos h1] at h; omega
  · rw [if_neg h1] at h
    by_cases h2 : x = y
    · rw [if_pos h2] at h; omega
    · rw [if_neg h2] at h; omega
theorem zi_lc_gt (K : zC p s m args c cc own nL b0 G) {x y : Int} {off : Int} {tgt : Nat} (hd : decode cc pc = .ok (.lcmp, 1)) (hd2 : decode cc (pc + 1) = .ok (.ifCond .gt off, 3)) (ht : ((pc + 1 : Nat) : Int) + off = (tgt : Int)) (hx : i64 x) (hy : i64 y) (kt : y < x → zW p l e R s m args below meth c nL b0 G k n Q h tgt lv st) (kf : x ≤ y → zW p l e R s m args below meth c nL b0 G k n Q h (pc + 1 + 3) lv st) : zW p l e R s m args below meth c nL b0 G k n Q h pc lv (.long (kI y) :: .long (kI x) :: st) :=
  zi_lcmp K hd hx hy (zi_if_gt K hd2 ht (cv_r x y) (fun q => kt (cv_gt q)) (fun q => kf (cv_gtn q)))
theorem cv_le {x y : Int} : ((if y < x then (1 : Int) else if x = y then 0 else -1) ≤ 0) → x ≤ y := by
  intro h; by_cases h1 : y < x
  · rw [if_pos h1] at h; omega
  · rw [if_neg h1] at h
    by_cases h2 : x = y
    · rw [if_pos h2] at h; omega
    · rw [if_neg h2] at h; omega
theorem cv_len {x y : Int} : (0 < (if y < x then (1 : Int) else if x = y then 0 else -1)) → y < x := by
  intro h; by_cases h1 : y < x
  · rw [if_pos h1] at h; omega
  · rw [if_neg h1] at h
    by_cases h2 : x = y
    · rw [if_pos h2] at h; omega
    · rw [if_neg h2] at h; omega
theorem zi_lc_le (K : zC p s m args c cc own nL b0 G) {x y : Int} {off : Int} {tgt : Nat} (hd : decode cc pc = .ok (.lcmp, 1)) (hd2 : decode cc (pc + 1) = .ok (.ifCond .le off, 3)) (ht : ((pc + 1 : Nat) : Int) + off = (tgt : Int)) (hx : i64 x) (hy : i64 y) (kt : x ≤ y → zW p l e R s m args below meth c nL b0 G k n Q h tgt lv st) (kf : y < x → zW p l e R s m args below meth c nL b0 G k n Q h (pc + 1 + 3) lv st) : zW p l e R s m args below meth c nL b0 G k n Q h pc lv (.long (kI y) :: .long (kI x) :: st) :=
  zi_lcmp K hd hx hy (zi_if_le K hd2 ht (cv_r x y) (fun q => kt (cv_le q)) (fun q => kf (cv_len q)))
end ZI
