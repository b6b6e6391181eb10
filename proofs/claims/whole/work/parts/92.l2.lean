def scI (xs : Nat → Int32) (i : Int) : Int := (xs i.toNat).toInt
theorem scI_j (xs : Nat → Int32) (i : Int) : jI (scI xs i) = xs i.toNat := by simp [scI, jI]
theorem scI_i (xs : Nat → Int32) (i : Int) : i32 (scI xs i) := ⟨by have := Int32.le_toInt (xs i.toNat); simpa [scI] using this, by have := Int32.toInt_lt (xs i.toNat); simpa [scI] using this⟩
def lgI (xs : Nat → Int32) (i j : Int) : Int := (((jI (scI xs i)).toInt64 <<< ((jI 32).toInt64 &&& 63)) ||| ((jI (scI xs j)).toInt64 &&& 4294967295)).toInt
theorem lgI_i (xs : Nat → Int32) (i j : Int) : i64 (lgI xs i j) := ⟨by have := Int64.le_toInt (((jI (scI xs i)).toInt64 <<< ((jI 32).toInt64 &&& 63)) ||| ((jI (scI xs j)).toInt64 &&& 4294967295)); simpa [lgI] using this, by have := Int64.toInt_lt (((jI (scI xs i)).toInt64 <<< ((jI 32).toInt64 &&& 63)) ||| ((jI (scI xs j)).toInt64 &&& 4294967295)); simpa [lgI] using this⟩
theorem kI_lg (xs : Nat → Int32) (i j : Int) : kI (lgI xs i j) = (((jI (scI xs i)).toInt64 <<< ((jI 32).toInt64 &&& 63)) ||| ((jI (scI xs j)).toInt64 &&& 4294967295)) := Int64.ofInt_toInt _
/-- the law's own frame: the script of L ints lies at b, ahead of all that is made -/
def lwK (p : Program) (s : State) (m : MethodId) (args : Array Value) (c : Code) (b0 : Nat) (G : zG) (b L : Nat) (xs : Nat → Int32) : Prop := zC p s m args c code R_law 4 b0 G ∧ va_X b L xs s s.heap ∧ b < b0 ∧ L ≤ 5120
section L2
variable {p : Program} {l : Launch} {e : Env} {R : Room} {s : State} {m : MethodId} {args : Array Value} {below : List Frame} {meth : Method} {c : Code} {Q : State → Prop} {b0 kc ks : Nat} {G : zG} {h : zH} {a : Nat} {cd : Int}
variable {b L pc : Nat} {xs : Nat → Int32} {lv : List (Nat × Value)} {st : List Value} {hh : zH} {i : Int}
theorem z_sld (KK : lwK p s m args c b0 G b L xs) (h0 : 0 ≤ i) (hi : i < L) (hd : decode code pc = .ok (.iaload, 1)) (kk : zW p l e R s m args below meth c 4 b0 G kc ks Q hh (pc + 1) lv (.int (jI (scI xs i)) :: st)) : zW p l e R s m args below meth c 4 b0 G kc ks Q hh pc lv (.int (jI i) :: .ref b :: st) := fun H locs ls q0 q1 q2 q3 q4 => by
  obtain ⟨K, hX, hb, hL⟩ := KK
  refine va_sld K.1 K.2.1 hX (Nat.lt_of_lt_of_le hb K.2.2.2.2.2.2.2.2) (Nat.not_le.mpr hb) q3 (jI_in h0 hi (by omega)) hd ?_
  rw [jI_clamp h0 (by omega), ← scI_j xs i]
  exact kk H locs ls q0 q1 q2 q3 q4
theorem z_sln (KK : lwK p s m args c b0 G b L xs) (hd : decode code pc = .ok (.arraylength, 1)) (kk : zW p l e R s m args below meth c 4 b0 G kc ks Q hh (pc + 1) lv (.int (jI (L : Int)) :: st)) : zW p l e R s m args below meth c 4 b0 G kc ks Q hh pc lv (.ref b :: st) := fun H locs ls q0 q1 q2 q3 q4 => by
  obtain ⟨K, hX, hb, hL⟩ := KK
  refine va_slen K.1 K.2.1 hX (Nat.lt_of_lt_of_le hb K.2.2.2.2.2.2.2.2) (Nat.not_le.mpr hb) q3 hd ?_
  have e : Int32.ofNat L = jI (L : Int) := nI_jI L
  rw [e]
  exact kk H locs ls q0 q1 q2 q3 q4
theorem z_sc1 (KK : lwK p s m args c b0 G b L xs) {k : Int} (l0 : zl lv 0 = some (.ref b)) (l3 : zl lv 3 = some (.int (jI i))) (h0 : 0 ≤ i + k) (hi : i + k < L) (d1 : decode code pc = .ok (.aload_n 0, 1)) (d2 : decode code (pc + 1) = .ok (.iload_n 3, 1)) (d3 : decode code (pc + 2) = .ok (.iconst k, 1)) (d4 : decode code (pc + 3) = .ok (.iadd, 1)) (d5 : decode code (pc + 4) = .ok (.iaload, 1)) (kk : zW p l e R s m args below meth c 4 b0 G kc ks Q hh (pc + 5) lv (.int (jI (scI xs (i + k))) :: st)) : zW p l e R s m args below meth c 4 b0 G kc ks Q hh pc lv st := by
  refine z_aload_n KK.1 d1 l0 ?_
  refine z_iload_n KK.1 d2 l3 ?_
  refine z_iconst (v := jI k) KK.1 d3 rfl ?_
  refine zi_iadd KK.1 d4 ?_
  exact z_sld KK h0 hi d5 kk
theorem z_sc2 (KK : lwK p s m args c b0 G b L xs) {k : Int} (l0 : zl lv 0 = some (.ref b)) (l3 : zl lv 3 = some (.int (jI i))) (h0 : 0 ≤ i + k) (hi : i + k < L) (hk : (Int8.ofInt k).toInt32 = jI k) (d1 : decode code pc = .ok (.aload_n 0, 1)) (d2 : decode code (pc + 1) = .ok (.iload_n 3, 1)) (d3 : decode code (pc + 2) = .ok (.bipush k, 2)) (d4 : decode code (pc + 4) = .ok (.iadd, 1)) (d5 : decode code (pc + 5) = .ok (.iaload, 1)) (kk : zW p l e R s m args below meth c 4 b0 G kc ks Q hh (pc + 6) lv (.int (jI (scI xs (i + k))) :: st)) : zW p l e R s m args below meth c 4 b0 G kc ks Q hh pc lv st := by
  refine z_aload_n KK.1 d1 l0 ?_
  refine z_iload_n KK.1 d2 l3 ?_
  refine z_bipush (v := jI k) KK.1 d3 hk ?_
  refine zi_iadd KK.1 d4 ?_
  exact z_sld KK h0 hi d5 kk
theorem z_lg0 (KK : lwK p s m args c b0 G b L xs) {i j : Int} (d1 : decode code pc = .ok (.i2l, 1)) (d2 : decode code (pc + 1) = .ok (.ldc2_w 23, 3)) (d3 : decode code (pc + 4) = .ok (.land, 1)) (d4 : decode code (pc + 5) = .ok (.lor, 1)) (kk : zW p l e R s m args below meth c 4 b0 G kc ks Q hh (pc + 6) lv (.long (kI (lgI xs i j)) :: st)) : zW p l e R s m args below meth c 4 b0 G kc ks Q hh pc lv (.int (jI (scI xs j)) :: .long ((jI (scI xs i)).toInt64 <<< ((jI 32).toInt64 &&& 63)) :: st) := by
  refine z_i2l KK.1 d1 ?_
  refine z_ldc2 (v := 4294967295) KK.1 d2 kc_L_23 ?_
  refine z_land KK.1 d3 ?_
  refine z_lor KK.1 d4 ?_
  rw [kI_lg] at kk
  exact kk
end L2
