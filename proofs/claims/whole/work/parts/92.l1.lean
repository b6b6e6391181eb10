/-! the law: class and reference side by side -/
theorem hxm {G : zG} {h : zH} {a b : Nat} {cd : Int} {S : xS} {T : mT} (hab : a + 197 ≤ b) : hx G (hm G h b cd T) a S = hm G (hx G h a S) b cd T := by
  refine Prod.ext rfl (funext fun q => ?_)
  show (if a ≤ q ∧ q < a + 197 then xCell G a S (q - a) else (hm G h b cd T).2 q) = _
  by_cases e : a ≤ q ∧ q < a + 197
  · rw [if_pos e]
    unfold hm
    dsimp only
    rw [if_neg (by omega), if_neg (by omega), if_neg (by omega), if_neg (by omega), if_neg (by omega)]
    show _ = if a ≤ q ∧ q < a + 197 then xCell G a S (q - a) else h.2 q
    rw [if_pos e]
  · rw [if_neg e]
    have e2 : (hx G h a S).2 q = h.2 q := by
      show (if a ≤ q ∧ q < a + 197 then xCell G a S (q - a) else h.2 q) = _
      rw [if_neg e]
    unfold hm
    dsimp only
    rw [e2]
def LO (pts : Int → ecP) : Prop := ∀ i : Int, ¬ (0 ≤ i ∧ i < 8) → pts i = none
theorem LO.up {pts : Int → ecP} (h : LO pts) {s0 : Int} (hs : 0 ≤ s0 ∧ s0 < 8) {P : ecP} : LO (fun i => if i = s0 then P else pts i) := fun i hi => by
  dsimp only
  rw [if_neg (fun e : i = s0 => hi (by omega))]
  exact h i hi
/-- both hold the same -/
def LI (S : xS) (T : mT) : Prop := ∃ (U : Nat → Int) (A : ecE) (pts : Int → ecP), XS S U A pts ∧ RS T pts A ∧ LO pts
theorem ecOk.cpA {A : ecE} (h : ecOk A) : capA A := ⟨h.bq.1, h.bq.2.1, h.bq.2.2.1, h.bq.2.2.2.1, h.bq.2.2.2.2.1⟩
theorem XS.cp {S : xS} {U : Nat → Int} {A : ecE} {pts : Int → ecP} (h : XS S U A pts) (hn : LO pts) (i : Int) : capJ (pts i) := by
  by_cases c : 0 ≤ i ∧ i < 8
  · exact (slP.cap h.2.2.2.2.1 (h.2.2.2.2.2 i c.1 c.2).2).1
  · rw [hn i c]; trivial
theorem XS.okS {S : xS} {U : Nat → Int} {A : ecE} {pts : Int → ecP} (h : XS S U A pts) {s0 s1 : Int} (c0 : 0 ≤ s0 ∧ s0 < 8) (c1 : 0 ≤ s1 ∧ s1 < 8) : okJ A (pts s0) (pts s1) ∧ capZ (jnA A (pts s0) (pts s1)) := by
  have q0 := (h.2.2.2.2.2 s0 c0.1 c0.2).2
  have q1 := (h.2.2.2.2.2 s1 c1.1 c1.2).2
  exact sum_ok h.2.2.2.2.1 q0.on q1.on q0.wd q1.wd
theorem XS.okL {S : xS} {U : Nat → Int} {A : ecE} {pts : Int → ecP} (h : XS S U A pts) {s0 s1 : Int} (c0 : 0 ≤ s0 ∧ s0 < 8) (c1 : 0 ≤ s1 ∧ s1 < 8) : okJ A (pts s0) (ngP A.1 A.2.2.1 (pts s1)) ∧ capZ (jnA A (pts s0) (ngP A.1 A.2.2.1 (pts s1))) ∧ capJ (ngP A.1 A.2.2.1 (pts s1)) := by
  have q0 := (h.2.2.2.2.2 s0 c0.1 c0.2).2
  have q1 := (h.2.2.2.2.2 s1 c1.1 c1.2).2
  have k := sum_ok h.2.2.2.2.1 q0.on (ng_q q1.on).1 q0.wd (fun w => q1.wd (ng_wd.1 w))
  exact ⟨k.1, k.2, (slP.cap h.2.2.2.2.1 q1).2⟩
theorem XS.okR {S : xS} {U : Nat → Int} {A : ecE} {pts : Int → ecP} (h : XS S U A pts) {s0 : Int} (c0 : 0 ≤ s0 ∧ s0 < 8) : okO A (pts s0) 12 (pts s0) := order_ok h.2.2.2.2.1 (h.2.2.2.2.2 s0 c0.1 c0.2).2
theorem XS.okT {S : xS} {U : Nat → Int} {A : ecE} {pts : Int → ecP} (h : XS S U A pts) {s0 : Int} (c0 : 0 ≤ s0 ∧ s0 < 8) (lf : Nat) : okT A (pts s0) lf 21 Option.none ∧ ∀ R', TmR A (pts s0) lf 21 Option.none (some R') → capJ R' ∧ capJ (ngP A.1 A.2.2.1 R') := times_ok h.2.2.2.2.1 (h.2.2.2.2.2 s0 c0.1 c0.2).2 lf
theorem rv_isNone {S : xS} {S' : xS} {pts : Int → ecP} {s0 : Int} {r : Option Value} (qx : S = S' ∧ ∃ b : Int, r = some (.int (jI b)) ∧ (b = 0 ∨ b = 1) ∧ (b = 1 ↔ (0 ≤ s0 ∧ s0 < 8) ∧ pts s0 = none)) : ∃ v : Int32, r = some (.int v) := by
  rcases qx with ⟨_, b, rfl, _⟩ <;> exact ⟨_, rfl⟩
theorem ag_isNone {S S' : xS} {T T' : mT} {U : Nat → Int} {A : ecE} {pts : Int → ecP} {s0 : Int} {r o : Option Value} (hX : XS S U A pts) (hM : RS T pts A) (hn : LO pts) (qx : S = S' ∧ ∃ b : Int, r = some (.int (jI b)) ∧ (b = 0 ∨ b = 1) ∧ (b = 1 ↔ (0 ≤ s0 ∧ s0 < 8) ∧ pts s0 = none)) (qm : T = T' ∧ ∃ b : Int, o = some (.int (jI b)) ∧ (b = 0 ∨ b = 1) ∧ (b = 1 ↔ (0 ≤ s0 ∧ s0 < 8) ∧ pts s0 = none)) : o = r ∧ LI S' T' := by
  obtain ⟨rfl, b, rfl, b1, b2⟩ := qx
  obtain ⟨rfl, b', rfl, c1, c2⟩ := qm
  have e1 : b = 1 ↔ b' = 1 := b2.trans c2.symm
  have e2 : b = b' := by omega
  exact ⟨by rw [e2], U, A, pts, hX, hM, hn⟩
theorem rv_none {S : xS} {S' : xS} {U : Nat → Int} {A : ecE} {pts : Int → ecP} {s0 : Int} {r : Option Value} (qx : (0 ≤ s0 ∧ s0 < 8) ∧ r = some (.int (jI 1)) ∧ XS S' U A (fun i => if i = s0 then Option.none else pts i) ∨ ¬ (0 ≤ s0 ∧ s0 < 8) ∧ r = some (.int (jI 0)) ∧ S = S') : ∃ v : Int32, r = some (.int v) := by
  rcases qx with ⟨_, rfl, _⟩ | ⟨_, rfl, _⟩ <;> exact ⟨_, rfl⟩
theorem ag_none {S S' : xS} {T T' : mT} {U : Nat → Int} {A : ecE} {pts : Int → ecP} {s0 : Int} {r o : Option Value} (hX : XS S U A pts) (hM : RS T pts A) (hn : LO pts) (qx : (0 ≤ s0 ∧ s0 < 8) ∧ r = some (.int (jI 1)) ∧ XS S' U A (fun i => if i = s0 then Option.none else pts i) ∨ ¬ (0 ≤ s0 ∧ s0 < 8) ∧ r = some (.int (jI 0)) ∧ S = S') (qm : (0 ≤ s0 ∧ s0 < 8) ∧ o = some (.int (jI 1)) ∧ RS T' (fun i => if i = s0 then none else pts i) A ∨ ¬ (0 ≤ s0 ∧ s0 < 8) ∧ o = some (.int (jI 0)) ∧ T = T') : o = r ∧ LI S' T' := by
  rcases qx with ⟨c, rfl, x⟩ | ⟨c, rfl, rfl⟩
  · rcases qm with ⟨d, rfl, m⟩ | ⟨d, rfl, rfl⟩
    · exact ⟨rfl, U, A, _, x, m, hn.up c⟩
    · exact absurd c d
  · rcases qm with ⟨d, rfl, m⟩ | ⟨d, rfl, rfl⟩
    · exact absurd d c
    · exact ⟨rfl, U, A, pts, hX, hM, hn⟩
theorem rv_same {S : xS} {S' : xS} {pts : Int → ecP} {s0 s1 : Int} {r : Option Value} (qx : S = S' ∧ ∃ b : Int, r = some (.int (jI b)) ∧ (b = 0 ∨ b = 1) ∧ (b = 1 ↔ (0 ≤ s0 ∧ s0 < 8) ∧ (0 ≤ s1 ∧ s1 < 8) ∧ pts s0 = pts s1)) : ∃ v : Int32, r = some (.int v) := by
  rcases qx with ⟨_, b, rfl, _⟩ <;> exact ⟨_, rfl⟩
theorem ag_same {S S' : xS} {T T' : mT} {U : Nat → Int} {A : ecE} {pts : Int → ecP} {s0 s1 : Int} {r o : Option Value} (hX : XS S U A pts) (hM : RS T pts A) (hn : LO pts) (qx : S = S' ∧ ∃ b : Int, r = some (.int (jI b)) ∧ (b = 0 ∨ b = 1) ∧ (b = 1 ↔ (0 ≤ s0 ∧ s0 < 8) ∧ (0 ≤ s1 ∧ s1 < 8) ∧ pts s0 = pts s1)) (qm : T = T' ∧ ∃ b : Int, o = some (.int (jI b)) ∧ (b = 0 ∨ b = 1) ∧ (b = 1 ↔ (0 ≤ s0 ∧ s0 < 8) ∧ (0 ≤ s1 ∧ s1 < 8) ∧ pts s0 = pts s1)) : o = r ∧ LI S' T' := by
  obtain ⟨rfl, b, rfl, b1, b2⟩ := qx
  obtain ⟨rfl, b', rfl, c1, c2⟩ := qm
  have e1 : b = 1 ↔ b' = 1 := b2.trans c2.symm
  have e2 : b = b' := by omega
  exact ⟨by rw [e2], U, A, pts, hX, hM, hn⟩
theorem rv_sum {S' : xS} {A : ecE} {pts : Int → ecP} {s0 s1 s2 : Int} {r : Option Value} (qx : (¬ ((0 ≤ s0 ∧ s0 < 8) ∧ (0 ≤ s1 ∧ s1 < 8) ∧ (0 ≤ s2 ∧ s2 < 8)) ∧ r = some (.int (jI (-1))) ∧ ∃ U', XS S' U' A pts) ∨ (((0 ≤ s0 ∧ s0 < 8) ∧ (0 ≤ s1 ∧ s1 < 8) ∧ (0 ≤ s2 ∧ s2 < 8)) ∧ ((r = some (.int (jI 0)) ∧ tlP (jnA A (pts s0) (pts s1)) ∧ ∃ U', XS S' U' A pts) ∨ (r = some (.int (jI 1)) ∧ ¬ tlP (jnA A (pts s0) (pts s1)) ∧ ∃ U', XS S' U' A (fun i => if i = s2 then jnA A (pts s0) (pts s1) else pts i))))) : ∃ v : Int32, r = some (.int v) := by
  rcases qx with ⟨_, rfl, _⟩ | ⟨_, ⟨rfl, _⟩ | ⟨rfl, _⟩⟩ <;> exact ⟨_, rfl⟩
theorem ag_sum {S S' : xS} {T T' : mT} {U : Nat → Int} {A : ecE} {pts : Int → ecP} {s0 s1 s2 : Int} {r o : Option Value} (hX : XS S U A pts) (hM : RS T pts A) (hn : LO pts) (qx : (¬ ((0 ≤ s0 ∧ s0 < 8) ∧ (0 ≤ s1 ∧ s1 < 8) ∧ (0 ≤ s2 ∧ s2 < 8)) ∧ r = some (.int (jI (-1))) ∧ ∃ U', XS S' U' A pts) ∨ (((0 ≤ s0 ∧ s0 < 8) ∧ (0 ≤ s1 ∧ s1 < 8) ∧ (0 ≤ s2 ∧ s2 < 8)) ∧ ((r = some (.int (jI 0)) ∧ tlP (jnA A (pts s0) (pts s1)) ∧ ∃ U', XS S' U' A pts) ∨ (r = some (.int (jI 1)) ∧ ¬ tlP (jnA A (pts s0) (pts s1)) ∧ ∃ U', XS S' U' A (fun i => if i = s2 then jnA A (pts s0) (pts s1) else pts i))))) (qm : (¬ ((0 ≤ s0 ∧ s0 < 8) ∧ (0 ≤ s1 ∧ s1 < 8) ∧ (0 ≤ s2 ∧ s2 < 8)) ∧ o = some (.int (jI (-1))) ∧ RS T' pts A) ∨ (((0 ≤ s0 ∧ s0 < 8) ∧ (0 ≤ s1 ∧ s1 < 8) ∧ (0 ≤ s2 ∧ s2 < 8)) ∧ ((o = some (.int (jI 0)) ∧ tlP (jnA A (pts s0) (pts s1)) ∧ RS T' pts A) ∨ (o = some (.int (jI 1)) ∧ ¬ tlP (jnA A (pts s0) (pts s1)) ∧ RS T' (fun i => if i = s2 then jnA A (pts s0) (pts s1) else pts i) A)))) : o = r ∧ LI S' T' := by
  rcases qx with ⟨c, rfl, U', x⟩ | ⟨c, ⟨rfl, t, U', x⟩ | ⟨rfl, t, U', x⟩⟩
  · rcases qm with ⟨d, rfl, m⟩ | ⟨d, _⟩
    · exact ⟨rfl, U', A, pts, x, m, hn⟩
    · exact absurd d c
  · rcases qm with ⟨d, rfl, m⟩ | ⟨d, ⟨rfl, t', m⟩ | ⟨rfl, t', m⟩⟩
    · exact absurd c d
    · exact ⟨rfl, U', A, pts, x, m, hn⟩
    · exact absurd t t'
  · rcases qm with ⟨d, rfl, m⟩ | ⟨d, ⟨rfl, t', m⟩ | ⟨rfl, t', m⟩⟩
    · exact absurd c d
    · exact absurd t' t
    · exact ⟨rfl, U', A, _, x, m, hn.up c.2.2⟩
theorem rv_less {S' : xS} {A : ecE} {pts : Int → ecP} {s0 s1 s2 : Int} {r : Option Value} (qx : (¬ ((0 ≤ s0 ∧ s0 < 8) ∧ (0 ≤ s1 ∧ s1 < 8) ∧ (0 ≤ s2 ∧ s2 < 8)) ∧ r = some (.int (jI (-1))) ∧ ∃ U', XS S' U' A pts) ∨ (((0 ≤ s0 ∧ s0 < 8) ∧ (0 ≤ s1 ∧ s1 < 8) ∧ (0 ≤ s2 ∧ s2 < 8)) ∧ ((r = some (.int (jI 0)) ∧ tlP (jnA A (pts s0) (ngP A.1 A.2.2.1 (pts s1))) ∧ ∃ U', XS S' U' A pts) ∨ (r = some (.int (jI 1)) ∧ ¬ tlP (jnA A (pts s0) (ngP A.1 A.2.2.1 (pts s1))) ∧ ∃ U', XS S' U' A (fun i => if i = s2 then jnA A (pts s0) (ngP A.1 A.2.2.1 (pts s1)) else pts i))))) : ∃ v : Int32, r = some (.int v) := by
  rcases qx with ⟨_, rfl, _⟩ | ⟨_, ⟨rfl, _⟩ | ⟨rfl, _⟩⟩ <;> exact ⟨_, rfl⟩
theorem ag_less {S S' : xS} {T T' : mT} {U : Nat → Int} {A : ecE} {pts : Int → ecP} {s0 s1 s2 : Int} {r o : Option Value} (hX : XS S U A pts) (hM : RS T pts A) (hn : LO pts) (qx : (¬ ((0 ≤ s0 ∧ s0 < 8) ∧ (0 ≤ s1 ∧ s1 < 8) ∧ (0 ≤ s2 ∧ s2 < 8)) ∧ r = some (.int (jI (-1))) ∧ ∃ U', XS S' U' A pts) ∨ (((0 ≤ s0 ∧ s0 < 8) ∧ (0 ≤ s1 ∧ s1 < 8) ∧ (0 ≤ s2 ∧ s2 < 8)) ∧ ((r = some (.int (jI 0)) ∧ tlP (jnA A (pts s0) (ngP A.1 A.2.2.1 (pts s1))) ∧ ∃ U', XS S' U' A pts) ∨ (r = some (.int (jI 1)) ∧ ¬ tlP (jnA A (pts s0) (ngP A.1 A.2.2.1 (pts s1))) ∧ ∃ U', XS S' U' A (fun i => if i = s2 then jnA A (pts s0) (ngP A.1 A.2.2.1 (pts s1)) else pts i))))) (qm : (¬ ((0 ≤ s0 ∧ s0 < 8) ∧ (0 ≤ s1 ∧ s1 < 8) ∧ (0 ≤ s2 ∧ s2 < 8)) ∧ o = some (.int (jI (-1))) ∧ RS T' pts A) ∨ (((0 ≤ s0 ∧ s0 < 8) ∧ (0 ≤ s1 ∧ s1 < 8) ∧ (0 ≤ s2 ∧ s2 < 8)) ∧ ((o = some (.int (jI 0)) ∧ tlP (jnA A (pts s0) (ngP A.1 A.2.2.1 (pts s1))) ∧ RS T' pts A) ∨ (o = some (.int (jI 1)) ∧ ¬ tlP (jnA A (pts s0) (ngP A.1 A.2.2.1 (pts s1))) ∧ RS T' (fun i => if i = s2 then jnA A (pts s0) (ngP A.1 A.2.2.1 (pts s1)) else pts i) A)))) : o = r ∧ LI S' T' := by
  rcases qx with ⟨c, rfl, U', x⟩ | ⟨c, ⟨rfl, t, U', x⟩ | ⟨rfl, t, U', x⟩⟩
  · rcases qm with ⟨d, rfl, m⟩ | ⟨d, _⟩
    · exact ⟨rfl, U', A, pts, x, m, hn⟩
    · exact absurd d c
  · rcases qm with ⟨d, rfl, m⟩ | ⟨d, ⟨rfl, t', m⟩ | ⟨rfl, t', m⟩⟩
    · exact absurd c d
    · exact ⟨rfl, U', A, pts, x, m, hn⟩
    · exact absurd t t'
  · rcases qm with ⟨d, rfl, m⟩ | ⟨d, ⟨rfl, t', m⟩ | ⟨rfl, t', m⟩⟩
    · exact absurd c d
    · exact absurd t' t
    · exact ⟨rfl, U', A, _, x, m, hn.up c.2.2⟩
theorem rv_point {S : xS} {S' : xS} {A : ecE} {pts : Int → ecP} {s0 u1 w1 u2 w2 : Int} {r : Option Value} (qx : ((0 ≤ s0 ∧ s0 < 8) ∧ w1 ≠ 0 ∧ w2 ≠ 0) ∧ (pRight A (fUp u1 w1) (fLo u1 w1) (fUp u2 w2) (fLo u2 w2) = pLeft A (fUp u1 w1) (fLo u1 w1) (fUp u2 w2) (fLo u2 w2) ∧ r = some (.int (jI 1)) ∧ (∃ U', XS S' U' A (fun i => if i = s0 then some (fUp u1 w1, fUp u2 w2, (fLo u2 w2).tdiv (fLo u1 w1)) else pts i)) ∨ ¬ pRight A (fUp u1 w1) (fLo u1 w1) (fUp u2 w2) (fLo u2 w2) = pLeft A (fUp u1 w1) (fLo u1 w1) (fUp u2 w2) (fLo u2 w2) ∧ r = some (.int (jI 0)) ∧ ∃ U', XS S' U' A pts) ∨ ¬ ((0 ≤ s0 ∧ s0 < 8) ∧ w1 ≠ 0 ∧ w2 ≠ 0) ∧ r = some (.int (jI (-1))) ∧ S = S') : ∃ v : Int32, r = some (.int v) := by
  rcases qx with ⟨_, ⟨_, rfl, _⟩ | ⟨_, rfl, _⟩⟩ | ⟨_, rfl, _⟩ <;> exact ⟨_, rfl⟩
theorem ag_point {S S' : xS} {T T' : mT} {U : Nat → Int} {A : ecE} {pts : Int → ecP} {s0 u1 w1 u2 w2 : Int} {r o : Option Value} (hX : XS S U A pts) (hM : RS T pts A) (hn : LO pts) (qx : ((0 ≤ s0 ∧ s0 < 8) ∧ w1 ≠ 0 ∧ w2 ≠ 0) ∧ (pRight A (fUp u1 w1) (fLo u1 w1) (fUp u2 w2) (fLo u2 w2) = pLeft A (fUp u1 w1) (fLo u1 w1) (fUp u2 w2) (fLo u2 w2) ∧ r = some (.int (jI 1)) ∧ (∃ U', XS S' U' A (fun i => if i = s0 then some (fUp u1 w1, fUp u2 w2, (fLo u2 w2).tdiv (fLo u1 w1)) else pts i)) ∨ ¬ pRight A (fUp u1 w1) (fLo u1 w1) (fUp u2 w2) (fLo u2 w2) = pLeft A (fUp u1 w1) (fLo u1 w1) (fUp u2 w2) (fLo u2 w2) ∧ r = some (.int (jI 0)) ∧ ∃ U', XS S' U' A pts) ∨ ¬ ((0 ≤ s0 ∧ s0 < 8) ∧ w1 ≠ 0 ∧ w2 ≠ 0) ∧ r = some (.int (jI (-1))) ∧ S = S') (qm : ((0 ≤ s0 ∧ s0 < 8) ∧ w1 ≠ 0 ∧ w2 ≠ 0) ∧ (pRight A (fUp u1 w1) (fLo u1 w1) (fUp u2 w2) (fLo u2 w2) = pLeft A (fUp u1 w1) (fLo u1 w1) (fUp u2 w2) (fLo u2 w2) ∧ o = some (.int (jI 1)) ∧ RS T' (fun i => if i = s0 then some (fUp u1 w1, fUp u2 w2, (fLo u2 w2).tdiv (fLo u1 w1)) else pts i) A ∨ ¬ pRight A (fUp u1 w1) (fLo u1 w1) (fUp u2 w2) (fLo u2 w2) = pLeft A (fUp u1 w1) (fLo u1 w1) (fUp u2 w2) (fLo u2 w2) ∧ o = some (.int (jI 0)) ∧ RS T' pts A) ∨ ¬ ((0 ≤ s0 ∧ s0 < 8) ∧ w1 ≠ 0 ∧ w2 ≠ 0) ∧ o = some (.int (jI (-1))) ∧ T = T') : o = r ∧ LI S' T' := by
  rcases qx with ⟨c, ⟨t, rfl, U', x⟩ | ⟨t, rfl, U', x⟩⟩ | ⟨c, rfl, rfl⟩
  · rcases qm with ⟨d, ⟨t', rfl, m⟩ | ⟨t', rfl, m⟩⟩ | ⟨d, rfl, rfl⟩
    · exact ⟨rfl, U', A, _, x, m, hn.up c.1⟩
    · exact absurd t t'
    · exact absurd c d
  · rcases qm with ⟨d, ⟨t', rfl, m⟩ | ⟨t', rfl, m⟩⟩ | ⟨d, rfl, rfl⟩
    · exact absurd t' t
    · exact ⟨rfl, U', A, pts, x, m, hn⟩
    · exact absurd c d
  · rcases qm with ⟨d, _⟩ | ⟨d, rfl, rfl⟩
    · exact absurd d c
    · exact ⟨rfl, U, A, pts, hX, hM, hn⟩
theorem rv_curve {S : xS} {S' : xS} {A : ecE} {pts : Int → ecP} {c1 c2 c3 c4 c6 : Int} {r : Option Value} (qx : (isIn5 c1 ∧ isIn5 c2 ∧ isIn5 c3 ∧ isIn5 c4 ∧ isIn5 c6) ∧ (disc (c1, c2, c3, c4, c6) ≠ 0 ∧ r = some (.int (jI 0)) ∧ (∃ U', XS S' U' (c1, c2, c3, c4, c6) (fun _ => none)) ∨ disc (c1, c2, c3, c4, c6) = 0 ∧ r = some (.int (jI 5)) ∧ ∃ U', XS S' U' A pts) ∨ ¬ (isIn5 c1 ∧ isIn5 c2 ∧ isIn5 c3 ∧ isIn5 c4 ∧ isIn5 c6) ∧ r = some (.int (jI (-1))) ∧ S = S') : ∃ v : Int32, r = some (.int v) := by
  rcases qx with ⟨_, ⟨_, rfl, _⟩ | ⟨_, rfl, _⟩⟩ | ⟨_, rfl, _⟩ <;> exact ⟨_, rfl⟩
theorem ag_curve {S S' : xS} {T T' : mT} {U : Nat → Int} {A : ecE} {pts : Int → ecP} {c1 c2 c3 c4 c6 : Int} {r o : Option Value} (hX : XS S U A pts) (hM : RS T pts A) (hn : LO pts) (qx : (isIn5 c1 ∧ isIn5 c2 ∧ isIn5 c3 ∧ isIn5 c4 ∧ isIn5 c6) ∧ (disc (c1, c2, c3, c4, c6) ≠ 0 ∧ r = some (.int (jI 0)) ∧ (∃ U', XS S' U' (c1, c2, c3, c4, c6) (fun _ => none)) ∨ disc (c1, c2, c3, c4, c6) = 0 ∧ r = some (.int (jI 5)) ∧ ∃ U', XS S' U' A pts) ∨ ¬ (isIn5 c1 ∧ isIn5 c2 ∧ isIn5 c3 ∧ isIn5 c4 ∧ isIn5 c6) ∧ r = some (.int (jI (-1))) ∧ S = S') (qm : (isIn5 c1 ∧ isIn5 c2 ∧ isIn5 c3 ∧ isIn5 c4 ∧ isIn5 c6) ∧ (disc (c1, c2, c3, c4, c6) ≠ 0 ∧ o = some (.int (jI 0)) ∧ RS T' (fun _ => none) (c1, c2, c3, c4, c6) ∨ disc (c1, c2, c3, c4, c6) = 0 ∧ o = some (.int (jI 5)) ∧ RS T' pts A) ∨ ¬ (isIn5 c1 ∧ isIn5 c2 ∧ isIn5 c3 ∧ isIn5 c4 ∧ isIn5 c6) ∧ o = some (.int (jI (-1))) ∧ T = T') : o = r ∧ LI S' T' := by
  rcases qx with ⟨c, ⟨t, rfl, U', x⟩ | ⟨t, rfl, U', x⟩⟩ | ⟨c, rfl, rfl⟩
  · rcases qm with ⟨d, ⟨t', rfl, m⟩ | ⟨t', rfl, m⟩⟩ | ⟨d, rfl, rfl⟩
    · exact ⟨rfl, U', _, _, x, m, fun _ _ => rfl⟩
    · exact absurd t' t
    · exact absurd c d
  · rcases qm with ⟨d, ⟨t', rfl, m⟩ | ⟨t', rfl, m⟩⟩ | ⟨d, rfl, rfl⟩
    · exact absurd t t'
    · exact ⟨rfl, U', A, pts, x, m, hn⟩
    · exact absurd c d
  · rcases qm with ⟨d, _⟩ | ⟨d, rfl, rfl⟩
    · exact absurd d c
    · exact ⟨rfl, U, A, pts, hX, hM, hn⟩
theorem rv_order {S' : xS} {A : ecE} {pts : Int → ecP} {s0 : Int} {r : Option Value} (qx : ∃ res : Int, r = some (.int (jI res)) ∧ (∃ U', XS S' U' A pts) ∧ ((¬ (0 ≤ s0 ∧ s0 < 8) ∧ res = -1) ∨ ((0 ≤ s0 ∧ s0 < 8) ∧ ((pts s0 = none ∧ res = 1) ∨ (pts s0 ≠ none ∧ CoR A (pts s0) 11 1 (pts s0) res))))) : ∃ v : Int32, r = some (.int v) := by
  rcases qx with ⟨_, rfl, _⟩ <;> exact ⟨_, rfl⟩
theorem ag_order {S S' : xS} {T T' : mT} {U : Nat → Int} {A : ecE} {pts : Int → ecP} {s0 : Int} {r o : Option Value} (hX : XS S U A pts) (hM : RS T pts A) (hn : LO pts) (qx : ∃ res : Int, r = some (.int (jI res)) ∧ (∃ U', XS S' U' A pts) ∧ ((¬ (0 ≤ s0 ∧ s0 < 8) ∧ res = -1) ∨ ((0 ≤ s0 ∧ s0 < 8) ∧ ((pts s0 = none ∧ res = 1) ∨ (pts s0 ≠ none ∧ CoR A (pts s0) 11 1 (pts s0) res))))) (qm : ∃ res : Int, o = some (.int (jI res)) ∧ RS T' pts A ∧ ((¬ (0 ≤ s0 ∧ s0 < 8) ∧ res = -1) ∨ ((0 ≤ s0 ∧ s0 < 8) ∧ OrdR A (pts s0) 12 1 (pts s0) res))) : o = r ∧ LI S' T' := by
  obtain ⟨res, rfl, ⟨U', x⟩, qx⟩ := qx
  obtain ⟨res', rfl, m, qm⟩ := qm
  have e : res' = res := by
    rcases qx with ⟨c, rfl⟩ | ⟨c, qx⟩
    · rcases qm with ⟨d, rfl⟩ | ⟨d, _⟩
      · rfl
      · exact absurd d c
    · rcases qm with ⟨d, rfl⟩ | ⟨d, qm⟩
      · exact absurd c d
      · rcases qx with ⟨z, rfl⟩ | ⟨z, qx⟩
        · rw [z] at qm
          rcases qm with ⟨_, e⟩ | ⟨_, _, _, e, _⟩
          · exact e
          · cases e
        · have q0 := (hX.2.2.2.2.2 s0 c.1 c.2).2
          exact (order_agree hX.2.2.2.2.1 q0.on 11 1 (pts s0) res res' (by decide) (by decide) q0.on (qmul_one _ _).symm z qx qm).symm
  exact ⟨by rw [e], U', A, pts, x, m, hn⟩
theorem rv_times {S' : xS} {A : ecE} {pts : Int → ecP} {s0 k0 t0 : Int} {r : Option Value} (qx : (¬ ((0 ≤ s0 ∧ s0 < 8) ∧ (0 ≤ t0 ∧ t0 < 8) ∧ (-1000000 ≤ k0 ∧ k0 ≤ 1000000)) ∧ r = some (.int (jI (-1))) ∧ ∃ U', XS S' U' A pts) ∨ (((0 ≤ s0 ∧ s0 < 8) ∧ (0 ≤ t0 ∧ t0 < 8) ∧ (-1000000 ≤ k0 ∧ k0 ≤ 1000000)) ∧ ((CmR A (if k0 < 0 then ngP A.1 A.2.2.1 (pts s0) else pts s0) k0.natAbs 20 none none ∧ r = some (.int (jI 0)) ∧ ∃ U', XS S' U' A pts) ∨ ∃ Rp : ecP, CmR A (if k0 < 0 then ngP A.1 A.2.2.1 (pts s0) else pts s0) k0.natAbs 20 none (some Rp) ∧ ((r = some (.int (jI 0)) ∧ tlP Rp ∧ ∃ U', XS S' U' A pts) ∨ (r = some (.int (jI 1)) ∧ ¬ tlP Rp ∧ ∃ U', XS S' U' A (fun i => if i = t0 then Rp else pts i)))))) : ∃ v : Int32, r = some (.int v) := by
  rcases qx with ⟨_, rfl, _⟩ | ⟨_, ⟨_, rfl, _⟩ | ⟨_, _, ⟨rfl, _⟩ | ⟨rfl, _⟩⟩⟩ <;> exact ⟨_, rfl⟩
theorem ag_times {S S' : xS} {T T' : mT} {U : Nat → Int} {A : ecE} {pts : Int → ecP} {s0 k0 t0 : Int} {r o : Option Value} (hX : XS S U A pts) (hM : RS T pts A) (hn : LO pts) (qx : (¬ ((0 ≤ s0 ∧ s0 < 8) ∧ (0 ≤ t0 ∧ t0 < 8) ∧ (-1000000 ≤ k0 ∧ k0 ≤ 1000000)) ∧ r = some (.int (jI (-1))) ∧ ∃ U', XS S' U' A pts) ∨ (((0 ≤ s0 ∧ s0 < 8) ∧ (0 ≤ t0 ∧ t0 < 8) ∧ (-1000000 ≤ k0 ∧ k0 ≤ 1000000)) ∧ ((CmR A (if k0 < 0 then ngP A.1 A.2.2.1 (pts s0) else pts s0) k0.natAbs 20 none none ∧ r = some (.int (jI 0)) ∧ ∃ U', XS S' U' A pts) ∨ ∃ Rp : ecP, CmR A (if k0 < 0 then ngP A.1 A.2.2.1 (pts s0) else pts s0) k0.natAbs 20 none (some Rp) ∧ ((r = some (.int (jI 0)) ∧ tlP Rp ∧ ∃ U', XS S' U' A pts) ∨ (r = some (.int (jI 1)) ∧ ¬ tlP Rp ∧ ∃ U', XS S' U' A (fun i => if i = t0 then Rp else pts i)))))) (qm : (¬ ((0 ≤ s0 ∧ s0 < 8) ∧ (0 ≤ t0 ∧ t0 < 8) ∧ (-1000000 ≤ k0 ∧ k0 ≤ 1000000)) ∧ o = some (.int (jI (-1))) ∧ RS T' pts A) ∨ (((0 ≤ s0 ∧ s0 < 8) ∧ (0 ≤ t0 ∧ t0 < 8) ∧ (-1000000 ≤ k0 ∧ k0 ≤ 1000000)) ∧ ((TmR A (pts s0) k0.natAbs 21 none none ∧ o = some (.int (jI 0)) ∧ RS T' pts A) ∨ ∃ R' : Option (Int × Int × Int), TmR A (pts s0) k0.natAbs 21 none (some R') ∧ ((o = some (.int (jI 0)) ∧ tlP (if k0 < 0 then ngP A.1 A.2.2.1 R' else R') ∧ RS T' pts A) ∨ (o = some (.int (jI 1)) ∧ ¬ tlP (if k0 < 0 then ngP A.1 A.2.2.1 R' else R') ∧ RS T' (fun i => if i = t0 then (if k0 < 0 then ngP A.1 A.2.2.1 R' else R') else pts i) A))))) : o = r ∧ LI S' T' := by
  rcases qx with ⟨c, rfl, U', x⟩ | ⟨c, qx⟩
  · rcases qm with ⟨d, rfl, m⟩ | ⟨d, _⟩
    · exact ⟨rfl, U', A, pts, x, m, hn⟩
    · exact absurd d c
  rcases qm with ⟨d, rfl, m⟩ | ⟨d, qm⟩
  · exact absurd c d
  have q0 := (hX.2.2.2.2.2 s0 c.1.1 c.1.2).2
  have hA := hX.2.2.2.2.1
  have lf : k0.natAbs ≤ 1000000 := by omega
  have key : ∀ {rc rt : Option ecP}, CmR A (if k0 < 0 then ngP A.1 A.2.2.1 (pts s0) else pts s0) k0.natAbs 20 none rc → TmR A (pts s0) k0.natAbs 21 none rt → (∃ R, rc = some (if k0 < 0 then ngP A.1 A.2.2.1 R else R) ∧ rt = some R) ∨ (rc = none ∧ (rt = none ∨ ∃ R, rt = some R ∧ tlP (if k0 < 0 then ngP A.1 A.2.2.1 R else R))) := by
    intro rc rt hc ht
    by_cases hk : k0 < 0
    · rw [if_pos hk] at hc
      obtain ⟨rc', e, hc'⟩ := CmR_ng q0.on 20 none rc trivial hc
      rcases times_agree hA q0.on lf hc' ht with ⟨R, e1, e2, _⟩ | ⟨e1, e2 | ⟨R, e2, o2, w2⟩⟩
      · exact Or.inl ⟨R, by rw [e, e1, if_pos hk]; rfl, e2⟩
      · exact Or.inr ⟨by rw [e, e1]; rfl, Or.inl e2⟩
      · exact Or.inr ⟨by rw [e, e1]; rfl, Or.inr ⟨R, e2, by rw [if_pos hk]; exact (wd_tl o2 w2).2⟩⟩
    · rw [if_neg hk] at hc
      rcases times_agree hA q0.on lf hc ht with ⟨R, e1, e2, _⟩ | ⟨e1, e2 | ⟨R, e2, o2, w2⟩⟩
      · exact Or.inl ⟨R, by rw [e1, if_neg hk], e2⟩
      · exact Or.inr ⟨e1, Or.inl e2⟩
      · exact Or.inr ⟨e1, Or.inr ⟨R, e2, by rw [if_neg hk]; exact (wd_tl o2 w2).1⟩⟩
  rcases qx with ⟨hc, rfl, U', x⟩ | ⟨Rp, hc, qx⟩
  · rcases qm with ⟨ht, rfl, m⟩ | ⟨R', ht, ⟨rfl, t, m⟩ | ⟨rfl, t, m⟩⟩
    · exact ⟨rfl, U', A, pts, x, m, hn⟩
    · exact ⟨rfl, U', A, pts, x, m, hn⟩
    · exfalso
      rcases key hc ht with ⟨R, e1, _⟩ | ⟨_, e2 | ⟨R, e2, t2⟩⟩
      · cases e1
      · cases e2
      · cases e2
        exact t t2
  · have kk : ∀ {rt : Option ecP}, TmR A (pts s0) k0.natAbs 21 none rt → ∃ R, Rp = (if k0 < 0 then ngP A.1 A.2.2.1 R else R) ∧ rt = some R := by
      intro rt ht
      rcases key hc ht with ⟨R, e1, e2⟩ | ⟨e1, _⟩
      · exact ⟨R, Option.some.inj e1, e2⟩
      · cases e1
    rcases qm with ⟨ht, rfl, m⟩ | ⟨R', ht, qm⟩
    · obtain ⟨R, _, e2⟩ := kk ht
      cases e2
    · obtain ⟨R, e1, e2⟩ := kk ht
      cases e2
      subst e1
      rcases qx with ⟨rfl, t, U', x⟩ | ⟨rfl, t, U', x⟩
      · rcases qm with ⟨rfl, t', m⟩ | ⟨rfl, t', m⟩
        · exact ⟨rfl, U', A, pts, x, m, hn⟩
        · exact absurd t t'
      · rcases qm with ⟨rfl, t', m⟩ | ⟨rfl, t', m⟩
        · exact absurd t' t
        · exact ⟨rfl, U', A, _, x, m, hn.up c.2.1⟩
theorem rv_digits {S : xS} {S' : xS} {pts : Int → ecP} {s0 w : Int} {r : Option Value} (qx : S = S' ∧ ((∃ (q : Int × Int × Int) (d : Nat), ((0 ≤ s0 ∧ s0 < 8) ∧ pts s0 = some q ∧ 0 ≤ w ∧ w ≤ 3) ∧ r = some (.int (jI d)) ∧ IsDg (numP q w) d) ∨ ¬ ((0 ≤ s0 ∧ s0 < 8) ∧ pts s0 ≠ none ∧ 0 ≤ w ∧ w ≤ 3) ∧ r = some (.int (jI (-1))))) : ∃ v : Int32, r = some (.int v) := by
  rcases qx with ⟨_, ⟨_, _, _, rfl, _⟩ | ⟨_, rfl⟩⟩ <;> exact ⟨_, rfl⟩
theorem ag_digits {S S' : xS} {T T' : mT} {U : Nat → Int} {A : ecE} {pts : Int → ecP} {s0 w : Int} {r o : Option Value} (hX : XS S U A pts) (hM : RS T pts A) (hn : LO pts) (qx : S = S' ∧ ((∃ (q : Int × Int × Int) (d : Nat), ((0 ≤ s0 ∧ s0 < 8) ∧ pts s0 = some q ∧ 0 ≤ w ∧ w ≤ 3) ∧ r = some (.int (jI d)) ∧ IsDg (numP q w) d) ∨ ¬ ((0 ≤ s0 ∧ s0 < 8) ∧ pts s0 ≠ none ∧ 0 ≤ w ∧ w ≤ 3) ∧ r = some (.int (jI (-1))))) (qm : RS T' pts A ∧ ((∃ (q : Int × Int × Int) (d : Nat), ((0 ≤ s0 ∧ s0 < 8) ∧ pts s0 = some q ∧ 0 ≤ w ∧ w ≤ 3) ∧ o = some (.int (jI d)) ∧ IsDg (numP q w) d) ∨ ¬ ((0 ≤ s0 ∧ s0 < 8) ∧ pts s0 ≠ none ∧ 0 ≤ w ∧ w ≤ 3) ∧ o = some (.int (jI (-1))))) : o = r ∧ LI S' T' := by
  obtain ⟨rfl, qx⟩ := qx
  obtain ⟨m, qm⟩ := qm
  rcases qx with ⟨q, d, c, rfl, dg⟩ | ⟨c, rfl⟩
  · rcases qm with ⟨q', d', c', rfl, dg'⟩ | ⟨c', rfl⟩
    · cases c.2.1.symm.trans c'.2.1
      rw [dg.uniq dg']
      exact ⟨rfl, U, A, pts, hX, m, hn⟩
    · exact absurd ⟨c.1, fun z => (by rw [z] at c; cases c.2.1), c.2.2⟩ c'
  · rcases qm with ⟨q', d', c', rfl, dg'⟩ | ⟨c', rfl⟩
    · exact absurd ⟨c'.1, fun z => (by rw [z] at c'; cases c'.2.1), c'.2.2⟩ c
    · exact ⟨rfl, U, A, pts, hX, m, hn⟩
theorem rv_sign {S : xS} {S' : xS} {pts : Int → ecP} {s0 w : Int} {r : Option Value} (qx : S = S' ∧ ((∃ q : Int × Int × Int, ((0 ≤ s0 ∧ s0 < 8) ∧ pts s0 = some q ∧ 0 ≤ w ∧ w ≤ 3) ∧ r = some (.int (jI ((numP q w).sign + 1)))) ∨ ¬ ((0 ≤ s0 ∧ s0 < 8) ∧ pts s0 ≠ none ∧ 0 ≤ w ∧ w ≤ 3) ∧ r = some (.int (jI (-1))))) : ∃ v : Int32, r = some (.int v) := by
  rcases qx with ⟨_, ⟨_, _, rfl⟩ | ⟨_, rfl⟩⟩ <;> exact ⟨_, rfl⟩
theorem ag_sign {S S' : xS} {T T' : mT} {U : Nat → Int} {A : ecE} {pts : Int → ecP} {s0 w : Int} {r o : Option Value} (hX : XS S U A pts) (hM : RS T pts A) (hn : LO pts) (qx : S = S' ∧ ((∃ q : Int × Int × Int, ((0 ≤ s0 ∧ s0 < 8) ∧ pts s0 = some q ∧ 0 ≤ w ∧ w ≤ 3) ∧ r = some (.int (jI ((numP q w).sign + 1)))) ∨ ¬ ((0 ≤ s0 ∧ s0 < 8) ∧ pts s0 ≠ none ∧ 0 ≤ w ∧ w ≤ 3) ∧ r = some (.int (jI (-1))))) (qm : RS T' pts A ∧ ((∃ q : Int × Int × Int, ((0 ≤ s0 ∧ s0 < 8) ∧ pts s0 = some q ∧ 0 ≤ w ∧ w ≤ 3) ∧ o = some (.int (jI ((numP q w).sign + 1)))) ∨ ¬ ((0 ≤ s0 ∧ s0 < 8) ∧ pts s0 ≠ none ∧ 0 ≤ w ∧ w ≤ 3) ∧ o = some (.int (jI (-1))))) : o = r ∧ LI S' T' := by
  obtain ⟨rfl, qx⟩ := qx
  obtain ⟨m, qm⟩ := qm
  rcases qx with ⟨q, c, rfl⟩ | ⟨c, rfl⟩
  · rcases qm with ⟨q', c', rfl⟩ | ⟨c', rfl⟩
    · cases c.2.1.symm.trans c'.2.1
      exact ⟨rfl, U, A, pts, hX, m, hn⟩
    · exact absurd ⟨c.1, fun z => (by rw [z] at c; cases c.2.1), c.2.2⟩ c'
  · rcases qm with ⟨q', c', rfl⟩ | ⟨c', rfl⟩
    · exact absurd ⟨c'.1, fun z => (by rw [z] at c'; cases c'.2.1), c'.2.2⟩ c
    · exact ⟨rfl, U, A, pts, hX, m, hn⟩
theorem rv_digitAt {S : xS} {S' : xS} {pts : Int → ecP} {s0 w i : Int} {r : Option Value} (qx : S = S' ∧ ((∃ (q : Int × Int × Int) (d : Nat), ((0 ≤ s0 ∧ s0 < 8) ∧ pts s0 = some q ∧ 0 ≤ w ∧ w ≤ 3) ∧ IsDg (numP q w) d ∧ (0 ≤ i ∧ i < d ∧ r = some (.int (jI (digN (numP q w).natAbs d i.toNat : Nat))) ∨ ¬ (0 ≤ i ∧ i < d) ∧ r = some (.int (jI (-1))))) ∨ ¬ ((0 ≤ s0 ∧ s0 < 8) ∧ pts s0 ≠ none ∧ 0 ≤ w ∧ w ≤ 3) ∧ r = some (.int (jI (-1))))) : ∃ v : Int32, r = some (.int v) := by
  rcases qx with ⟨_, ⟨_, _, _, _, ⟨_, _, rfl⟩ | ⟨_, rfl⟩⟩ | ⟨_, rfl⟩⟩ <;> exact ⟨_, rfl⟩
theorem ag_digitAt {S S' : xS} {T T' : mT} {U : Nat → Int} {A : ecE} {pts : Int → ecP} {s0 w i : Int} {r o : Option Value} (hX : XS S U A pts) (hM : RS T pts A) (hn : LO pts) (qx : S = S' ∧ ((∃ (q : Int × Int × Int) (d : Nat), ((0 ≤ s0 ∧ s0 < 8) ∧ pts s0 = some q ∧ 0 ≤ w ∧ w ≤ 3) ∧ IsDg (numP q w) d ∧ (0 ≤ i ∧ i < d ∧ r = some (.int (jI (digN (numP q w).natAbs d i.toNat : Nat))) ∨ ¬ (0 ≤ i ∧ i < d) ∧ r = some (.int (jI (-1))))) ∨ ¬ ((0 ≤ s0 ∧ s0 < 8) ∧ pts s0 ≠ none ∧ 0 ≤ w ∧ w ≤ 3) ∧ r = some (.int (jI (-1))))) (qm : RS T' pts A ∧ ((∃ (q : Int × Int × Int) (d : Nat), ((0 ≤ s0 ∧ s0 < 8) ∧ pts s0 = some q ∧ 0 ≤ w ∧ w ≤ 3) ∧ IsDg (numP q w) d ∧ (0 ≤ i ∧ i < d ∧ o = some (.int (jI (digN (numP q w).natAbs d i.toNat : Nat))) ∨ ¬ (0 ≤ i ∧ i < d) ∧ o = some (.int (jI (-1))))) ∨ ¬ ((0 ≤ s0 ∧ s0 < 8) ∧ pts s0 ≠ none ∧ 0 ≤ w ∧ w ≤ 3) ∧ o = some (.int (jI (-1))))) : o = r ∧ LI S' T' := by
  obtain ⟨rfl, qx⟩ := qx
  obtain ⟨m, qm⟩ := qm
  rcases qx with ⟨q, d, c, dg, qx⟩ | ⟨c, rfl⟩
  · rcases qm with ⟨q', d', c', dg', qm⟩ | ⟨c', rfl⟩
    · cases c.2.1.symm.trans c'.2.1
      cases dg.uniq dg'
      rcases qx with ⟨g1, g2, rfl⟩ | ⟨g, rfl⟩
      · rcases qm with ⟨k1, k2, rfl⟩ | ⟨k, rfl⟩
        · exact ⟨rfl, U, A, pts, hX, m, hn⟩
        · exact absurd ⟨g1, g2⟩ k
      · rcases qm with ⟨k1, k2, rfl⟩ | ⟨k, rfl⟩
        · exact absurd ⟨k1, k2⟩ g
        · exact ⟨rfl, U, A, pts, hX, m, hn⟩
    · exact absurd ⟨c.1, fun z => (by rw [z] at c; cases c.2.1), c.2.2⟩ c'
  · rcases qm with ⟨q', d', c', dg', qm⟩ | ⟨c', rfl⟩
    · exact absurd ⟨c'.1, fun z => (by rw [z] at c'; cases c'.2.1), c'.2.2⟩ c
    · exact ⟨rfl, U, A, pts, hX, m, hn⟩
