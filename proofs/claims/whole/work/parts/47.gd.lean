theorem fr_eq {a b x z : Int} (hb : b ≠ 0) (h : a * z = x * b) (hc : Int.gcd x z = 1) (hz : 0 < z) : fUp a b = x ∧ fLo a b = z := by
  obtain ⟨k, k1, k2⟩ := frac_k hc (show a * z = b * x by rw [h, Int.mul_comm])
  have hk : k ≠ 0 := by intro h0; rw [h0, Int.zero_mul] at k2; exact hb k2
  have hg : Int.gcd a b = k.natAbs := by rw [k1, k2, Int.gcd_mul_left, hc, Nat.mul_one]
  have hn : (k.natAbs : Int) ≠ 0 := by omega
  unfold fUp fLo
  rw [hg, k1, k2]
  rcases Int.lt_or_lt_of_ne hk with h0 | h0
  · have e : (k.natAbs : Int) = -k := by omega
    have : k * z < 0 := Int.mul_neg_of_neg_of_pos h0 hz
    rw [if_pos this, if_pos this, e, Int.tdiv_neg, Int.tdiv_neg, Int.mul_tdiv_cancel_left _ hk, Int.mul_tdiv_cancel_left _ hk]
    omega
  · have e : (k.natAbs : Int) = k := by omega
    have : ¬ k * z < 0 := by have := Int.mul_pos h0 hz; omega
    rw [if_neg this, if_neg this, e, Int.mul_tdiv_cancel_left _ hk, Int.mul_tdiv_cancel_left _ hk]
    exact ⟨rfl, rfl⟩
theorem cop3 {y z : Int} {A : ecE} {x : Int} (h : ecOn A (some (x, y, z))) : Int.gcd y (z * z * z) = 1 ∧ Int.gcd x (z * z) = 1 := by
  obtain ⟨h1, h2, h3⟩ := h
  have c1 : Int.gcd z x = 1 := by rw [Int.gcd_comm]; exact h2
  have c2 : Int.gcd x (z * z) = 1 := by rw [Int.gcd_comm]; exact cop_mul c1 c1
  have c3 : Int.gcd (y * y) z = 1 := by
    have d1 := cop_add (A.2.1 * (x * x) * z + A.2.2.2.1 * x * (z * (z * z)) + A.2.2.2.2 * (z * z * z * (z * z)) - A.1 * x * y - A.2.2.1 * y * (z * z)) (cop_mul (cop_mul h2 h2) h2)
    rw [← d1]; congr 1; grind
  have c4 : Int.gcd y z = 1 := by
    have d1 : y.natAbs.gcd z.natAbs ∣ (y * y).natAbs.gcd z.natAbs := Nat.gcd_dvd_gcd_of_dvd_left _ (by rw [Int.natAbs_mul]; exact Nat.dvd_mul_left _ _)
    rw [show (y * y).natAbs.gcd z.natAbs = 1 from c3] at d1
    exact Nat.eq_one_of_dvd_one d1
  have c5 : Int.gcd z y = 1 := by rw [Int.gcd_comm]; exact c4
  exact ⟨by rw [Int.gcd_comm]; exact cop_mul (cop_mul c5 c5) c5, c2⟩
/-- a point given by fractions -/
theorem fr_pt {A : ecE} {X Y w : Int} {p q : Rat} (hw : w ≠ 0) (hp : qon (toE A) p q) (hX : (X : Rat) = p * ((w : Rat) * w)) (hY : (Y : Rat) = q * ((w : Rat) * w * w)) : ∃ x y z : Int, ecOn A (some (x, y, z)) ∧ ecQ (some (x, y, z)) = some (p, q) ∧ fUp X (w * w) = x ∧ fUp Y (w * w * w) = y ∧ fLo X (w * w) = z * z ∧ fLo Y (w * w * w) = z * z * z ∧ X * (z * z) = x * (w * w) ∧ Y * (z * z * z) = y * (w * w * w) := by
  obtain ⟨P, h1, h2⟩ := ecOn_ex (A := A) (p := some (p, q)) hp
  match P, h1, h2 with
  | none, _, h2 => simp [ecQ] at h2
  | some (x, y, z), h1, h2 =>
    have hz := h1.1
    have h2' := h2
    simp only [ecQ, Option.some.injEq, Prod.mk.injEq] at h2
    obtain ⟨e1, e2⟩ := h2
    have n2 := zn_ne (Int.mul_pos hz hz)
    have n3 := zn_ne (Int.mul_pos (Int.mul_pos hz hz) hz)
    have f1 : (x : Rat) = p * ((z * z : Int) : Rat) := by rw [← e1]; exact rdv n2
    have f2 : (y : Rat) = q * ((z * z * z : Int) : Rat) := by rw [← e2]; exact rdv n3
    have i1 : X * (z * z) = x * (w * w) := by
      apply Rat.intCast_inj.1
      simp only [Rat.intCast_mul] at *
      rw [hX, f1]; clear hp h1 h2' hX hY f1 f2 e1 e2; grind
    have i2 : Y * (z * z * z) = y * (w * w * w) := by
      apply Rat.intCast_inj.1
      simp only [Rat.intCast_mul] at *
      rw [hY, f2]; clear hp h1 h2' hX hY f1 f2 e1 e2; grind
    obtain ⟨c1, c2⟩ := cop3 h1
    obtain ⟨u1, u2⟩ := fr_eq (Int.mul_ne_zero hw hw) i1 c2 (Int.mul_pos hz hz)
    obtain ⟨u3, u4⟩ := fr_eq (Int.mul_ne_zero (Int.mul_ne_zero hw hw) hw) i2 c1 (Int.mul_pos (Int.mul_pos hz hz) hz)
    exact ⟨x, y, z, h1, h2', u1, u3, u2, u4, i1, i2⟩
theorem z_tdiv {z : Int} (h : 0 < z) : (z * z * z).tdiv (z * z) = z := Int.mul_tdiv_cancel_left _ (Int.mul_ne_zero (by omega) (by omega))
/-- the reference's sum is the sum -/
theorem fSum_q {A : ecE} {nn ww dd ss vv kk : Int} {l u1 u2 v1 : Rat} (hw : ww ≠ 0) (hn : (nn : Rat) = l * ww) (hs : (dd : Rat) * dd * ss = (u1 + u2) * ((ww : Rat) * ww)) (hv : (dd : Rat) * dd * vv = u1 * ((ww : Rat) * ww)) (hk : (dd : Rat) * dd * dd * kk = v1 * ((ww : Rat) * ww * ww)) (hon : qon (toE A) (qth (toE A) l u1 v1 u2).1 (qth (toE A) l u1 v1 u2).2) :
    ecOn A (some (fSum A.1 A.2.1 A.2.2.1 nn ww dd ss vv kk)) ∧ ecQ (some (fSum A.1 A.2.1 A.2.2.1 nn ww dd ss vv kk)) = some (qth (toE A) l u1 v1 u2) := by
  have eX : ((fX A.1 A.2.1 nn ww dd ss : Int) : Rat) = qx (toE A) l u1 u2 * ((ww : Rat) * ww) := by
    simp only [fX, qx, toE, Rat.intCast_mul, Rat.intCast_add, Rat.intCast_sub]
    rw [hs, hn]; clear hn hs hv hk hon; grind
  have eY : ((fY A.1 A.2.2.1 nn ww dd vv kk (fX A.1 A.2.1 nn ww dd ss) : Int) : Rat) = qy (toE A) l u1 v1 (qx (toE A) l u1 u2) * ((ww : Rat) * ww * ww) := by
    simp only [fY, Rat.intCast_mul, Rat.intCast_sub]
    rw [hv, hk, eX, hn]
    generalize qx (toE A) l u1 u2 = x3
    simp only [qy, toE]; clear hn hs hv hk hon eX; grind
  obtain ⟨x, y, z, g1, g2, g3, g4, g5, g6, _⟩ := fr_pt (A := A) hw hon eX eY
  have e : fSum A.1 A.2.1 A.2.2.1 nn ww dd ss vv kk = (x, y, z) := by
    simp only [fSum, g3, g4, g5, g6, z_tdiv g1.1]
  rw [e]
  exact ⟨g1, g2⟩
/-- the two fractions of a point -/
theorem ecQ_uv {A : ecE} {x y z : Int} (h : ecOn A (some (x, y, z))) : ∃ u v : Rat, ecQ (some (x, y, z)) = some (u, v) ∧ (x : Rat) = u * ((z : Rat) * z) ∧ (y : Rat) = v * ((z : Rat) * z * z) ∧ (z : Rat) ≠ 0 ∧ qon (toE A) u v := by
  refine ⟨_, _, rfl, ?_, ?_, zn_ne h.1, h.q⟩
  · rw [Rat.intCast_mul]; exact rdv (rne2 (zn_ne h.1))
  · rw [Rat.intCast_mul, Rat.intCast_mul]; exact rdv (rne3 (zn_ne h.1))
theorem zx_eq {A : ecE} {x1 y1 z1 x2 y2 z2 : Int} {u v1 v2 : Rat} (h1 : ecOn A (some (x1, y1, z1))) (h2 : ecOn A (some (x2, y2, z2))) (e1 : ecQ (some (x1, y1, z1)) = some (u, v1)) (e2 : ecQ (some (x2, y2, z2)) = some (u, v2)) : x1 = x2 ∧ z1 = z2 := by
  obtain ⟨a1, a2⟩ := ecQ_xz h1
  obtain ⟨b1, b2⟩ := ecQ_xz h2
  rw [e1] at a1 a2
  rw [e2] at b1 b2
  have ex : x1 = x2 := by rw [← a1, ← b1]; rfl
  have ez : z1 * z1 = z2 * z2 := by rw [← a2, ← b2]; rfl
  refine ⟨ex, ?_⟩
  have p1 := h1.1
  have p2 := h2.1
  rcases Int.lt_trichotomy z1 z2 with h0 | h0 | h0
  · have q1 := Int.mul_lt_mul_of_pos_right h0 p1
    have q2 := Int.mul_le_mul_of_nonneg_left (Int.le_of_lt h0) (Int.le_of_lt p2)
    omega
  · exact h0
  · have q1 := Int.mul_lt_mul_of_pos_right h0 p2
    have q2 := Int.mul_le_mul_of_nonneg_left (Int.le_of_lt h0) (Int.le_of_lt p1)
    omega
theorem cD_q {x1 z1 x2 z2 : Int} {u1 u2 : Rat} (hx1 : (x1 : Rat) = u1 * ((z1 : Rat) * z1)) (hx2 : (x2 : Rat) = u2 * ((z2 : Rat) * z2)) : (cD x1 z1 x2 z2 : Rat) = (u2 - u1) * ((z1 : Rat) * z1 * (z2 * z2)) := by
  simp only [cD, Rat.intCast_mul, Rat.intCast_sub]; rw [hx1, hx2]; clear hx1 hx2; grind
theorem cN_q {y1 z1 y2 z2 : Int} {u1 u2 : Rat} (hx1 : (y1 : Rat) = u1 * ((z1 : Rat) * z1 * z1)) (hx2 : (y2 : Rat) = u2 * ((z2 : Rat) * z2 * z2)) : (cN y1 z1 y2 z2 : Rat) = (u2 - u1) * ((z1 : Rat) * z1 * z1 * (z2 * z2 * z2)) := by
  simp only [cN, Rat.intCast_mul, Rat.intCast_sub]; rw [hx1, hx2]; clear hx1 hx2; grind
theorem tD_q {A : ecE} {x y z : Int} {u v : Rat} (hx : (x : Rat) = u * ((z : Rat) * z)) (hy : (y : Rat) = v * ((z : Rat) * z * z)) : (tD A.1 A.2.2.1 x y z : Rat) = qd (toE A) u v * ((z : Rat) * z * z) := by
  simp only [tD, qd, toE, Rat.intCast_mul, Rat.intCast_add]; rw [hx, hy]; clear hx hy; grind
theorem tN_q {A : ecE} {x y z : Int} {u v : Rat} (hx : (x : Rat) = u * ((z : Rat) * z)) (hy : (y : Rat) = v * ((z : Rat) * z * z)) : (tN A.1 A.2.1 A.2.2.2.1 x y z : Rat) = qn (toE A) u v * ((z : Rat) * z * (z * z)) := by
  simp only [tN, qn, toE, Rat.intCast_mul, Rat.intCast_add, Rat.intCast_sub, Rat.intCast_ofNat]; rw [hx, hy]; clear hx hy; grind
theorem rz_ne {a b : Rat} (ha : a ≠ 0) (hb : b ≠ 0) : a * b ≠ 0 := by grind
theorem zc_ne {a : Int} (h : (a : Rat) ≠ 0) : a ≠ 0 := by intro h0; rw [h0] at h; exact h rfl
theorem jn_q {A : ecE} {P Q : ecP} (hP : ecOn A P) (hQ : ecOn A Q) : ecOn A (jnA A P Q) ∧ ecQ (jnA A P Q) = qad (toE A) (ecQ P) (ecQ Q) ∧ okJ A P Q := by
  match P, Q, hP, hQ with
  | none, Q, _, hQ => exact ⟨hQ, (qad_n _ _).symm, (fun _ _ _ _ _ _ h => by simp at h), (fun _ _ _ _ h => by simp at h)⟩
  | some (x, y, z), none, hP, _ => exact ⟨hP, rfl, (fun _ _ _ _ _ _ _ h => by simp at h), (fun _ _ _ _ _ h => by simp at h)⟩
  | some (x1, y1, z1), some (x2, y2, z2), hP, hQ =>
    obtain ⟨u1, v1, e1, f1, g1, n1, o1⟩ := ecQ_uv hP
    obtain ⟨u2, v2, e2, f2, g2, n2, o2⟩ := ecQ_uv hQ
    rw [e1, e2]
    by_cases h : x1 = x2 ∧ z1 = z2
    · obtain ⟨hx, hz⟩ := h
      subst hx
      subst hz
      have eu : u1 = u2 := by
        have : u1 * ((z1 : Rat) * z1) = u2 * ((z1 : Rat) * z1) := by rw [← f1, ← f2]
        exact q_cut (rne2 n1) (by rw [Rat.mul_comm, this, Rat.mul_comm])
      subst eu
      have key : ∀ w : Int, (w : Rat) = v2 * ((z1 : Rat) * z1 * z1) → ((y1 + w + A.1 * x1 * z1 + A.2.2.1 * (z1 * z1) * z1 : Int) : Rat) = (v1 + v2 + (toE A).1 * u1 + (toE A).2.2.1) * ((z1 : Rat) * z1 * z1) := by
        intro w hw
        simp only [Rat.intCast_mul, Rat.intCast_add, toE]
        rw [f1, g1, hw]; clear f1 f2 g1 g2 e1 e2 o1 o2 n1 n2 hw; grind
      have key2 := key y2 g2
      by_cases h0 : y1 + y2 + A.1 * x1 * z1 + A.2.2.1 * (z1 * z1) * z1 = 0
      · have hv : v1 + v2 + (toE A).1 * u1 + (toE A).2.2.1 = 0 := by
          rw [h0, Rat.intCast_zero] at key2
          exact q_cut (rne3 n1) (by rw [Rat.mul_comm, ← key2, Rat.mul_zero])
        have ej : jnA A (some (x1, y1, z1)) (some (x1, y2, z1)) = none := by simp only [jnA, jn, and_self, if_true, if_pos h0]
        rw [ej, qad_o hv]
        refine ⟨trivial, rfl, ?_, ?_⟩
        · intro a1 b1 c1 a2 b2 c2 h1 h2 h3
          simp only [Option.some.injEq, Prod.mk.injEq] at h1 h2
          omega
        · intro a1 b1 c1 b2 h1 h2 h3
          simp only [Option.some.injEq, Prod.mk.injEq] at h1 h2
          obtain ⟨r1, r2, r3⟩ := h1
          obtain ⟨_, r4, _⟩ := h2
          subst r1 r2 r3 r4
          exact absurd h0 h3
      · have hv : ¬ (v1 + v2 + (toE A).1 * u1 + (toE A).2.2.1 = 0) := by
          intro hv
          rw [hv, Rat.zero_mul] at key2
          exact h0 (Rat.intCast_eq_zero_iff.1 key2)
        have ev : v1 = v2 := (qon_two o1 o2).resolve_right hv
        subst ev
        have ey : y1 = y2 := by apply Rat.intCast_inj.1; rw [g1, g2]
        subst ey
        have hd : qd (toE A) u1 v1 ≠ 0 := by unfold qd; grind
        have ht := tD_q (A := A) f1 g1
        have htn := tN_q (A := A) f1 g1
        have hl : qn (toE A) u1 v1 = (qn (toE A) u1 v1 / qd (toE A) u1 v1) * qd (toE A) u1 v1 := rdv hd
        have ej : jnA A (some (x1, y1, z1)) (some (x1, y1, z1)) = some (fTouch A.1 A.2.1 A.2.2.1 A.2.2.2.1 x1 y1 z1) := by simp only [jnA, jn, and_self, if_true, if_neg h0]
        have hD0 : tD A.1 A.2.2.1 x1 y1 z1 ≠ 0 := zc_ne (by rw [ht]; exact rz_ne hd (rne3 n1))
        rw [ej, qad_t hd hl]
        generalize qn (toE A) u1 v1 / qd (toE A) u1 v1 = l at hl
        have hz0 : z1 ≠ 0 := zc_ne n1
        have s := fSum_q (A := A) (nn := tN A.1 A.2.1 A.2.2.2.1 x1 y1 z1) (ww := z1 * tD A.1 A.2.2.1 x1 y1 z1) (dd := tD A.1 A.2.2.1 x1 y1 z1) (ss := x1 + x1) (vv := x1) (kk := y1) (l := l) (u1 := u1) (u2 := u1) (v1 := v1) (Int.mul_ne_zero hz0 hD0) (by rw [htn, Rat.intCast_mul, ht, hl]; clear ht htn hl f1 f2 g1 g2; grind) (by rw [Rat.intCast_add, Rat.intCast_mul, f1]; clear ht htn hl f1 f2 g1 g2; grind) (by rw [Rat.intCast_mul, f1]; clear ht htn hl f1 f2 g1 g2; grind) (by rw [Rat.intCast_mul, g1]; clear ht htn hl f1 f2 g1 g2; grind) (qon_t o1 hl)
        refine ⟨s.1, s.2, ?_, ?_⟩
        · intro a1 b1 c1 a2 b2 c2 h1 h2 h3
          simp only [Option.some.injEq, Prod.mk.injEq] at h1 h2
          omega
        · intro a1 b1 c1 b2 h1 h2 h3
          simp only [Option.some.injEq, Prod.mk.injEq] at h1 h2
          obtain ⟨r1, r2, r3⟩ := h1
          subst r1 r2 r3
          exact hD0
    · have hu : u1 ≠ u2 := fun eu => by subst eu; exact h (zx_eq hP hQ e1 e2)
      obtain ⟨l, hl, h4⟩ := q_chord o1 o2 hu
      have hc := cD_q f1 f2
      have hn := cN_q g1 g2
      have hD0 : cD x1 z1 x2 z2 ≠ 0 := zc_ne (by rw [hc]; exact rz_ne (by grind) (rz_ne (rne2 n1) (rne2 n2)))
      have ej : jnA A (some (x1, y1, z1)) (some (x2, y2, z2)) = some (fChord A.1 A.2.1 A.2.2.1 x1 y1 z1 x2 y2 z2) := by simp only [jnA, jn, if_neg h]
      rw [ej, qad_c hu hl]
      have hz1 : z1 ≠ 0 := zc_ne n1
      have hz2 : z2 ≠ 0 := zc_ne n2
      have s := fSum_q (A := A) (nn := cN y1 z1 y2 z2) (ww := z1 * z2 * cD x1 z1 x2 z2) (dd := cD x1 z1 x2 z2) (ss := x2 * (z1 * z1) + x1 * (z2 * z2)) (vv := x1 * (z2 * z2)) (kk := y1 * (z2 * z2 * z2)) (l := l) (u1 := u1) (u2 := u2) (v1 := v1) (Int.mul_ne_zero (Int.mul_ne_zero hz1 hz2) hD0) (by rw [hn, Rat.intCast_mul, Rat.intCast_mul, hc, hl]; clear hn hc hl h4 f1 f2 g1 g2; grind) (by rw [Rat.intCast_add]; simp only [Rat.intCast_mul]; rw [f1, f2]; clear hn hc hl h4 f1 f2 g1 g2; grind) (by simp only [Rat.intCast_mul]; rw [f1]; clear hn hc hl h4 f1 f2 g1 g2; grind) (by simp only [Rat.intCast_mul]; rw [g1]; clear hn hc hl h4 f1 f2 g1 g2; grind) (qon_c o1 hl h4)
      refine ⟨s.1, s.2, ?_, ?_⟩
      · intro a1 b1 c1 a2 b2 c2 h1 h2 h3
        simp only [Option.some.injEq, Prod.mk.injEq] at h1 h2
        obtain ⟨r1, r2, r3⟩ := h1
        obtain ⟨r4, r5, r6⟩ := h2
        subst r1 r2 r3 r4 r5 r6
        exact hD0
      · intro a1 b1 c1 b2 h1 h2 h3
        simp only [Option.some.injEq, Prod.mk.injEq] at h1 h2
        obtain ⟨r1, r2, r3⟩ := h1
        obtain ⟨r4, r5, r6⟩ := h2
        exact absurd ⟨by omega, by omega⟩ h
theorem ng_q {A : ecE} {P : ecP} (hP : ecOn A P) : ecOn A (ngP A.1 A.2.2.1 P) ∧ ecQ (ngP A.1 A.2.2.1 P) = qng (toE A) (ecQ P) := by
  match P, hP with
  | none, _ => exact ⟨trivial, rfl⟩
  | some (x, y, z), hP =>
    obtain ⟨u, v, e1, f1, g1, n1, o1⟩ := ecQ_uv hP
    obtain ⟨h1, h2, h3⟩ := hP
    refine ⟨⟨h1, h2, by grind⟩, ?_⟩
    rw [e1]
    simp only [ecQ, Option.some.injEq, Prod.mk.injEq] at e1
    obtain ⟨e1, e2⟩ := e1
    simp only [ngP, ecQ, qng, Option.some.injEq, Prod.mk.injEq, e1, true_and]
    have e : ((-(y + A.1 * x * z + A.2.2.1 * (z * z) * z) : Int) : Rat) = (-v - (toE A).1 * u - (toE A).2.2.1) * ((z * z * z : Int) : Rat) := by
      simp only [Rat.intCast_neg, Rat.intCast_add, Rat.intCast_mul, toE]
      rw [f1, g1]; clear e1 e2 f1 g1 h3 o1 n1; grind
    rw [e]
    exact rmd (by rw [Rat.intCast_mul, Rat.intCast_mul]; exact rne3 n1)
/-- x is wider than n digits -/
def wdP (n : Nat) : ecP → Prop
  | none => False
  | some (x, _, z) => 10 ^ n ≤ x.natAbs ∨ 10 ^ n ≤ (z * z).natAbs
theorem wdP_mono {m n : Nat} (h : m ≤ n) {P : ecP} (hP : wdP n P) : wdP m P := by
  match P, hP with
  | some (x, y, z), hP =>
    have := Nat.pow_le_pow_right (show 0 < 10 by decide) h
    exact hP.imp (fun h' => Nat.le_trans this h') (fun h' => Nat.le_trans this h')
theorem qH_z {A : ecE} {x y z : Int} (h : ecOn A (some (x, y, z))) : qH (ecQ (some (x, y, z))) = max x.natAbs (z * z).natAbs := by
  unfold qH; rw [(ecQ_xz h).1, (ecQ_xz h).2]
theorem wdP_qL {A : ecE} {P : ecP} (h : ecOn A P) (n : Nat) (hw : wdP n P) : (n : Int) + 1 ≤ qL (ecQ P) := by
  match P, h, hw with
  | some (x, y, z), h, hw =>
    have h1 : 10 ^ n ≤ qH (ecQ (some (x, y, z))) := by
      rw [qH_z h]
      rcases hw with hw | hw
      · exact Nat.le_trans hw (Nat.le_max_left _ _)
      · exact Nat.le_trans hw (Nat.le_max_right _ _)
    have h2 := Nat.lt_of_le_of_lt h1 (dgc_lt _)
    have := p10_lt h2
    show _ ≤ ((dgc _ : Nat) : Int)
    omega
theorem qL_wdP {A : ecE} {P : ecP} (h : ecOn A P) (n : Nat) (hn : 1 ≤ n) (hw : (n : Int) + 1 ≤ qL (ecQ P)) : wdP n P := by
  have h1 := (dgc_le _ (qH_pos (ecQ P))).2
  have hw' : (n : Int) + 1 ≤ ((dgc (qH (ecQ P)) : Nat) : Int) := hw
  have h2 : 10 ^ n ≤ 10 ^ (dgc (qH (ecQ P)) - 1) := Nat.pow_le_pow_right (by decide) (by omega)
  have h3 := Nat.le_trans h2 h1
  match P, h, h3 with
  | none, _, h3 =>
    have : 10 ^ 1 ≤ 10 ^ n := Nat.pow_le_pow_right (by decide) hn
    have e : qH (ecQ none) = 1 := rfl
    rw [e] at h3
    omega
  | some (x, y, z), h, h3 =>
    rw [qH_z h] at h3
    rcases Nat.le_total x.natAbs (z * z).natAbs with h0 | h0
    · rw [Nat.max_eq_right h0] at h3; exact .inr h3
    · rw [Nat.max_eq_left h0] at h3; exact .inl h3
/-- what its times reckons -/
def CmR (A : ecE) (P : ecP) (lf : Nat) : Nat → ecP → Option ecP → Prop
  | 0, R, res => res = some R
  | j + 1, R, res => (wdP 63 R ∧ res = none) ∨ (¬ wdP 63 R ∧ ((wdP 162 (jnA A R R) ∧ res = none) ∨ (¬ wdP 162 (jnA A R R) ∧ ((lf.testBit j = false ∧ CmR A P lf j (jnA A R R) res) ∨ (lf.testBit j = true ∧ ((wdP 162 (jnA A (jnA A R R) P) ∧ res = none) ∨ (¬ wdP 162 (jnA A (jnA A R R) P) ∧ CmR A P lf j (jnA A (jnA A R R) P) res)))))))
theorem far_wd {P : ecP} : farP P ↔ wdP 340 P := by
  match P with
  | none => exact Iff.rfl
  | some (x, y, z) => exact Iff.rfl
theorem CmR_TmR {A : ecE} {P : ecP} {lf : Nat} : ∀ (j : Nat) (R R' : ecP) (res : Option ecP), CmR A P lf j R (some R') → TmR A P lf j R res → res = some R'
  | 0, R, R', res, h1, h2 => by
    have h1' : some R' = some R := h1
    have h2' : res = some R := h2
    rw [h2', h1']
  | j + 1, R, R', res, h1, h2 => by
    rcases h1 with ⟨_, h1⟩ | ⟨_, h1⟩
    · cases h1
    rcases h1 with ⟨_, h1⟩ | ⟨n1, h1⟩
    · cases h1
    rcases h2 with ⟨f2, _⟩ | ⟨_, h2⟩
    · exact absurd (wdP_mono (by decide) (far_wd.1 f2)) n1
    rcases h1 with ⟨b1, h1⟩ | ⟨b1, h1⟩ <;> rcases h2 with ⟨b2, h2⟩ | ⟨b2, h2⟩
    · exact CmR_TmR j _ _ _ h1 h2
    · rw [b1] at b2; cases b2
    · rw [b1] at b2; cases b2
    · rcases h1 with ⟨_, h1⟩ | ⟨n3, h1⟩
      · cases h1
      rcases h2 with ⟨f2, _⟩ | ⟨_, h2⟩
      · exact absurd (wdP_mono (by decide) (far_wd.1 f2)) n3
      · exact CmR_TmR j _ _ _ h1 h2
theorem bit_0 {lf j : Nat} (h : lf.testBit j = false) : lf / 2 ^ j = 2 * (lf / 2 ^ (j + 1)) := by
  rw [Nat.testBit_eq_decide_div_mod_eq] at h
  have := of_decide_eq_false h
  rw [Nat.pow_succ, ← Nat.div_div_eq_div_mul]
  omega
theorem bit_1 {lf j : Nat} (h : lf.testBit j = true) : lf / 2 ^ j = 2 * (lf / 2 ^ (j + 1)) + 1 := by
  rw [Nat.testBit_eq_decide_div_mod_eq] at h
  have := of_decide_eq_true h
  rw [Nat.pow_succ, ← Nat.div_div_eq_div_mul]
  omega
theorem dbl_m {A : ecE} (hA : ecOk A) {P R : ecP} (hP : ecOn A P) (hR : ecOn A R) {m : Nat} (hm : ecQ R = qmul (toE A) (ecQ P) m) : ecOn A (jnA A R R) ∧ ecQ (jnA A R R) = qmul (toE A) (ecQ P) (2 * m) := by
  obtain ⟨a1, a2, _⟩ := jn_q hR hR
  exact ⟨a1, by rw [a2, hm, qmul_dbl hA.ns hP.q]⟩
theorem add_m {A : ecE} {P R : ecP} (hP : ecOn A P) (hR : ecOn A R) {m : Nat} (hm : ecQ R = qmul (toE A) (ecQ P) m) : ecOn A (jnA A R P) ∧ ecQ (jnA A R P) = qmul (toE A) (ecQ P) (m + 1) := by
  obtain ⟨a1, a2, _⟩ := jn_q hR hP
  exact ⟨a1, by rw [a2, hm]; rfl⟩
theorem TmR_mul {A : ecE} (hA : ecOk A) {P : ecP} (hP : ecOn A P) {lf : Nat} : ∀ (j : Nat) (R R' : ecP), ecOn A R → ecQ R = qmul (toE A) (ecQ P) (lf / 2 ^ j) → TmR A P lf j R (some R') → ecOn A R' ∧ ecQ R' = qmul (toE A) (ecQ P) lf
  | 0, R, R', hR, hm, h => by
    have h' : some R' = some R := h
    cases h'
    rw [Nat.pow_zero, Nat.div_one] at hm
    exact ⟨hR, hm⟩
  | j + 1, R, R', hR, hm, h => by
    rcases h with ⟨_, h⟩ | ⟨_, h⟩
    · cases h
    obtain ⟨a1, a2⟩ := dbl_m hA hP hR hm
    rcases h with ⟨b, h⟩ | ⟨b, h⟩
    · exact TmR_mul hA hP j _ _ a1 (by rw [a2, bit_0 b]) h
    · rcases h with ⟨_, h⟩ | ⟨_, h⟩
      · cases h
      obtain ⟨c1, c2⟩ := add_m hP a1 a2
      exact TmR_mul hA hP j _ _ c1 (by rw [c2, bit_1 b]) h
theorem mul_pos_of {A : ecE} {P R : ecP} {m n : Nat} (hm : ecQ R = qmul (toE A) (ecQ P) m) (h : wdP n R) : 1 ≤ m := by
  rcases Nat.eq_zero_or_pos m with h0 | h0
  · subst h0
    match R, hm, h with
    | some (x, y, z), hm, _ => simp [ecQ, qmul] at hm
  · exact h0
theorem main_use {A : ecE} (hA : ecOk A) {P R R' : ecP} (hP : ecOn A P) (hR : ecOn A R) (hR' : ecOn A R') {m k n c : Nat} (hk2 : k ≤ 1048576) (hm : ecQ R = qmul (toE A) (ecQ P) m) (hk : ecQ R' = qmul (toE A) (ecQ P) k) (hw : wdP n R) (hc : c * m ≤ k) (hc1 : 1 ≤ c) (hn : (362 + 18 : Int) ≤ (c : Int) * c * (3 * (n : Int) - 52)) : wdP 120 R' := by
  have h1 := wdP_qL hR n hw
  have m1 := mul_pos_of hm hw
  have k1 : 1 ≤ k := Nat.le_trans (Nat.le_trans m1 (Nat.le_mul_of_pos_left m hc1)) hc
  have key := (ecOk.ht hA).main hA.ns hP.q m1 k1 hk2
  rw [← hm, ← hk] at key
  apply qL_wdP hR' 120 (by decide)
  generalize qL (ecQ R) = am at *
  generalize qL (ecQ R') = ak at *
  have p : (0 : Int) < (m : Int) * m := by
    have := Nat.mul_le_mul m1 m1
    have := Int.ofNat_le.2 this
    simp at this; omega
  have q : (c : Int) * c * ((m : Int) * m) ≤ (k : Int) * k := by
    have := Nat.mul_le_mul hc hc
    have := Int.ofNat_le.2 this
    simp only [Int.natCast_mul] at this
    have e : (c : Int) * m * (c * m) = (c : Int) * c * ((m : Int) * m) := by grind
    omega
  have cp : (0 : Int) < (c : Int) * c := by
    have := Nat.mul_le_mul hc1 hc1
    have := Int.ofNat_le.2 this
    simp at this; omega
  have n0 : 0 ≤ 3 * (n : Int) - 52 := by
    rcases Int.lt_or_le (3 * (n : Int) - 52) 0 with h0 | h0
    · have := Int.mul_neg_of_pos_of_neg cp h0; omega
    · exact h0
  generalize (c : Int) * c = C at *
  generalize (m : Int) * m = M at *
  generalize (k : Int) * k = K at *
  have q1 : (C * M) * (3 * (n : Int) - 52) ≤ K * (3 * am - 55) := Int.mul_le_mul q (by omega) n0 (by have := Int.mul_pos cp p; omega)
  have q2 : M * 380 ≤ M * (C * (3 * (n : Int) - 52)) := Int.mul_le_mul_of_nonneg_left (by omega) (by omega)
  have e : (C * M) * (3 * (n : Int) - 52) = M * (C * (3 * (n : Int) - 52)) := by grind
  have q3 : M * 380 ≤ M * (3 * ak + 17) := by omega
  have := Int.le_of_mul_le_mul_left q3 p
  show ((120 : Nat) : Int) + 1 ≤ ak
  omega
theorem CmR_none {A : ecE} (hA : ecOk A) {P : ecP} (hP : ecOn A P) {lf : Nat} (hlf : lf ≤ 1000000) : ∀ (j : Nat) (R R' : ecP), ecOn A R → ecQ R = qmul (toE A) (ecQ P) (lf / 2 ^ j) → CmR A P lf j R none → ecOn A R' → ecQ R' = qmul (toE A) (ecQ P) lf → wdP 120 R'
  | 0, R, R', hR, hm, h, hR', hk => by
    have h' : none = some R := h
    cases h'
  | j + 1, R, R', hR, hm, h, hR', hk => by
    have le : ∀ i, lf / 2 ^ i ≤ lf := fun i => Nat.div_le_self _ _
    have l2 : 2 * (lf / 2 ^ (j + 1)) ≤ lf := by
      have h1 : lf / 2 ^ (j + 1) ≤ lf / 2 := by
        rw [Nat.pow_succ, Nat.mul_comm, ← Nat.div_div_eq_div_mul]; exact Nat.div_le_self _ _
      omega
    rcases h with ⟨w, _⟩ | ⟨_, h⟩
    · exact main_use hA hP hR hR' (c := 2) (by omega) hm hk w l2 (by decide) (by decide)
    obtain ⟨a1, a2⟩ := dbl_m hA hP hR hm
    rcases h with ⟨w, _⟩ | ⟨_, h⟩
    · exact main_use hA hP a1 hR' (c := 1) (by omega) a2 hk w (by omega) (by decide) (by decide)
    rcases h with ⟨b, h⟩ | ⟨b, h⟩
    · exact CmR_none hA hP hlf j _ _ a1 (by rw [a2, bit_0 b]) h hR' hk
    · obtain ⟨c1, c2⟩ := add_m hP a1 a2
      rw [← bit_1 b] at c2
      rcases h with ⟨w, _⟩ | ⟨_, h⟩
      · exact main_use hA hP c1 hR' (c := 1) (by omega) c2 hk w (by have := le j; omega) (by decide) (by decide)
      · exact CmR_none hA hP hlf j _ _ c1 c2 h hR' hk
/-- a first bit that is 0 -/
theorem TmR_21 {A : ecE} {P : ecP} {lf : Nat} (hlf : lf ≤ 1000000) {res : Option ecP} (h : TmR A P lf 21 none res) : TmR A P lf 20 none res := by
  have e : jnA A none none = none := rfl
  rcases h with ⟨f, _⟩ | ⟨_, h⟩
  · exact absurd f (by rw [e]; exact id)
  rw [e] at h
  have hb : lf.testBit 20 = false := Nat.testBit_lt_two_pow (by omega)
  rcases h with ⟨_, h⟩ | ⟨b, _⟩
  · exact h
  · rw [hb] at b; cases b
/-- times: the program and the reference -/
theorem times_agree {A : ecE} (hA : ecOk A) {P : ecP} (hP : ecOn A P) {lf : Nat} (hlf : lf ≤ 1000000) {rc rt : Option ecP} (hc : CmR A P lf 20 none rc) (ht : TmR A P lf 21 none rt) : (∃ R, rc = some R ∧ rt = some R ∧ ecOn A R ∧ ecQ R = qmul (toE A) (ecQ P) lf) ∨ (rc = none ∧ (rt = none ∨ ∃ R, rt = some R ∧ ecOn A R ∧ wdP 120 R)) := by
  have ht := TmR_21 hlf ht
  have m0 : ecQ none = qmul (toE A) (ecQ P) (lf / 2 ^ 20) := by
    have : lf / 2 ^ 20 = 0 := Nat.div_eq_of_lt (by omega)
    rw [this]; rfl
  match rc, hc with
  | some R, hc =>
    have e := CmR_TmR 20 none R rt hc ht
    subst e
    obtain ⟨b1, b2⟩ := TmR_mul hA hP 20 none R trivial m0 ht
    exact .inl ⟨R, rfl, rfl, b1, b2⟩
  | none, hc =>
    refine .inr ⟨rfl, ?_⟩
    match rt, ht with
    | none, _ => exact .inl rfl
    | some R, ht =>
      obtain ⟨b1, b2⟩ := TmR_mul hA hP 20 none R trivial m0 ht
      exact .inr ⟨R, rfl, b1, CmR_none hA hP hlf 20 none R trivial m0 hc b1 b2⟩
theorem wd_tl {A : ecE} {P : ecP} (h : ecOn A P) (hw : wdP 120 P) : tlP P ∧ tlP (ngP A.1 A.2.2.1 P) := by
  match P, h, hw with
  | some (x, y, z), h, hw =>
    have key : 10 ^ 120 ≤ x.natAbs ∨ 10 ^ 120 ≤ (z * z * z).natAbs := by
      rcases hw with hw | hw
      · exact .inl hw
      · have hz := h.1
        right
        have : 1 ≤ z.natAbs := by omega
        rw [Int.natAbs_mul (z * z) z]
        exact Nat.le_trans hw (Nat.le_mul_of_pos_right _ this)
    rcases key with k | k
    · exact ⟨.inl k, .inl k⟩
    · exact ⟨.inr (.inr k), .inr (.inr k)⟩
/-- opposite points -/
theorem ng_jn {A : ecE} {P Q : ecP} (hP : ecOn A P) (hQ : ecOn A Q) : jnA A (ngP A.1 A.2.2.1 P) (ngP A.1 A.2.2.1 Q) = ngP A.1 A.2.2.1 (jnA A P Q) := by
  obtain ⟨a1, a2⟩ := ng_q hP
  obtain ⟨b1, b2⟩ := ng_q hQ
  obtain ⟨c1, c2, _⟩ := jn_q a1 b1
  obtain ⟨d1, d2, _⟩ := jn_q hP hQ
  obtain ⟨e1, e2⟩ := ng_q d1
  exact ecQ_inj c1 e1 (by rw [c2, a2, b2, e2, d2, qng_ad hP.q hQ.q])
theorem ng_wd {A : ecE} {P : ecP} {n : Nat} : wdP n (ngP A.1 A.2.2.1 P) ↔ wdP n P := by
  match P with
  | none => exact Iff.rfl
  | some (x, y, z) => exact Iff.rfl
theorem CmR_ng {A : ecE} {P : ecP} (hP : ecOn A P) {lf : Nat} : ∀ (j : Nat) (R : ecP) (rc : Option ecP), ecOn A R → CmR A (ngP A.1 A.2.2.1 P) lf j (ngP A.1 A.2.2.1 R) rc → ∃ rc' : Option ecP, rc = rc'.map (ngP A.1 A.2.2.1) ∧ CmR A P lf j R rc'
  | 0, R, rc, hR, h => ⟨some R, h, rfl⟩
  | j + 1, R, rc, hR, h => by
    unfold CmR at h
    rw [ng_jn hR hR, ng_wd, ng_wd] at h
    have h2 := (jn_q hR hR).1
    rw [ng_jn h2 hP, ng_wd] at h
    have h3 := (jn_q h2 hP).1
    unfold CmR
    rcases h with ⟨w, h⟩ | ⟨w, h⟩
    · exact ⟨none, h, .inl ⟨w, rfl⟩⟩
    rcases h with ⟨w2, h⟩ | ⟨w2, h⟩
    · exact ⟨none, h, .inr ⟨w, .inl ⟨w2, rfl⟩⟩⟩
    rcases h with ⟨b, h⟩ | ⟨b, h⟩
    · obtain ⟨rc', e, i⟩ := CmR_ng hP j _ _ h2 h
      exact ⟨rc', e, .inr ⟨w, .inr ⟨w2, .inl ⟨b, i⟩⟩⟩⟩
    · rcases h with ⟨w3, h⟩ | ⟨w3, h⟩
      · exact ⟨none, h, .inr ⟨w, .inr ⟨w2, .inr ⟨b, .inl ⟨w3, rfl⟩⟩⟩⟩⟩
      · obtain ⟨rc', e, i⟩ := CmR_ng hP j _ _ h3 h
        exact ⟨rc', e, .inr ⟨w, .inr ⟨w2, .inr ⟨b, .inr ⟨w3, i⟩⟩⟩⟩⟩
/-- what its order answers: k turns left, the n-th multiple R -/
def CoR (A : ecE) (P : ecP) : Nat → Int → ecP → Int → Prop
  | 0, _, _, res => res = 0
  | k + 1, n, R, res => ∃ x y z : Int, R = some (x, y, z) ∧ ((2 < z.natAbs ∧ res = 0) ∨ (¬ 2 < z.natAbs ∧ ((wdP 162 (jnA A R P) ∧ res = 0) ∨ (¬ wdP 162 (jnA A R P) ∧ ((jnA A R P = none ∧ res = n + 1) ∨ (jnA A R P ≠ none ∧ CoR A P k (n + 1) (jnA A R P) res))))))
theorem OrdR_det {A : ecE} {P : ecP} : ∀ (k : Nat) (n : Int) (R : ecP) (r1 r2 : Int), OrdR A P k n R r1 → OrdR A P k n R r2 → r1 = r2
  | 0, n, R, r1, r2, h1, h2 => by
    have h1' : r1 = 0 := h1
    have h2' : r2 = 0 := h2
    omega
  | k + 1, n, R, r1, r2, h1, h2 => by
    rcases h1 with ⟨a, h1⟩ | ⟨x, y, z, a, h1⟩ <;> rcases h2 with ⟨b, h2⟩ | ⟨x', y', z', b, h2⟩
    · omega
    · rw [a] at b; cases b
    · rw [a] at b; cases b
    · rw [a] at b; cases b
      rcases h1 with ⟨a1, h1⟩ | ⟨a1, h1⟩ <;> rcases h2 with ⟨a2, h2⟩ | ⟨a2, h2⟩
      · omega
      · exact absurd a1 a2
      · exact absurd a2 a1
      · exact OrdR_det k _ _ _ _ h1 h2
/-- an order that is found is one -/
theorem OrdR_tor {A : ecE} {P : ecP} (hP : ecOn A P) : ∀ (k : Nat) (n : Nat) (R : ecP) (r : Int), 1 ≤ n → ecOn A R → ecQ R = qmul (toE A) (ecQ P) n → OrdR A P k n R r → r = 0 ∨ ∃ j : Nat, r = j ∧ 1 ≤ j ∧ j < n + k ∧ qmul (toE A) (ecQ P) j = none
  | 0, n, R, r, _, _, _, h => .inl h
  | k + 1, n, R, r, hn, hR, hm, h => by
    rcases h with ⟨a, h⟩ | ⟨x, y, z, a, h⟩
    · exact .inr ⟨n, h, hn, by omega, by rw [← hm, a]; rfl⟩
    · rcases h with ⟨_, h⟩ | ⟨_, h⟩
      · exact .inl h
      · obtain ⟨c1, c2⟩ := add_m hP hR hm
        rcases OrdR_tor hP k (n + 1) _ r (by omega) c1 c2 h with h | ⟨j, j1, j2, j3, j4⟩
        · exact .inl h
        · exact .inr ⟨j, j1, j2, by omega, j4⟩
theorem qmul_tor {A : ecE} (hA : ecOk A) {p : qP} (hp : qOn (toE A) p) {j : Nat} (h : qmul (toE A) p j = none) : ∀ i : Nat, qmul (toE A) p (2 ^ i * j) = none
  | 0 => by rw [Nat.pow_zero, Nat.one_mul]; exact h
  | i + 1 => by
    have e : 2 ^ (i + 1) * j = 2 * (2 ^ i * j) := by rw [Nat.pow_succ]; grind
    rw [e, ← qmul_dbl hA.ns hp, qmul_tor hA hp h i]; rfl
/-- points of finite order are not wide -/
theorem tor_not_wide {A : ecE} (hA : ecOk A) {P R : ecP} (hP : ecOn A P) (hR : ecOn A R) {m j : Nat} (hm : ecQ R = qmul (toE A) (ecQ P) m) (m2 : m ≤ 13) (hj : 1 ≤ j) (j2 : j ≤ 24) (ht : qmul (toE A) (ecQ P) j = none) : ¬ wdP 162 R := by
  intro hw
  have h1 := wdP_qL hR 162 hw
  have m1 := mul_pos_of hm hw
  have t := qmul_tor hA hP.q ht 15
  have key := (ecOk.ht hA).main hA.ns hP.q (k := 2 ^ 15 * j) m1 (by omega) (by omega)
  rw [← hm, t, (ecOk.ht hA).o] at key
  generalize qL (ecQ R) = am at *
  have p : (m : Int) * m ≤ 13 * 13 := Int.mul_le_mul (by omega) (by omega) (by omega) (by decide)
  have q : (1073741824 : Int) ≤ ((2 ^ 15 * j : Nat) : Int) * ((2 ^ 15 * j : Nat) : Int) := by
    have : (32768 : Int) ≤ ((2 ^ 15 * j : Nat) : Int) := by omega
    have := Int.mul_le_mul this this (by decide) (by omega)
    omega
  generalize ((2 ^ 15 * j : Nat) : Int) * ((2 ^ 15 * j : Nat) : Int) = K at *
  generalize (m : Int) * m = M at *
  have q1 : 1073741824 * (3 * am - 55) ≤ K * (3 * am - 55) := Int.mul_le_mul_of_nonneg_right q (by omega)
  omega
/-- order: the program and the reference -/
theorem order_agree {A : ecE} (hA : ecOk A) {P : ecP} (hP : ecOn A P) : ∀ (k : Nat) (n : Nat) (R : ecP) (rc rt : Int), 1 ≤ n → n + k ≤ 12 → ecOn A R → ecQ R = qmul (toE A) (ecQ P) n → R ≠ none → CoR A P k n R rc → OrdR A P (k + 1) n R rt → rc = rt
  | 0, n, R, rc, rt, hn, hk, hR, hm, h0, hc, ht => by
    have hc' : rc = 0 := hc
    rcases ht with ⟨a, _⟩ | ⟨x, y, z, a, h⟩
    · exact absurd a h0
    · rcases h with ⟨_, h⟩ | ⟨_, h⟩
      · omega
      · have h' : rt = 0 := h
        omega
  | k + 1, n, R, rc, rt, hn, hk, hR, hm, h0, hc, ht => by
    obtain ⟨x, y, z, e, hc⟩ := hc
    rcases ht with ⟨a, _⟩ | ⟨x', y', z', e', ht⟩
    · exact absurd a h0
    rw [e] at e'
    cases e'
    rcases hc with ⟨a1, hc⟩ | ⟨a1, hc⟩ <;> rcases ht with ⟨a2, ht⟩ | ⟨a2, ht⟩
    · omega
    · exact absurd a1 a2
    · exact absurd a2 a1
    · obtain ⟨c1, c2⟩ := add_m hP hR hm
      rcases hc with ⟨w, hc⟩ | ⟨w, hc⟩
      · rcases OrdR_tor hP (k + 1) (n + 1) _ rt (by omega) c1 c2 (by simpa using ht) with h | ⟨j, j1, j2, j3, j4⟩
        · omega
        · exact absurd w (tor_not_wide hA hP c1 c2 (by omega) j2 (by omega) j4)
      · rcases hc with ⟨hn1, hc⟩ | ⟨hn1, hc⟩
        · rcases ht with ⟨_, ht⟩ | ⟨x', y', z', e', _⟩
          · omega
          · rw [hn1] at e'; cases e'
        · exact order_agree hA hP k (n + 1) _ rc rt (by omega) (by omega) c1 c2 hn1 (by simpa using hc) (by simpa using ht)
theorem BS_10 (m : Nat) : BS ^ m = ((10 ^ (9 * m) : Nat) : Int) := by
  rw [Nat.pow_mul]
  show (1000000000 : Int) ^ m = _
  rw [Int.natCast_pow]; rfl
theorem lt9_10 {v : Int} {m : Nat} (h : v.natAbs < 10 ^ (9 * m)) : lt9 v m := by
  show (v.natAbs : Int) < BS ^ m
  rw [BS_10]; exact Int.ofNat_lt.2 h
theorem lt9_of10 {v : Int} {m n : Nat} (h : v.natAbs < 10 ^ n) (hn : n ≤ 9 * m) : lt9 v m := lt9_10 (Nat.lt_of_lt_of_le h (Nat.pow_le_pow_right (by decide) hn))
/-- y is bounded by x and z -/
theorem y_bd {A : ecE} (hA : ecOk A) {x y z : Int} (h : ecOn A (some (x, y, z))) {N : Nat} (hx : x.natAbs ≤ N * N) (hz : z.natAbs ≤ N) : y.natAbs ≤ 1000000 * (N * N * N) := by
  obtain ⟨h1, _, h3⟩ := h
  rcases Nat.lt_or_ge (1000000 * (N * N * N)) y.natAbs with hy | hy
  rotate_left
  · exact hy
  exfalso
  have n1 : 1 ≤ N := by omega
  have e : y * y = x * x * x + A.2.1 * (x * x) * (z * z) + A.2.2.2.1 * x * (z * z * (z * z)) + A.2.2.2.2 * (z * z * z * (z * z * z)) - (A.1 * x * z + A.2.2.1 * (z * z * z)) * y := by grind
  have b := congrArg Int.natAbs e
  rw [Int.natAbs_mul] at b
  have l1 := hA.l1; have l2 := hA.l2; have l3 := hA.l3; have l4 := hA.l4; have l6 := hA.l6
  have q : (x * x * x + A.2.1 * (x * x) * (z * z) + A.2.2.2.1 * x * (z * z * (z * z)) + A.2.2.2.2 * (z * z * z * (z * z * z)) - (A.1 * x * z + A.2.2.1 * (z * z * z)) * y).natAbs ≤ (N * N) * (N * N) * (N * N) + 99999 * ((N * N) * (N * N)) * (N * N) + 99999 * (N * N) * (N * N * (N * N)) + 99999 * (N * N * N * (N * N * N)) + (99999 * (N * N) * N + 99999 * (N * N * N)) * y.natAbs :=
    bd_sub (bd_add (bd_add (bd_add (bd_mul (bd_mul hx hx) hx) (bd_mul (bd_mul l2 (bd_mul hx hx)) (bd_mul hz hz))) (bd_mul (bd_mul l4 hx) (bd_mul (bd_mul hz hz) (bd_mul hz hz)))) (bd_mul l6 (bd_mul (bd_mul (bd_mul hz hz) hz) (bd_mul (bd_mul hz hz) hz)))) (bd_mul (bd_add (bd_mul (bd_mul l1 hx) hz) (bd_mul l3 (bd_mul (bd_mul hz hz) hz))) (Nat.le_refl _))
  rw [← b] at q
  generalize y.natAbs = w at *
  have e1 : (N * N) * (N * N) * (N * N) + 99999 * ((N * N) * (N * N)) * (N * N) + 99999 * (N * N) * (N * N * (N * N)) + 99999 * (N * N * N * (N * N * N)) + (99999 * (N * N) * N + 99999 * (N * N * N)) * w = 299998 * ((N * N * N) * (N * N * N)) + 199998 * ((N * N * N) * w) := by grind
  rw [e1] at q
  generalize N * N * N = t at *
  have q1 : t * (1000000 * t) ≤ t * w := Nat.mul_le_mul_left t (Nat.le_of_lt hy)
  have e2 : t * (1000000 * t) = 1000000 * (t * t) := by grind
  have q2 : (1000000 * t + 1) * w ≤ w * w := Nat.mul_le_mul_right w hy
  have e3 : (1000000 * t + 1) * w = 1000000 * (t * w) + w := by grind
  generalize t * t = u at *
  generalize t * w = r at *
  generalize w * w = s at *
  omega
theorem sq_lt {z : Int} {n : Nat} (h : (z * z).natAbs < 10 ^ (2 * n)) : z.natAbs < 10 ^ n := by
  rw [Int.natAbs_mul, Nat.mul_comm 2 n, Nat.pow_mul, Nat.pow_two] at h
  rcases Nat.lt_or_ge z.natAbs (10 ^ n) with h0 | h0
  · exact h0
  · have := Nat.mul_le_mul h0 h0; omega
theorem wd_not {n : Nat} {x y z : Int} (h : ¬ wdP n (some (x, y, z))) : x.natAbs < 10 ^ n ∧ (z * z).natAbs < 10 ^ n := by
  constructor
  · exact Nat.lt_of_not_le fun h' => h (.inl h')
  · exact Nat.lt_of_not_le fun h' => h (.inr h')
/-- a point within 2 n digits -/
theorem pt_bd {A : ecE} (hA : ecOk A) {x y z : Int} (h : ecOn A (some (x, y, z))) {n : Nat} (hw : ¬ wdP (2 * n) (some (x, y, z))) : x.natAbs < 10 ^ (2 * n) ∧ z.natAbs < 10 ^ n ∧ y.natAbs < 10 ^ (3 * n + 7) := by
  obtain ⟨h1, h2⟩ := wd_not hw
  have h3 := sq_lt h2
  refine ⟨h1, h3, ?_⟩
  have e : 10 ^ (2 * n) = 10 ^ n * 10 ^ n := by rw [← Nat.pow_add]; congr 1; omega
  have h4 := y_bd hA h (N := 10 ^ n) (by rw [← e]; exact Nat.le_of_lt h1) (Nat.le_of_lt h3)
  have e2 : 10 ^ (3 * n + 7) = 10000000 * (10 ^ n * 10 ^ n * 10 ^ n) := by
    rw [← Nat.pow_add, ← Nat.pow_add, show 3 * n + 7 = 7 + (n + n + n) by omega, Nat.pow_add]
  have : 0 < 10 ^ n * 10 ^ n * 10 ^ n := Nat.mul_pos (Nat.mul_pos (Nat.pow_pos (by decide)) (Nat.pow_pos (by decide))) (Nat.pow_pos (by decide))
  omega
theorem wd_capJ {A : ecE} (hA : ecOk A) {P : ecP} (h : ecOn A P) (hw : ¬ wdP 340 P) : capJ P := by
  match P, h, hw with
  | none, _, _ => trivial
  | some (x, y, z), h, hw =>
    obtain ⟨b1, b2, b3⟩ := pt_bd hA h (n := 170) hw
    exact ⟨lt9_of10 b1 (by decide), lt9_of10 b3 (by decide), lt9_of10 b2 (by decide), by have := h.1; omega⟩
theorem tl_wd {P : ecP} (h : ¬ tlP P) {A : ecE} (hP : ecOn A P) : ¬ wdP 120 P := fun hw => h (wd_tl hP hw).1
theorem qH_wd {A : ecE} {P : ecP} (h : ecOn A P) {n : Nat} (hn : 1 ≤ n) (hw : ¬ wdP n P) : qH (ecQ P) < 10 ^ n := by
  match P, h, hw with
  | none, _, _ => exact Nat.lt_of_lt_of_le (show (1 : Nat) < 10 ^ 1 by decide) (Nat.pow_le_pow_right (by decide) hn)
  | some (x, y, z), h, hw =>
    rw [qH_z h]
    obtain ⟨b1, b2⟩ := wd_not hw
    exact Nat.max_lt.2 ⟨b1, b2⟩
theorem qH_sum {A : ecE} (hA : ecOk A) {P Q : ecP} (hP : ecOn A P) (hQ : ecOn A Q) {m n : Nat} (hm : 1 ≤ m) (hn : 1 ≤ n) (wP : ¬ wdP m P) (wQ : ¬ wdP n Q) : qH (ecQ (jnA A P Q)) < 10 ^ (16 + 2 * m + 2 * n) := by
  rw [(jn_q hP hQ).2.1]
  have h1 := q_par_h hA hP.q hQ.q
  have h2 := qH_pos (qad (toE A) (ecQ P) (qng (toE A) (ecQ Q)))
  have h3 := Nat.mul_lt_mul'' (qH_wd hP hm wP) (qH_wd hQ hn wQ)
  have h4 := Nat.mul_lt_mul'' h3 h3
  have h5 := Nat.le_mul_of_pos_right (qH (qad (toE A) (ecQ P) (ecQ Q))) h2
  have h6 := Nat.mul_lt_mul_of_pos_left h4 (show 0 < 10 ^ 16 by decide)
  have e : 10 ^ 16 * (10 ^ m * 10 ^ n * (10 ^ m * 10 ^ n)) = 10 ^ (16 + 2 * m + 2 * n) := by
    rw [← Nat.pow_add, ← Nat.pow_add, ← Nat.pow_add]; congr 1; omega
  rw [e] at h6
  exact Nat.lt_of_le_of_lt (Nat.le_trans h5 h1) h6
theorem wd_sum {A : ecE} (hA : ecOk A) {P Q : ecP} (hP : ecOn A P) (hQ : ecOn A Q) {m n k : Nat} (hm : 1 ≤ m) (hn : 1 ≤ n) (hk : 16 + 2 * m + 2 * n ≤ k) (wP : ¬ wdP m P) (wQ : ¬ wdP n Q) : ¬ wdP k (jnA A P Q) := by
  intro hw
  have h1 := qH_sum hA hP hQ hm hn wP wQ
  have h2 := wdP_qL (jn_q hP hQ).1 k hw
  have h3 := (dgc_le _ (qH_pos (ecQ (jnA A P Q)))).2
  have h4 := p10_lt (Nat.lt_of_le_of_lt h3 h1)
  have h2' : (k : Int) + 1 ≤ ((dgc (qH (ecQ (jnA A P Q))) : Nat) : Int) := h2
  omega
theorem wd_z {P : ecP} {k n : Nat} (hw : ¬ wdP k P) (hk : k ≤ 2 * n) : ∀ x y z : Int, P = some (x, y, z) → z.natAbs < 10 ^ n := by
  intro x y z e
  subst e
  exact sq_lt (Nat.lt_of_lt_of_le (wd_not hw).2 (Nat.pow_le_pow_right (by decide) hk))
/-- what slots hold -/
abbrev slP (A : ecE) (P : ecP) : Prop := ecOn A P ∧ ¬ tlP P
theorem slP.on {A : ecE} {P : ecP} (h : slP A P) : ecOn A P := h.1
theorem slP.tl {A : ecE} {P : ecP} (h : slP A P) : ¬ tlP P := h.2
theorem slP.wd {A : ecE} {P : ecP} (h : slP A P) : ¬ wdP 120 P := tl_wd h.tl h.on
theorem wd_up {m n : Nat} (h : m ≤ n) {P : ecP} (hP : ¬ wdP m P) : ¬ wdP n P := fun h' => hP (wdP_mono h h')
theorem slP.cap {A : ecE} (hA : ecOk A) {P : ecP} (h : slP A P) : capJ P ∧ capJ (ngP A.1 A.2.2.1 P) := by
  have w := wd_up (show 120 ≤ 340 by decide) h.wd
  exact ⟨wd_capJ hA h.on w, wd_capJ hA (ng_q h.on).1 (fun h' => w (ng_wd.1 h'))⟩
/-- sum: what the reference asks for -/
theorem sum_ok {A : ecE} (hA : ecOk A) {P Q : ecP} (hP : ecOn A P) (hQ : ecOn A Q) (wP : ¬ wdP 120 P) (wQ : ¬ wdP 120 Q) : okJ A P Q ∧ capZ (jnA A P Q) := by
  refine ⟨(jn_q hP hQ).2.2, ?_⟩
  have w := wd_sum hA hP hQ (k := 496) (by decide) (by decide) (by decide) wP wQ
  have w2 := wd_z w (n := 248) (by decide)
  match h : jnA A P Q with
  | none => trivial
  | some (x, y, z) => exact lt9_of10 (w2 x y z h) (by decide)
/-- times: what the reference asks for -/
theorem okT_of {A : ecE} (hA : ecOk A) {P : ecP} (hP : ecOn A P) (wP : ¬ wdP 120 P) {lf : Nat} : ∀ (j : Nat) (R : ecP), ecOn A R → ¬ farP R → okT A P lf j R
  | 0, R, _, _ => trivial
  | j + 1, R, hR, hf => by
    have wR : ¬ wdP 340 R := fun h => hf (far_wd.2 h)
    obtain ⟨a1, _, a3⟩ := jn_q hR hR
    refine ⟨wd_capJ hA hR wR, a3, ?_, fun nf => ⟨fun _ => okT_of hA hP wP j _ a1 nf, fun _ => ?_⟩⟩
    · have w := wd_sum hA hR hR (k := 1376) (by decide) (by decide) (by decide) wR wR
      exact fun x y z e => lt9_of10 (wd_z w (n := 688) (by decide) x y z e) (by decide)
    · have wD : ¬ wdP 340 (jnA A R R) := fun h => nf (far_wd.2 h)
      obtain ⟨b1, _, b3⟩ := jn_q a1 hP
      refine ⟨wd_capJ hA a1 wD, b3, ?_, fun nf2 => okT_of hA hP wP j _ b1 nf2⟩
      have w := wd_sum hA a1 hP (k := 936) (by decide) (by decide) (by decide) wD wP
      exact fun x y z e => lt9_of10 (wd_z w (n := 468) (by decide) x y z e) (by decide)
theorem TmR_far {A : ecE} {P : ecP} (hP : ecOn A P) {lf : Nat} : ∀ (j : Nat) (R R' : ecP), ecOn A R → ¬ farP R → TmR A P lf j R (some R') → ecOn A R' ∧ ¬ farP R'
  | 0, R, R', hR, hf, h => by
    have h' : some R' = some R := h
    cases h'
    exact ⟨hR, hf⟩
  | j + 1, R, R', hR, hf, h => by
    rcases h with ⟨_, h⟩ | ⟨n1, h⟩
    · cases h
    have a1 := (jn_q hR hR).1
    rcases h with ⟨b, h⟩ | ⟨b, h⟩
    · exact TmR_far hP j _ _ a1 n1 h
    · rcases h with ⟨_, h⟩ | ⟨n2, h⟩
      · cases h
      exact TmR_far hP j _ _ (jn_q a1 hP).1 n2 h
theorem times_ok {A : ecE} (hA : ecOk A) {P : ecP} (hP : slP A P) (lf : Nat) : okT A P lf 21 none ∧ ∀ R', TmR A P lf 21 none (some R') → capJ R' ∧ capJ (ngP A.1 A.2.2.1 R') := by
  refine ⟨okT_of hA hP.on hP.wd 21 none trivial (fun h => h), fun R' h => ?_⟩
  obtain ⟨b1, b2⟩ := TmR_far hP.on 21 none R' trivial (fun h => h) h
  have w : ¬ wdP 340 R' := fun h => b2 (far_wd.2 h)
  exact ⟨wd_capJ hA b1 w, wd_capJ hA (ng_q b1).1 (fun h' => w (ng_wd.1 h'))⟩
/-- where a point and its double have small bottoms, x is small -/
theorem small2 {A : ecE} (hA : ecOk A) {x y z x' y' z' : Int} (h : ecOn A (some (x, y, z))) (h2 : jnA A (some (x, y, z)) (some (x, y, z)) = some (x', y', z')) (hz : z.natAbs ≤ 2) (hz' : z'.natAbs ≤ 2) : ¬ wdP 24 (some (x, y, z)) := by
  intro hw
  have h' : ecOn A (some (x', y', z')) := by rw [← h2]; exact (jn_q h h).1
  have e2 : ecQ (some (x', y', z')) = qad (toE A) (ecQ (some (x, y, z))) (ecQ (some (x, y, z))) := by rw [← h2]; exact (jn_q h h).2.1
  obtain ⟨k, k1, k2⟩ := q_dbl_k h.q
  rw [← e2, (ecQ_xz h).1, (ecQ_xz h).2, (ecQ_xz h').1] at k1
  rw [← e2, (ecQ_xz h).1, (ecQ_xz h).2, (ecQ_xz h').2] at k2
  have hd := (q_dbl_h hA h.q rfl rfl).1
  rw [← e2, qH_z h, qH_z h'] at hd
  have z4 : (z * z).natAbs ≤ 4 := by rw [Int.natAbs_mul]; exact Nat.mul_le_mul hz hz
  have z4' : (z' * z').natAbs ≤ 4 := by rw [Int.natAbs_mul]; exact Nat.mul_le_mul hz' hz'
  have z1 : 1 ≤ (z * z).natAbs := by have := Int.mul_pos h.1 h.1; omega
  have ha : 10 ^ 24 ≤ x.natAbs := by
    rcases hw with hw | hw
    · exact hw
    · omega
  clear hw
  generalize z * z = Z at *
  generalize z' * z' = Z' at *
  -- F is small
  have bF : (dF (eb4 A) (eb6 A) (eb8 A) x Z).natAbs ≤ 2 * (x.natAbs * x.natAbs * x.natAbs * x.natAbs) := by
    unfold dF
    refine Nat.le_trans (bd_sub (bd_sub (bd_sub (bd_mul (bd_mul (bd_mul (Nat.le_refl _) (Nat.le_refl _)) (Nat.le_refl _)) (Nat.le_refl _)) (bd_mul hA.b4 (bd_mul (bd_mul (bd_mul (Nat.le_refl _) (Nat.le_refl _)) z4) z4))) (bd_mul (bd_mul (show (2 : Int).natAbs ≤ 2 by decide) hA.b6) (bd_mul (bd_mul (bd_mul (Nat.le_refl _) z4) z4) z4))) (bd_mul hA.b8 (bd_mul (bd_mul (bd_mul z4 z4) z4) z4))) ?_
    generalize x.natAbs = a at *
    have q1 : 10 ^ 24 * a ≤ a * a := Nat.mul_le_mul_right a ha
    have q2 : 10 ^ 24 * (a * a) ≤ a * a * a := by have := Nat.mul_le_mul_right (a * a) ha; rw [← Nat.mul_assoc a a a] at this; exact this
    have q3 : 10 ^ 24 * (a * a * a) ≤ a * a * a * a := by have := Nat.mul_le_mul_right (a * a * a) ha; rw [show a * (a * a * a) = a * a * a * a by grind] at this; exact this
    rw [show a * a * 4 * 4 = 16 * (a * a) by grind, show a * 4 * 4 * 4 = 64 * a by grind]
    generalize a * a * a * a = r at *
    generalize a * a * a = s at *
    generalize a * a = t at *
    omega
  -- G is large
  have bG : 3 * (x.natAbs * x.natAbs * x.natAbs) ≤ (dG (eb2 A) (eb4 A) (eb6 A) x Z).natAbs := by
    have e : dG (eb2 A) (eb4 A) (eb6 A) x Z = 4 * (x * x * x) * Z - (-(eb2 A * (x * x * Z * Z) + 2 * eb4 A * (x * Z * Z * Z) + eb6 A * (Z * Z * Z * Z))) := by unfold dG; grind
    rw [e]
    have c1 : (4 * (x * x * x) * Z).natAbs = 4 * (x.natAbs * x.natAbs * x.natAbs) * Z.natAbs := by simp only [Int.natAbs_mul]; rfl
    have c2 : (eb2 A * (x * x * Z * Z) + 2 * eb4 A * (x * Z * Z * Z) + eb6 A * (Z * Z * Z * Z)).natAbs ≤ x.natAbs * x.natAbs * x.natAbs := by
      refine Nat.le_trans (bd_add (bd_add (bd_mul hA.b2 (bd_mul (bd_mul (bd_mul (Nat.le_refl _) (Nat.le_refl _)) z4) z4)) (bd_mul (bd_mul (show (2 : Int).natAbs ≤ 2 by decide) hA.b4) (bd_mul (bd_mul (bd_mul (Nat.le_refl _) z4) z4) z4))) (bd_mul hA.b6 (bd_mul (bd_mul (bd_mul z4 z4) z4) z4))) ?_
      generalize x.natAbs = a at *
      have q1 : 10 ^ 24 * a ≤ a * a := Nat.mul_le_mul_right a ha
      have q2 : 10 ^ 24 * (a * a) ≤ a * a * a := by have := Nat.mul_le_mul_right (a * a) ha; rw [← Nat.mul_assoc a a a] at this; exact this
      rw [show a * a * 4 * 4 = 16 * (a * a) by grind, show a * 4 * 4 * 4 = 64 * a by grind]
      generalize a * a * a = s at *
      generalize a * a = t at *
      omega
    have c3 : 4 * (x.natAbs * x.natAbs * x.natAbs) ≤ 4 * (x.natAbs * x.natAbs * x.natAbs) * Z.natAbs := Nat.le_mul_of_pos_right _ z1
    generalize 4 * (x * x * x) * Z = u at *
    generalize eb2 A * (x * x * Z * Z) + 2 * eb4 A * (x * Z * Z * Z) + eb6 A * (Z * Z * Z * Z) = v at *
    generalize 4 * (x.natAbs * x.natAbs * x.natAbs) * Z.natAbs = w at *
    generalize x.natAbs * x.natAbs * x.natAbs = s at *
    omega
  rw [k1, Int.natAbs_mul] at bF
  rw [k2, Int.natAbs_mul] at bG
  have b3 : x'.natAbs ≤ 3 * x.natAbs := by
    have g1 : 3 * (x.natAbs * x.natAbs * x.natAbs) ≤ k.natAbs * 4 := Nat.le_trans bG (Nat.mul_le_mul_left _ z4')
    have g2 : 3 * (x.natAbs * x.natAbs * x.natAbs) * x'.natAbs ≤ 8 * (x.natAbs * x.natAbs * x.natAbs * x.natAbs) := by
      have := Nat.mul_le_mul_right x'.natAbs g1
      have e : k.natAbs * 4 * x'.natAbs = 4 * (k.natAbs * x'.natAbs) := by grind
      omega
    have g3 : (x.natAbs * x.natAbs * x.natAbs) * (3 * x'.natAbs) ≤ (x.natAbs * x.natAbs * x.natAbs) * (8 * x.natAbs) := by
      have e1 : 3 * (x.natAbs * x.natAbs * x.natAbs) * x'.natAbs = (x.natAbs * x.natAbs * x.natAbs) * (3 * x'.natAbs) := by grind
      have e2 : 8 * (x.natAbs * x.natAbs * x.natAbs * x.natAbs) = (x.natAbs * x.natAbs * x.natAbs) * (8 * x.natAbs) := by grind
      rw [← e1, ← e2]; exact g2
    have p : 0 < x.natAbs := by omega
    have := Nat.le_of_mul_le_mul_left g3 (Nat.mul_pos (Nat.mul_pos p p) p)
    omega
  have hmax : max x.natAbs Z.natAbs = x.natAbs := Nat.max_eq_left (by omega)
  rw [hmax] at hd
  have hm2 : max x'.natAbs Z'.natAbs ≤ 3 * x.natAbs := Nat.max_le.2 ⟨b3, by omega⟩
  generalize x.natAbs = a at *
  generalize max x'.natAbs Z'.natAbs = c at *
  have q1 : 10 ^ 24 * a ≤ a * a := Nat.mul_le_mul_right a ha
  have q2 : 10 ^ 24 * (a * a) ≤ a * a * a := by have := Nat.mul_le_mul_right (a * a) ha; rw [← Nat.mul_assoc a a a] at this; exact this
  have q3 : 10 ^ 24 * (a * a * a) ≤ a * a * a * a := by have := Nat.mul_le_mul_right (a * a * a) ha; rw [show a * (a * a * a) = a * a * a * a by grind] at this; exact this
  generalize a * a * a * a = r at *
  generalize a * a * a = s at *
  generalize a * a = t at *
  omega
/-- a multiple with a small bottom -/
def sm2 (A : ecE) (P : ecP) (i : Nat) : Prop := ∃ x y z : Int, ecOn A (some (x, y, z)) ∧ ecQ (some (x, y, z)) = qmul (toE A) (ecQ P) i ∧ z.natAbs ≤ 2
theorem sm2_24 {A : ecE} (hA : ecOk A) {P : ecP} (hP : ecOn A P) {i : Nat} (h1 : sm2 A P i) (h2 : sm2 A P (2 * i)) {R : ecP} (hR : ecOn A R) (hm : ecQ R = qmul (toE A) (ecQ P) i) : ¬ wdP 24 R := by
  obtain ⟨x, y, z, a1, a2, a3⟩ := h1
  obtain ⟨x', y', z', b1, b2, b3⟩ := h2
  have e : R = some (x, y, z) := ecQ_inj hR a1 (by rw [hm, a2])
  subst e
  obtain ⟨c1, c2⟩ := dbl_m hA hP hR hm
  exact small2 hA a1 (ecQ_inj c1 b1 (by rw [c2, b2])) a3 b3
theorem sm2_112 {A : ecE} (hA : ecOk A) {P : ecP} (hP : ecOn A P) {i : Nat} (h1 : sm2 A P i) (h2 : sm2 A P (2 * i)) {R : ecP} (hR : ecOn A R) (hm : ecQ R = qmul (toE A) (ecQ P) (2 * i)) : ¬ wdP 112 R := by
  have h1' := h1
  obtain ⟨x, y, z, a1, a2, a3⟩ := h1'
  have w := sm2_24 hA hP h1 h2 a1 a2
  obtain ⟨c1, c2⟩ := dbl_m hA hP a1 a2
  have e : R = jnA A (some (x, y, z)) (some (x, y, z)) := ecQ_inj hR c1 (by rw [hm, c2])
  rw [e]
  exact wd_sum hA a1 a1 (by decide) (by decide) (by decide) w w
theorem okO_of {A : ecE} (hA : ecOk A) {P : ecP} (hP : slP A P) : ∀ (k n : Nat) (R : ecP), 1 ≤ n → ecOn A R → ecQ R = qmul (toE A) (ecQ P) n → (∀ i, 1 ≤ i → i < n → sm2 A P i) → okO A P k R
  | 0, _, _, _, _, _, _ => trivial
  | k + 1, n, R, hn, hR, hm, hs => by
    intro x y z e
    subst e
    refine ⟨by have := hR.1; omega, fun hz => ?_⟩
    have hs' : ∀ i, 1 ≤ i → i < n + 1 → sm2 A P i := fun i i1 i2 => by
      rcases Nat.lt_or_ge i n with h | h
      · exact hs i i1 h
      · have : i = n := by omega
        subst this
        exact ⟨x, y, z, hR, hm, by omega⟩
    obtain ⟨c1, c2⟩ := add_m hP.on hR hm
    refine ⟨?_, (jn_q hR hP.on).2.2, okO_of hA hP k (n + 1) _ (by omega) c1 c2 hs'⟩
    refine wd_capJ hA hR ?_
    rcases Nat.lt_or_ge n 2 with h | h
    · have n1 : n = 1 := by omega
      subst n1
      rw [qmul_one] at hm
      rw [ecQ_inj hR hP.on hm]
      exact wd_up (by decide) hP.wd
    · rcases Nat.mod_two_eq_zero_or_one n with h2 | h2
      · obtain ⟨j, rfl⟩ : ∃ j, n = 2 * j := ⟨n / 2, by omega⟩
        exact wd_up (by decide) (sm2_112 hA hP.on (hs' j (by omega) (by omega)) (hs' (2 * j) (by omega) (by omega)) hR hm)
      · obtain ⟨j, rfl⟩ : ∃ j, n = 2 * j + 1 := ⟨n / 2, by omega⟩
        have hj := hs' (2 * j) (by omega) (by omega)
        have hj' := hj
        obtain ⟨x2, y2, z2, a1, a2, a3⟩ := hj'
        have w1 := sm2_112 hA hP.on (hs' j (by omega) (by omega)) hj a1 a2
        have w2 : ¬ wdP 24 P := sm2_24 hA hP.on (hs' 1 (by omega) (by omega)) (hs' (2 * 1) (by omega) (by omega)) hP.on (qmul_one _ _).symm
        obtain ⟨d1, d2⟩ := add_m hP.on a1 a2
        have e : some (x, y, z) = jnA A (some (x2, y2, z2)) P := ecQ_inj hR d1 (by rw [hm, d2])
        rw [e]
        exact wd_sum hA a1 hP.on (by decide) (by decide) (by decide) w1 w2
theorem order_ok {A : ecE} (hA : ecOk A) {P : ecP} (hP : slP A P) : okO A P 12 P :=
  okO_of hA hP 12 1 P (by decide) hP.on (qmul_one _ _).symm (fun i h1 h2 => by omega)
