
set_option maxHeartbeats 4000000 in
set_option maxRecDepth 100000 in
theorem whole_T {s : State} {b : Nat} (hts : ∀ w ∈ lw_tbl, w.before #[Value.ref b] s = true) (hgv : (Jvm.Cond.and given_1 narrow_1).before #[Value.ref b] s = true) : zT (z_A s.heap.size) s s.heap := by
  have hs := flat_of_before _ hgv
  have hA : ∀ a : Nat, a < s.heap.size → ¬ z_A s.heap.size a := fun a ha => Nat.not_le.mpr ha
  have harr := hs (Cond.arrayOf (.static "ChordPoints" "POWERS" "[I") .int) (by decide +kernel)
  have hlen := va_eqt (hs (Cond.eq (.length (.static "ChordPoints" "POWERS" "[I")) (.int 10)) (by decide +kernel))
  have hel : ∀ j : Nat, j < 10 → (Term.elem (.static "ChordPoints" "POWERS" "[I") (.int (Int32.ofNat j))).eval #[Value.ref b] s none [] s = some (.int (nI (powN j))) := by
    intro j hj
    have cs : j = 0 ∨ j = 1 ∨ j = 2 ∨ j = 3 ∨ j = 4 ∨ j = 5 ∨ j = 6 ∨ j = 7 ∨ j = 8 ∨ j = 9 := by omega
    rcases cs with rfl | rfl | rfl | rfl | rfl | rfl | rfl | rfl | rfl | rfl
    · exact va_eqt (hs (Cond.eq (.elem (.static "ChordPoints" "POWERS" "[I") (.int 0)) (.int 1)) (by decide +kernel))
    · exact va_eqt (hs (Cond.eq (.elem (.static "ChordPoints" "POWERS" "[I") (.int 1)) (.int 10)) (by decide +kernel))
    · exact va_eqt (hs (Cond.eq (.elem (.static "ChordPoints" "POWERS" "[I") (.int 2)) (.int 100)) (by decide +kernel))
    · exact va_eqt (hs (Cond.eq (.elem (.static "ChordPoints" "POWERS" "[I") (.int 3)) (.int 1000)) (by decide +kernel))
    · exact va_eqt (hs (Cond.eq (.elem (.static "ChordPoints" "POWERS" "[I") (.int 4)) (.int 10000)) (by decide +kernel))
    · exact va_eqt (hs (Cond.eq (.elem (.static "ChordPoints" "POWERS" "[I") (.int 5)) (.int 100000)) (by decide +kernel))
    · exact va_eqt (hs (Cond.eq (.elem (.static "ChordPoints" "POWERS" "[I") (.int 6)) (.int 1000000)) (by decide +kernel))
    · exact va_eqt (hs (Cond.eq (.elem (.static "ChordPoints" "POWERS" "[I") (.int 7)) (.int 10000000)) (by decide +kernel))
    · exact va_eqt (hs (Cond.eq (.elem (.static "ChordPoints" "POWERS" "[I") (.int 8)) (.int 100000000)) (by decide +kernel))
    · exact va_eqt (hs (Cond.eq (.elem (.static "ChordPoints" "POWERS" "[I") (.int 9)) (.int 1000000000)) (by decide +kernel))
  obtain ⟨t, h1, h2⟩ := va_Tof (tm := .static "ChordPoints" "POWERS" "[I") (by decide) harr hlen hel hA
  exact ⟨⟨t, va_Zref (hts (.laysStatic "ChordPoints" "POWERS" "[I") (by decide +kernel)) (hts (.initialized "ChordPoints") (by decide +kernel)) h1 hA, h2⟩, hts (.arrayOver (.object "ChordPoints$Point")) (by decide +kernel)⟩
