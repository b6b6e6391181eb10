section L4
variable {p : Program} {l : Launch} {e : Env} {s : State} {m : MethodId} {below : List Frame} {meth : Method} {c : Code} {G : zG} {h hh : zH} {a b L kc ks : Nat} {xs : Nat → Int32} {lv : List (Nat × Value)}
/-- the law's end -/
theorem z_end (K : zC p s m #[Value.ref b] c code R_law 4 s.heap.size G) (hr : meth.sig.returnType = ret) (hlk : meth.locks = false) (h1 : kc ≤ 600000) (h2 : ks ≤ 7302250) : zW p l e room_1 s m #[Value.ref b] below meth c 4 s.heap.size G kc ks (lw_Z below #[Value.ref b] s) hh 696 lv [] := by
  refine z_iconst (v := 1) K d_L_696 rfl ?_
  intro H locs ls q0 q1 q2 q3 q4
  refine va_forget (fun q hq => q3.2.2 q hq) ?_
  refine W.widen h1 h2 ?_
  exact lw_ret K.1 K.2.1 hr hlk d_L_697
set_option maxHeartbeats 4000000 in
set_option maxRecDepth 100000 in
theorem law_loop (KK : lwK p s m #[Value.ref b] c s.heap.size G b L xs) (hr : meth.sig.returnType = ret) (hlk : meth.locks = false) : ∀ (n : Nat) (i : Int) (S : xS) (T : mT), 0 ≤ i → i ≤ L → (L : Int) < i + 10 * (n : Int) → LI S T → zW p l e room_1 s m #[Value.ref b] below meth c 4 s.heap.size G 202 30139 (lw_Z below #[Value.ref b] s) (hx G (hm G h (a + 197) 0 T) a S) 18 [(3, .int (jI i)), (2, .ref (a + 197)), (1, .ref a), (0, .ref b)] [] := by
  have K := KK.1
  have hL := KK.2.2.2
  intro n
  induction n with
  | zero =>
    intro i S T h0 h1 h2
    exact absurd h2 (by omega)
  | succ n ih =>
    intro i S T h0 h1 h2 hI
    have hR : 10 ≤ room_1.frames ∧ 450 ≤ room_1.locals ∧ 202 ≤ room_1.cells ∧ 30139 ≤ room_1.slots := by decide
    refine z_iload_n K d_L_18 rfl ?_
    refine z_aload_n K d_L_19 rfl ?_
    refine z_sln KK d_L_20 ?_
    refine z_bipush (v := jI 10) K d_L_21 rfl ?_
    refine zi_isub K d_L_23 ?_
    refine zi_icmp_gt (tgt := 696) K d_L_24 (by decide) (by omega) (by omega) (fun hc => ?_) (fun hc => ?_)
    · exact z_end K hr hlk (by decide) (by decide)
    have cont : ∀ (S' : xS) (T' : mT), LI S' T' → zW p l e room_1 s m #[Value.ref b] below meth c 4 s.heap.size G 202 30139 (lw_Z below #[Value.ref b] s) (hx G (hm G h (a + 197) 0 T') a S') 690 [(3, .int (jI i)), (2, .ref (a + 197)), (1, .ref a), (0, .ref b)] [] := fun S' T' hI' => by
      refine zi_iinc K d_L_690 rfl (by decide) ?_
      refine z_goto (tgt := 18) K d_L_693 (by decide) ?_
      refine z_re [3, 2, 1, 0] rfl ?_
      exact ih (i + 10) S' T' (by omega) (by omega) (by omega) hI'
    refine z_aload_n K d_L_27 rfl ?_
    refine z_iload_n K d_L_28 rfl ?_
    refine z_sld KK h0 (by omega) d_L_29 ?_
    refine z_bipush (v := jI 15) K d_L_30 rfl ?_
    refine z_iand K d_L_32 ?_
    obtain ⟨x, hx32, ex⟩ := jI_of (jI (scI xs i) &&& jI 15)
    rw [ex]
    by_cases out : x < 0 ∨ 11 < x
    · refine z_tabOut (tgt := 690) K d_L_33 hx32 out (by decide) ?_
      exact cont S T hI
    have cs : x = 0 ∨ x = 1 ∨ x = 2 ∨ x = 3 ∨ x = 4 ∨ x = 5 ∨ x = 6 ∨ x = 7 ∨ x = 8 ∨ x = 9 ∨ x = 10 ∨ x = 11 := by omega
    rcases cs with rfl | rfl | rfl | rfl | rfl | rfl | rfl | rfl | rfl | rfl | rfl | rfl
    · exact z_tabIn (tgt := 96) K d_L_33 hx32 (by decide) (by decide) rfl (by decide) (lc_curve KK hR h0 (by omega) hI cont)
    · exact z_tabIn (tgt := 159) K d_L_33 hx32 (by decide) (by decide) rfl (by decide) (lc_none KK hR h0 (by omega) hI cont)
    · exact z_tabIn (tgt := 182) K d_L_33 hx32 (by decide) (by decide) rfl (by decide) (lc_point KK hR h0 (by omega) hI cont)
    · exact z_tabIn (tgt := 373) K d_L_33 hx32 (by decide) (by decide) rfl (by decide) (lc_sum KK hR h0 (by omega) hI cont)
    · exact z_tabIn (tgt := 416) K d_L_33 hx32 (by decide) (by decide) rfl (by decide) (lc_less KK hR h0 (by omega) hI cont)
    · exact z_tabIn (tgt := 459) K d_L_33 hx32 (by decide) (by decide) rfl (by decide) (lc_times KK hR h0 (by omega) hI cont)
    · exact z_tabIn (tgt := 502) K d_L_33 hx32 (by decide) (by decide) rfl (by decide) (lc_order KK hR h0 (by omega) hI cont)
    · exact z_tabIn (tgt := 525) K d_L_33 hx32 (by decide) (by decide) rfl (by decide) (lc_isNone KK hR h0 (by omega) hI cont)
    · exact z_tabIn (tgt := 548) K d_L_33 hx32 (by decide) (by decide) rfl (by decide) (lc_same KK hR h0 (by omega) hI cont)
    · exact z_tabIn (tgt := 581) K d_L_33 hx32 (by decide) (by decide) rfl (by decide) (lc_digits KK hR h0 (by omega) hI cont)
    · exact z_tabIn (tgt := 614) K d_L_33 hx32 (by decide) (by decide) rfl (by decide) (lc_digitAt KK hR h0 (by omega) hI cont)
    · exact z_tabIn (tgt := 657) K d_L_33 hx32 (by decide) (by decide) rfl (by decide) (lc_sign KK hR h0 (by omega) hI cont)
theorem hst {G : zG} {g : Nat → va_E} {a : Nat} {S : xS} {T : mT} {own : va_E} : hm G (a + 197 + 5, va_up (hx G (a + 197, g) a S).2 (a + 197) own) (a + 197) 0 T = hx G (hm G (a + 202, g) (a + 197) 0 T) a S := by
  rw [hxm (Nat.le_refl _)]
  refine Prod.ext rfl (funext fun q => ?_)
  unfold hm
  dsimp only
  by_cases e0 : q = a + 197
  · rw [if_pos e0, if_pos e0]
  · rw [if_neg e0, if_neg e0, va_up_ne _ _ e0]
    rfl
end L4
