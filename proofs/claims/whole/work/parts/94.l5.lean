theorem whole_K {s : State} {args : Array Value} (hts : ∀ w ∈ lw_tbl, w.before args s = true) (hao : (Cond.arrayOver (.object "ChordPoints$Point")).before args s = true) : ∃ G : zG, va_K G.1 vwCl (zTys G) s := by
  have ht : ∀ w ∈ zTb, w.before args s = true := fun w hw => hts w (zTb_tbl hw)
  have kn : ∀ {own : String} {index ci N : Nat} {fs : List Value}, zNw own index ci N fs → ∃ q : vw_C, vwCl[ci]? = some q ∧ ∃ (cC : ClassId) (iS : Nat → Nat), u_Kn s q.1 q.2.1 q.2.2 cC iS := by
    intro own index ci N fs h
    obtain ⟨C, T, ty, hC, w1, w2, w3, -⟩ := h
    exact ⟨_, hC.1, u_known ht hC.2.2.1 (ht _ w2)⟩
  have all : ∀ k : Nat, ∃ x : ClassId × (Nat → Nat), ∀ q : vw_C, vwCl[k]? = some q → u_Kn s q.1 q.2.1 q.2.2 x.1 x.2 := by
    intro k
    by_cases hk : k < 9
    · have w : ∃ q : vw_C, vwCl[k]? = some q ∧ ∃ (cC : ClassId) (iS : Nat → Nat), u_Kn s q.1 q.2.1 q.2.2 cC iS := by
        have cs : k = 0 ∨ k = 1 ∨ k = 2 ∨ k = 3 ∨ k = 4 ∨ k = 5 ∨ k = 6 ∨ k = 7 ∨ k = 8 := by omega
        rcases cs with rfl | rfl | rfl | rfl | rfl | rfl | rfl | rfl | rfl
        · exact kn nw_L_10
        · exact kn nw_P_9
        · exact kn nw_X_44
        · exact kn nw_X_15
        · exact kn nw_X_7
        · exact kn nw_X_10
        · exact kn nw_X_37
        · exact kn nw_X_28
        · exact kn nw_L_7
      obtain ⟨q, hq, cC, iS, hu⟩ := w
      exact ⟨(cC, iS), fun q' hq' => by cases hq.symm.trans hq'; exact hu⟩
    · obtain ⟨q, _, cC, iS, _⟩ := kn nw_L_10
      exact ⟨(cC, iS), fun q' hq' => absurd (List.getElem?_eq_some_iff.mp hq').1 hk⟩
  obtain ⟨ci, ki, coi, i1, i2, i3⟩ := Cond.arrayClass_spec (ht _ ac_int)
  obtain ⟨cz, kz, coz, z1, z2, z3⟩ := Cond.arrayClass_spec (ht _ ac_bool)
  obtain ⟨comp, cq, kq, q1, q2, q3, q4, q5⟩ := Cond.arrayOver_spec hao
  refine ⟨((fun k => (Classical.choose (all k)).1, fun k => (Classical.choose (all k)).2), fun k => if k = 0 then ci else if k = 1 then cz else cq), fun k q hq => Classical.choose_spec (all k) q hq, fun k q hq => ?_⟩
  match k, hq with
  | 0, hq => cases hq; exact ⟨fun n z => ⟨fun k h => (by cases h), ki, i2, coi, i3⟩, i1⟩
  | 1, hq => cases hq; exact ⟨fun n z => ⟨fun k h => (by cases h), kz, z2, coz, z3⟩, z1⟩
  | 2, hq => cases hq; exact ⟨fun n z => ⟨fun k h => (by cases h), kq, q3, comp, q4⟩, kq, comp, q3, q4, q1, q5⟩
  | k + 3, hq => simp at hq
theorem bld_0 {G : zG} {a : Nat} {S : xS} {g : Nat → va_E} {own : va_E} : bld G a S g 0 1 own (a + 1, va_up g a own) :=
  ⟨rfl, va_up_self _ _ _, fun j j1 j2 => absurd j1 (by omega), fun x hx => va_up_ne _ _ (by omega)⟩
