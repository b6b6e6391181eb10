def z0 : Nat → Int := fun _ => 0
def vE : Nat → Int := vQ (nu z0 10 2)
theorem nu_all {f : Nat → Int} {P : Int → Prop} {k : Nat} {w : Int} (hf : ∀ j, P (f j)) (hw : P w) : ∀ j, P (nu f k w j) := fun j => by
  by_cases e : j = k
  · subst e; rw [nu_self]; exact hw
  · rw [nu_ne _ _ e]; exact hf j
theorem vQ_bd {v : Nat → Int} (hv : ∀ j, 0 ≤ v j ∧ v j < 1000000000) : ∀ j, 0 ≤ vQ v j ∧ vQ v j < 1000000000 :=
  nu_all (P := fun x => 0 ≤ x ∧ x < 1000000000) (nu_all (P := fun x => 0 ≤ x ∧ x < 1000000000) (nu_all (P := fun x => 0 ≤ x ∧ x < 1000000000) (nu_all (P := fun x => 0 ≤ x ∧ x < 1000000000) (nu_all (P := fun x => 0 ≤ x ∧ x < 1000000000) (nu_all (P := fun x => 0 ≤ x ∧ x < 1000000000) (nu_all (P := fun x => 0 ≤ x ∧ x < 1000000000) (nu_all (P := fun x => 0 ≤ x ∧ x < 1000000000) (nu_all (P := fun x => 0 ≤ x ∧ x < 1000000000) (nu_all (P := fun x => 0 ≤ x ∧ x < 1000000000) hv (by decide)) (by decide)) (by decide)) (by decide)) (by decide)) (by decide)) (by decide)) (by decide)) (by decide)) (by decide)
theorem vE_bd : ∀ j, 0 ≤ vE j ∧ vE j < 1000000000 := vQ_bd (nu_all (P := fun x => 0 ≤ x ∧ x < 1000000000) (fun _ => (show (0 : Int) ≤ 0 ∧ (0 : Int) < 1000000000 by decide)) (by decide))
theorem vQ_hi {v : Nat → Int} {j : Nat} (hj : 37 < j) : vQ v j = v j := by
  unfold vQ
  rw [nu_ne _ _ (by omega), nu_ne _ _ (by omega), nu_ne _ _ (by omega), nu_ne _ _ (by omega), nu_ne _ _ (by omega), nu_ne _ _ (by omega), nu_ne _ _ (by omega), nu_ne _ _ (by omega), nu_ne _ _ (by omega), nu_ne _ _ (by omega)]
theorem vE_hi {j : Nat} (hj : 37 < j) : vE j = 0 := by
  unfold vE
  rw [vQ_hi hj, nu_ne _ _ (by omega)]
  rfl
/-- the first state of the class -/
theorem XS_0 : XS (Sv vE) vE (0, 0, 0, 0, 1) (fun _ => none) :=
  ⟨Sv_nr vE_bd, ⟨Or.inl rfl, Or.inr (Or.inl rfl), Or.inr (Or.inr rfl), by decide, by decide, by decide⟩, rfl, ⟨rfl, rfl, rfl, rfl, rfl, rfl, rfl, rfl, rfl, rfl⟩, ⟨by decide, by decide, by decide, by decide, by decide, by decide⟩, fun i _ _ => ⟨rfl, trivial, fun q => q⟩⟩
theorem isP_sl {i : Nat} (hi : i < 8) : isP (109 + 11 * i) = true := by
  have key : ∀ k : Nat, k < 8 → isP (109 + 11 * k) = true := by decide
  exact key i hi
abbrev arI (G : zG) (a i : Nat) : va_E := .inl (G.2 2, 8, .inr (.inr (.inr (.inr (fun j : Nat => if j < i then some (a + (109 + 11 * j)) else none)))))
theorem arI_up {a i : Nat} : va_up (fun j : Nat => if j < i then some (a + (109 + 11 * j)) else none) i (some (a + (109 + 11 * i))) = fun j : Nat => if j < i + 1 then some (a + (109 + 11 * j)) else none := by
  funext j
  by_cases e : j = i
  · subst e; rw [va_up_self, if_pos (by omega)]
  · rw [va_up_ne _ _ e]
    by_cases e2 : j < i
    · rw [if_pos e2, if_pos (by omega)]
    · rw [if_neg e2, if_neg (by omega)]
/-- the table of the slots is made -/
theorem bld.tab {G : zG} {a : Nat} {S : xS} {g : Nat → va_E} {own v own2 : va_E} {h : zH} (hb : bld G a S g 0 108 own h) : bld G a S (va_up h.2 a own2) 108 109 v (h.1 + 1, va_up (va_up h.2 h.1 v) a own2) := by
  have hb1 := hb.1
  refine ⟨by show h.1 + 1 = _; omega, ?_, fun j j1 j2 => absurd j1 (by omega), fun x hx => ?_⟩
  · show va_up (va_up h.2 h.1 v) a own2 (a + 108) = v
    rw [va_up_ne _ _ (by omega), ← hb1]; exact va_up_self _ _ _
  · show va_up (va_up h.2 h.1 v) a own2 x = va_up h.2 a own2 x
    by_cases e : x = a
    · subst e; rw [va_up_self, va_up_self]
    · rw [va_up_ne _ _ e, va_up_ne _ _ e]; exact va_up_ne _ _ (by omega)
/-- all is made -/
theorem bld.fin {G : zG} {a : Nat} {S : xS} {g : Nat → va_E} {own : va_E} {h h2 : zH} (hb : bld G a S g 0 108 own h) (hc : bld G a S (va_up h.2 a (.inr (8, oX a))) 108 197 (xCell G a S 108) h2) : h2 = hx G (a + 197, g) a S := by
  obtain ⟨b1, b2, b3, b4⟩ := hb
  obtain ⟨c1, c2, c3, c4⟩ := hc
  refine Prod.ext c1 (funext fun q => ?_)
  show h2.2 q = if a ≤ q ∧ q < a + 197 then xCell G a S (q - a) else g q
  by_cases e : a ≤ q ∧ q < a + 197
  · rw [if_pos e]
    obtain ⟨j, rfl⟩ : ∃ j, q = a + j := ⟨q - a, by omega⟩
    rw [show a + j - a = j by omega]
    by_cases e0 : j = 0
    · subst e0
      exact (c4 _ (by omega)).trans (va_up_self _ _ _)
    · by_cases e1 : j < 108
      · exact (c4 _ (by omega)).trans ((va_up_ne _ _ (by omega)).trans (b3 j (by omega) e1))
      · by_cases e2 : j = 108
        · subst e2; exact c2
        · exact c3 j (by omega) (by omega)
  · rw [if_neg e]
    exact (c4 _ (by omega)).trans ((va_up_ne _ _ (by omega)).trans (b4 _ (by omega)))
section I5
variable {p : Program} {l : Launch} {e : Env} {R : Room} {s : State} {m : MethodId} {args : Array Value} {below : List Frame} {meth : Method} {c : Code} {Q : State → Prop} {b0 kc ks : Nat} {G : zG} {h : zH} {a : Nat} {cd : Int}
theorem zb_put {cc : ByteArray} {own : String} {nL pc : Nat} {lv : List (Nat × Value)} {st : List Value} {hh : zH} (K : zC p s m args c cc own nL b0 G) (hnm : meth.name = "<init>") {S : xS} {g : Nat → va_E} {o k0 ci fi iP : Nat} {fs own2 : List Value} {v : Value} {ty : FieldType} (hff : zFf own iP ci fi ty) (hb : bld G a S g o k0 (.inr (ci, fs)) hh) (ho : o < k0) (hfi : fi < fs.length) (hn : narrow ty v = v) (hfit : fits ty v = true) (he : fs.set fi v = own2) (hd : decode cc pc = .ok (.putfield iP, 3)) (kk : ∀ h1 : zH, bld G a S g o k0 (.inr (ci, own2)) h1 → zW p l e R s m args below meth c nL b0 G kc ks Q h1 (pc + 3) lv st) : zW p l e R s m args below meth c nL b0 G kc ks Q hh pc lv (v :: .ref (a + o) :: st) := by
  subst he
  exact z_putF K hnm hff hb.2.1 hfi hn hfit hd (kk _ (hb.put ho _))
set_option maxHeartbeats 4000000 in
set_option maxRecDepth 100000 in
theorem lp_X_init (K : zC p s m args c b_X_init R_X 4 b0 G) {g : Nat → va_E} (hR : 3 ≤ R.frames ∧ 62 ≤ R.locals ∧ 196 ≤ R.cells ∧ 4199 ≤ R.slots) (h0 : g a = .inr (8, oX a)) (kk : ∀ hh : zH, bld G a (Sv vE) g 108 197 (arI G a 8) hh → zW p l e R s m args below meth c 4 b0 G 196 4199 Q hh 147 [] []) : ∀ (n i : Nat) (hh : zH), i + n = 8 → bld G a (Sv vE) g 108 (109 + 11 * i) (arI G a i) hh → zW p l e R s m args below meth c 4 b0 G (108 + 11 * i) (2831 + 171 * i) Q hh 122 [(0, .ref a), (3, .int (jI i))] [] := by
  intro n
  induction n with
  | zero =>
    intro i hh hi hb
    have : i = 8 := by omega
    subst this
    refine z_iload_n K d_X_init_122 rfl ?_
    refine z_bipush (v := jI 8) K d_X_init_123 rfl ?_
    refine zi_icmp_ge (tgt := 147) K d_X_init_125 (by decide) (by decide) (by decide) (fun hc => ?_) (fun hc => absurd hc (by decide))
    refine z_wid (k' := 196) (n' := 4199) (by omega) (by omega) ?_
    refine z_re [] rfl ?_
    exact kk hh hb
  | succ n ih =>
    intro i hh hi hb
    have i8 : i < 8 := by omega
    have hb1 := hb.1
    have cc0 : hh.2 a = .inr (8, oX a) := (hb.2.2.2 a (by omega)).trans h0
    refine z_iload_n K d_X_init_122 rfl ?_
    refine z_bipush (v := jI 8) K d_X_init_123 rfl ?_
    refine zi_icmp_ge (tgt := 147) K d_X_init_125 (by decide) (by omega) (by decide) (fun hc => absurd hc (by omega)) (fun hc => ?_)
    refine z_aload_n K d_X_init_128 rfl ?_
    refine z_get K fd_X_57 cc0 rfl d_X_init_129 ?_
    refine z_iload_n K d_X_init_132 rfl ?_
    refine z_new K nw_X_44 (by omega) (by omega) d_X_init_133 ?_
    refine z_dup K d_X_init_136 rfl ?_
    have hb2 := hb.new (.inr (2, [.null, .null, .null, .null, .null, .int 0]))
    rw [hb1] at hb2 ⊢
    refine z_callI (As := []) K (g_P_init l G b0 _ a (v := vE) (o := 109 + 11 * i) (isP_sl i8) (fun j hj => vE_hi (by omega)) hb2) ca_X_46 im_P_init rfl rfl rfl (by omega) (Nat.le_of_ble_eq_true rfl) d_X_init_137 (fun r h1 hp => ?_)
    obtain ⟨rfl, hp⟩ := hp
    have hb3 := hb.join (by omega) (by omega) hp
    have cP : h1.2 (a + (109 + 11 * i)) = .inr (2, oP a (109 + 11 * i) (Sv vE)) := hp.2.1.trans (xC_P (isP_sl i8))
    refine z_aast K hb3.2.1 cP (jI_in (by omega) (by omega) (by decide)) d_X_init_140 ?_
    rw [jI_clamp (by omega) (by omega), Int.toNat_natCast, arI_up]
    have hb4 := hb3.put (by omega) (arI G a (i + 1))
    refine zi_iinc K d_X_init_141 rfl (by decide) ?_
    refine z_goto (tgt := 122) K d_X_init_144 (by decide) ?_
    refine z_wid (k' := 108 + 11 * (i + 1)) (n' := 2831 + 171 * (i + 1)) (by omega) (by omega) ?_
    refine z_re [0, 3] (lv' := [(0, .ref a), (3, .int (jI ((i + 1 : Nat) : Int)))]) rfl ?_
    exact ih (i + 1) _ (by omega) hb4
set_option maxHeartbeats 4000000 in
set_option maxRecDepth 100000 in
theorem g_X_init (l : Launch) (G : zG) (b0 : Nat) (h : zH) (a : Nat) {g : Nat → va_E} (hb : bld G a (Sv z0) g 0 1 (.inr (8, [.null, .null, .null, .null, .null, .null, .null])) h) : zMet l G b0 y_X_init b_X_init 4 none 3 65 196 4199 [.ref a] h (fun r h' => r = none ∧ h' = hx G (a + 197, g) a (Sv vE)) :=
  z_met (by decide) (Nat.le_of_ble_eq_true rfl) fun p e s m below meth c K hr hlk hnm => by
  refine z_aload_n K d_X_init_0 rfl ?_
  refine z_obj K oi_X oi_im oi_cd d_X_init_1 (by decide) ?_
  refine z_new K nw_X_7 (by decide) (by decide) d_X_init_4 ?_
  refine z_dup K d_X_init_7 rfl ?_
  have e1 := hb.1
  have n1 := hb.new (.inr (4, [.null, .null, .null, .null, .int 0]))
  rw [e1] at n1 ⊢
  refine z_callI (As := []) K (g_R_init l G b0 _ a (v := z0) (fun _ _ _ => rfl) n1) ca_X_9 im_R_init rfl rfl rfl (by decide) (Nat.le_of_ble_eq_true rfl) d_X_init_8 (fun r hh1 hp => ?_)
  obtain ⟨rfl, p1⟩ := hp
  have b7 := hb.join (by decide) (by decide) p1
  refine z_astore_n K d_X_init_11 (by decide) ?_
  refine z_new K nw_X_10 (by decide) (by decide) d_X_init_12 ?_
  refine z_dup K d_X_init_15 rfl ?_
  have e7 := b7.1
  have n7 := b7.new (.inr (5, [.null, .null, .null, .null, .null, .null, .long 0, .long 0, .long 0, .long 0]))
  rw [e7] at n7 ⊢
  refine z_aload_n K d_X_init_16 rfl ?_
  refine z_callI (As := [.ref (a + 1)]) K (g_D_init l G b0 _ a (v := z0) (fun _ _ _ => rfl) n7) ca_X_12 im_D_init rfl rfl rfl (by decide) (Nat.le_of_ble_eq_true rfl) d_X_init_17 (fun r hh7 hp => ?_)
  obtain ⟨rfl, p7⟩ := hp
  have b18 := (b7.nu (q := 10) (w := 2) (by decide)).join (by decide) (by decide) p7
  refine z_astore_n K d_X_init_20 (by decide) ?_
  refine z_aload_n K d_X_init_21 rfl ?_
  refine z_new K nw_X_15 (by decide) (by decide) d_X_init_22 ?_
  refine z_dup K d_X_init_25 rfl ?_
  have e18 := b18.1
  have n18 := b18.new (.inr (3, [.null, .null, .null, .null, .null, .null, .null, .null, .null, .null]))
  rw [e18] at n18 ⊢
  refine z_callI (As := []) K (g_Q_init l G b0 _ a (v := (nu z0 10 2)) (fun j j1 j2 => nu_ne _ _ (by omega)) n18) ca_X_17 im_Q_init rfl rfl rfl (by decide) (Nat.le_of_ble_eq_true rfl) d_X_init_26 (fun r hh18 hp => ?_)
  obtain ⟨rfl, p18⟩ := hp
  have b39 := b18.join (by decide) (by decide) p18
  refine zb_put (a := a) (o := 0) (own2 := [.null, .ref (a + 18), .null, .null, .null, .null, .null]) K hnm ff_X_18 b39 (by decide) (Nat.le_of_ble_eq_true rfl) rfl rfl rfl d_X_init_29 (fun hc1 c1 => ?_)
  refine z_aload_n K d_X_init_32 rfl ?_
  refine z_get K fd_X_18 c1.2.1 rfl d_X_init_33 ?_
  refine z_lconst (v := kI 0) K d_X_init_36 rfl ?_
  refine z_lconst (v := kI 0) K d_X_init_37 rfl ?_
  refine z_lconst (v := kI 0) K d_X_init_38 rfl ?_
  refine z_lconst (v := kI 0) K d_X_init_39 rfl ?_
  refine z_lconst (v := kI 1) K d_X_init_40 rfl ?_
  refine z_callV (ci := 3) (As := [.long (kI 0), .long (kI 0), .long (kI 0), .long (kI 0), .long (kI 1)]) K (g_Q_become l G b0 _ a (v := (nu z0 10 2)) (fun j j1 j2 => nu_ne _ _ (by omega)) c1) ca_X_24 im_Q_become se_Q_become rfl (by decide) ((c1.2.2.1 18 (by decide) (by decide)).trans xC_Q) rfl rfl (by decide) (Nat.le_of_ble_eq_true rfl) d_X_init_41 (fun r hq hp => ?_)
  obtain ⟨rfl, bq⟩ := hp
  have bq : bld G a (Sv vE) g 0 39 (.inr (8, [.null, .ref (a + 18), .null, .null, .null, .null, .null])) hq := bq
  refine z_aload_n K d_X_init_44 rfl ?_
  refine z_new K nw_X_28 (by decide) (by decide) d_X_init_45 ?_
  refine z_dup K d_X_init_48 rfl ?_
  have e39 := bq.1
  have n39 := bq.new (.inr (7, [.null, .null, .null, .null, .null, .null, .null, .null, .null, .null, .null, .null, .null]))
  rw [e39] at n39 ⊢
  refine z_aload_n K d_X_init_49 rfl ?_
  refine z_get K fd_X_18 ((va_up_ne _ _ (by omega)).trans bq.2.1) rfl d_X_init_50 ?_
  refine z_aload_n K d_X_init_53 rfl ?_
  refine z_aload_n K d_X_init_54 rfl ?_
  refine z_callI (As := [.ref (a + 18), .ref (a + 1), .ref (a + 7)]) K (g_C_init l G b0 _ a (v := vE) (fun j j1 j2 => vE_hi (by omega)) n39) ca_X_30 im_C_init rfl rfl rfl (by decide) (Nat.le_of_ble_eq_true rfl) d_X_init_55 (fun r hh39 hp => ?_)
  obtain ⟨rfl, p39⟩ := hp
  have b60 := bq.join (by decide) (by decide) p39
  refine zb_put (a := a) (o := 0) (own2 := [.null, .ref (a + 18), .ref (a + 39), .null, .null, .null, .null]) K hnm ff_X_33 b60 (by decide) (Nat.le_of_ble_eq_true rfl) rfl rfl rfl d_X_init_58 (fun hc2 c2 => ?_)
  refine z_aload_n K d_X_init_61 rfl ?_
  refine z_new K nw_X_37 (by decide) (by decide) d_X_init_62 ?_
  refine z_dup K d_X_init_65 rfl ?_
  have e60 := c2.1
  have n60 := c2.new (.inr (6, [.null, .null, .null, .null, .null, .null, .null, .null, .null, .null]))
  rw [e60] at n60 ⊢
  refine z_aload_n K d_X_init_66 rfl ?_
  refine z_get K fd_X_18 ((va_up_ne _ _ (by omega)).trans c2.2.1) rfl d_X_init_67 ?_
  refine z_aload_n K d_X_init_70 rfl ?_
  refine z_aload_n K d_X_init_71 rfl ?_
  refine z_callI (As := [.ref (a + 18), .ref (a + 1), .ref (a + 7)]) K (g_E_init l G b0 _ a (v := vE) (fun j j1 j2 => vE_hi (by omega)) n60) ca_X_39 im_E_init rfl rfl rfl (by decide) (Nat.le_of_ble_eq_true rfl) d_X_init_72 (fun r hh60 hp => ?_)
  obtain ⟨rfl, p60⟩ := hp
  have b75 := c2.join (by decide) (by decide) p60
  refine zb_put (a := a) (o := 0) (own2 := [.null, .ref (a + 18), .ref (a + 39), .ref (a + 60), .null, .null, .null]) K hnm ff_X_40 b75 (by decide) (Nat.le_of_ble_eq_true rfl) rfl rfl rfl d_X_init_75 (fun hc3 c3 => ?_)
  refine z_aload_n K d_X_init_78 rfl ?_
  refine z_new K nw_X_44 (by decide) (by decide) d_X_init_79 ?_
  refine z_dup K d_X_init_82 rfl ?_
  have e75 := c3.1
  have n75 := c3.new (.inr (2, [.null, .null, .null, .null, .null, .int 0]))
  rw [e75] at n75 ⊢
  refine z_callI (As := []) K (g_P_init l G b0 _ a (v := vE) (o := 75) rfl (fun j j1 => vE_hi (by omega)) n75) ca_X_46 im_P_init rfl rfl rfl (by decide) (Nat.le_of_ble_eq_true rfl) d_X_init_83 (fun r hh75 hp => ?_)
  obtain ⟨rfl, p75⟩ := hp
  have b86 := c3.join (by decide) (by decide) p75
  refine zb_put (a := a) (o := 0) (own2 := [.null, .ref (a + 18), .ref (a + 39), .ref (a + 60), .ref (a + 75), .null, .null]) K hnm ff_X_47 b86 (by decide) (Nat.le_of_ble_eq_true rfl) rfl rfl rfl d_X_init_86 (fun hc4 c4 => ?_)
  refine z_aload_n K d_X_init_89 rfl ?_
  refine z_new K nw_X_44 (by decide) (by decide) d_X_init_90 ?_
  refine z_dup K d_X_init_93 rfl ?_
  have e86 := c4.1
  have n86 := c4.new (.inr (2, [.null, .null, .null, .null, .null, .int 0]))
  rw [e86] at n86 ⊢
  refine z_callI (As := []) K (g_P_init l G b0 _ a (v := vE) (o := 86) rfl (fun j j1 => vE_hi (by omega)) n86) ca_X_46 im_P_init rfl rfl rfl (by decide) (Nat.le_of_ble_eq_true rfl) d_X_init_94 (fun r hh86 hp => ?_)
  obtain ⟨rfl, p86⟩ := hp
  have b97 := c4.join (by decide) (by decide) p86
  refine zb_put (a := a) (o := 0) (own2 := [.null, .ref (a + 18), .ref (a + 39), .ref (a + 60), .ref (a + 75), .ref (a + 86), .null]) K hnm ff_X_51 b97 (by decide) (Nat.le_of_ble_eq_true rfl) rfl rfl rfl d_X_init_97 (fun hc5 c5 => ?_)
  refine z_aload_n K d_X_init_100 rfl ?_
  refine z_new K nw_X_44 (by decide) (by decide) d_X_init_101 ?_
  refine z_dup K d_X_init_104 rfl ?_
  have e97 := c5.1
  have n97 := c5.new (.inr (2, [.null, .null, .null, .null, .null, .int 0]))
  rw [e97] at n97 ⊢
  refine z_callI (As := []) K (g_P_init l G b0 _ a (v := vE) (o := 97) rfl (fun j j1 => vE_hi (by omega)) n97) ca_X_46 im_P_init rfl rfl rfl (by decide) (Nat.le_of_ble_eq_true rfl) d_X_init_105 (fun r hh97 hp => ?_)
  obtain ⟨rfl, p97⟩ := hp
  have b108 := c5.join (by decide) (by decide) p97
  refine zb_put (a := a) (o := 0) (own2 := [.null, .ref (a + 18), .ref (a + 39), .ref (a + 60), .ref (a + 75), .ref (a + 86), .ref (a + 97)]) K hnm ff_X_54 b108 (by decide) (Nat.le_of_ble_eq_true rfl) rfl rfl rfl d_X_init_108 (fun hc6 c6 => ?_)
  refine z_aload_n K d_X_init_111 rfl ?_
  refine z_bipush (v := jI 8) K d_X_init_112 rfl ?_
  refine z_newq (N := 8) K cl_X_44 rfl (by decide) (by decide) (by decide) d_X_init_114 ?_
  have e8 := c6.1
  have bt := c6.tab (v := .inl (G.2 2, 8, .inr (.inr (.inr (.inr (fun _ => none)))))) (own2 := .inr (8, oX a))
  rw [e8] at bt ⊢
  refine z_putF K hnm ff_X_57 ((va_up_ne _ _ (by omega)).trans c6.2.1) (Nat.le_of_ble_eq_true rfl) rfl rfl d_X_init_117 ?_
  refine z_iconst (v := jI 0) K d_X_init_120 rfl ?_
  refine z_istore_n K d_X_init_121 (by decide) ?_
  refine z_re [0, 3] rfl ?_
  have ez : (fun _ : Nat => (none : Option Nat)) = fun j : Nat => if j < 0 then some (a + (109 + 11 * j)) else none := by funext j; rw [if_neg (by omega)]
  rw [ez] at bt ⊢
  exact lp_X_init (a := a) (g := va_up hc6.2 a (.inr (8, oX a))) K (by decide) (va_up_self _ _ _) (fun hh hbf => z_vret K hr hlk d_X_init_147 ⟨rfl, c6.fin hbf⟩) 8 0 _ (by decide) bt
end I5
