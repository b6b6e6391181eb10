section I3
variable {p : Program} {l : Launch} {e : Env} {R : Room} {s : State} {m : MethodId} {args : Array Value} {below : List Frame} {meth : Method} {c : Code} {Q : State → Prop} {b0 kc ks : Nat} {G : zG} {h : zH} {a : Nat} {cd : Int}
set_option maxHeartbeats 4000000 in
set_option maxRecDepth 100000 in
theorem z_fldA {cc : ByteArray} {own : String} {nL pc : Nat} {lv : List (Nat × Value)} {hh : zH} (K : zC p s m args c cc own nL b0 G) (hnm : meth.name = "<init>") {S : xS} {g : Nat → va_E} {o k0 ci fi iP n : Nat} {fs : List Value} (hc : xCell G a S k0 = .inl (G.2 0, n, .inl (fun _ => 0))) (hn : n < 1000) (ho : o < k0) (hfi : fi < fs.length) (hff : zFf own iP ci fi (.array .int)) (hl : zl lv 0 = some (.ref (a + o))) (d1 : decode cc pc = .ok (.aload_n 0, 1)) (d2 : decode cc (pc + 1) = .ok (.bipush (n : Int), 2)) (d3 : decode cc (pc + 3) = .ok (.newarray .int, 2)) (d4 : decode cc (pc + 5) = .ok (.putfield iP, 3)) (hp8 : (Int8.ofInt (n : Int)).toInt32 = nI n) (hR : kc + 1 ≤ R.cells ∧ ks + n ≤ R.slots) (hb : bld G a S g o k0 (.inr (ci, fs)) hh) (kk : ∀ h1 : zH, bld G a S g o (k0 + 1) (.inr (ci, fs.set fi (.ref (a + k0)))) h1 → zW p l e R s m args below meth c nL b0 G (kc + 1) (ks + n) Q h1 (pc + 8) lv []) : zW p l e R s m args below meth c nL b0 G kc ks Q hh pc lv [] := by
  have hb1 := hb.1
  refine z_aload_n K d1 hl ?_
  refine z_bipush (v := nI n) K d2 hp8 ?_
  refine z_newi (t0 := 0) (N := n) K rfl ac_int rfl (by omega) hR.1 hR.2 d3 ?_
  have ha := hb.arr ho hc
  rw [hb1] at ha ⊢
  refine z_putF K hnm hff ha.2.1 hfi rfl rfl d4 ?_
  exact kk _ (ha.put (by omega) _)
set_option maxHeartbeats 4000000 in
set_option maxRecDepth 100000 in
theorem g_P_init (l : Launch) (G : zG) (b0 : Nat) (h : zH) (a : Nat) {v : Nat → Int} {g : Nat → va_E} {o : Nat} (ho : isP o = true) (hv : ∀ j : Nat, o < j → v j = 0) (hb : bld G a (Sv v) g o (o + 1) (.inr (2, [.null, .null, .null, .null, .null, .int 0])) h) : zMet l G b0 y_P_init b_P_init 1 none 2 42 10 165 [.ref (a + o)] h (fun r h' => r = none ∧ bld G a (Sv v) g o (o + 11) (xCell G a (Sv v) o) h') :=
  z_met (by decide) (Nat.le_of_ble_eq_true rfl) fun p e s m below meth c K hr hlk hnm => by
  refine z_aload_n K d_P_init_0 rfl ?_
  refine z_obj K oi_P oi_im oi_cd d_P_init_1 (by decide) ?_
  have hN := (isP_lt ho).2.2.2
  have hR3 := nR_P ho
  refine z_fldB (a := a) (k0 := o + 1) (rm := 30) K hnm hN.1 (hR3 1 (by decide)) (hv _ (by omega)) (by omega) (Nat.le_of_ble_eq_true rfl) nw_P_9 ca_P_11 (Or.inl ff_P_14) rfl d_P_init_4 d_P_init_5 d_P_init_8 d_P_init_9 d_P_init_11 d_P_init_14 rfl (by decide) hb (fun hh1 hb1 => ?_)
  refine z_fldB (a := a) (k0 := o + 3) (rm := 30) K hnm hN.2.1 (hR3 3 (by decide)) (hv _ (by omega)) (by omega) (Nat.le_of_ble_eq_true rfl) nw_P_9 ca_P_11 (Or.inl ff_P_20) rfl d_P_init_17 d_P_init_18 d_P_init_21 d_P_init_22 d_P_init_24 d_P_init_27 rfl (by decide) hb1 (fun hh2 hb2 => ?_)
  refine z_fldB (a := a) (k0 := o + 5) (rm := 30) K hnm hN.2.2.1 (hR3 5 (by decide)) (hv _ (by omega)) (by omega) (Nat.le_of_ble_eq_true rfl) nw_P_9 ca_P_11 (Or.inl ff_P_23) rfl d_P_init_30 d_P_init_31 d_P_init_34 d_P_init_35 d_P_init_37 d_P_init_40 rfl (by decide) hb2 (fun hh3 hb3 => ?_)
  refine z_fldB (a := a) (k0 := o + 7) (rm := 30) K hnm hN.2.2.2.1 (hR3 7 (by decide)) (hv _ (by omega)) (by omega) (Nat.le_of_ble_eq_true rfl) nw_P_9 ca_P_11 (Or.inl ff_P_26) rfl d_P_init_43 d_P_init_44 d_P_init_47 d_P_init_48 d_P_init_50 d_P_init_53 rfl (by decide) hb3 (fun hh4 hb4 => ?_)
  refine z_fldB (a := a) (k0 := o + 9) (rm := 30) K hnm hN.2.2.2.2 (hR3 9 (by decide)) (hv _ (by omega)) (by omega) (Nat.le_of_ble_eq_true rfl) nw_P_9 ca_P_11 (Or.inl ff_P_29) rfl d_P_init_56 d_P_init_57 d_P_init_60 d_P_init_61 d_P_init_63 d_P_init_66 rfl (by decide) hb4 (fun hh5 hb5 => ?_)
  refine z_aload_n K d_P_init_69 rfl ?_
  refine z_iconst (v := jI 1) K d_P_init_70 rfl ?_
  refine z_put K fd_P_32 hb5.2.1 (Nat.le_of_ble_eq_true rfl) (z01n (Or.inr rfl)) (z01f (Or.inr rfl)) d_P_init_71 ?_
  have e := hb5.put (by omega) (xCell G a (Sv v) o)
  rw [xC_P ho] at e ⊢
  exact z_vret K hr hlk d_P_init_74 ⟨rfl, e⟩
set_option maxHeartbeats 4000000 in
set_option maxRecDepth 100000 in
theorem g_Q_init (l : Launch) (G : zG) (b0 : Nat) (h : zH) (a : Nat) {v : Nat → Int} {g : Nat → va_E} (hv : ∀ j : Nat, 18 < j → j < 39 → v j = 0) (hb : bld G a (Sv v) g 18 (18 + 1) (.inr (3, [.null, .null, .null, .null, .null, .null, .null, .null, .null, .null])) h) : zMet l G b0 y_Q_init b_Q_init 1 none 2 42 20 60 [.ref (a + 18)] h (fun r h' => r = none ∧ bld G a (Sv v) g 18 39 (xCell G a (Sv v) 18) h') :=
  z_met (by decide) (Nat.le_of_ble_eq_true rfl) fun p e s m below meth c K hr hlk hnm => by
  refine z_aload_n K d_Q_init_0 rfl ?_
  refine z_obj K oi_Q oi_im oi_cd d_Q_init_1 (by decide) ?_
  refine z_fldI (a := a) (k0 := 19) K hnm rfl rfl (hv _ (by decide) (by decide)) (by decide) (Nat.le_of_ble_eq_true rfl) nw_Q_9 ca_Q_11 ff_Q_14 rfl d_Q_init_4 d_Q_init_5 d_Q_init_8 d_Q_init_9 d_Q_init_10 d_Q_init_13 (by decide) hb (fun hh1 hb1 => ?_)
  refine z_fldI (a := a) (k0 := 21) K hnm rfl rfl (hv _ (by decide) (by decide)) (by decide) (Nat.le_of_ble_eq_true rfl) nw_Q_9 ca_Q_11 ff_Q_20 rfl d_Q_init_16 d_Q_init_17 d_Q_init_20 d_Q_init_21 d_Q_init_22 d_Q_init_25 (by decide) hb1 (fun hh2 hb2 => ?_)
  refine z_fldI (a := a) (k0 := 23) K hnm rfl rfl (hv _ (by decide) (by decide)) (by decide) (Nat.le_of_ble_eq_true rfl) nw_Q_9 ca_Q_11 ff_Q_23 rfl d_Q_init_28 d_Q_init_29 d_Q_init_32 d_Q_init_33 d_Q_init_34 d_Q_init_37 (by decide) hb2 (fun hh3 hb3 => ?_)
  refine z_fldI (a := a) (k0 := 25) K hnm rfl rfl (hv _ (by decide) (by decide)) (by decide) (Nat.le_of_ble_eq_true rfl) nw_Q_9 ca_Q_11 ff_Q_26 rfl d_Q_init_40 d_Q_init_41 d_Q_init_44 d_Q_init_45 d_Q_init_46 d_Q_init_49 (by decide) hb3 (fun hh4 hb4 => ?_)
  refine z_fldI (a := a) (k0 := 27) K hnm rfl rfl (hv _ (by decide) (by decide)) (by decide) (Nat.le_of_ble_eq_true rfl) nw_Q_9 ca_Q_11 ff_Q_29 rfl d_Q_init_52 d_Q_init_53 d_Q_init_56 d_Q_init_57 d_Q_init_58 d_Q_init_61 (by decide) hb4 (fun hh5 hb5 => ?_)
  refine z_fldI (a := a) (k0 := 29) K hnm rfl rfl (hv _ (by decide) (by decide)) (by decide) (Nat.le_of_ble_eq_true rfl) nw_Q_9 ca_Q_11 ff_Q_32 rfl d_Q_init_64 d_Q_init_65 d_Q_init_68 d_Q_init_69 d_Q_init_70 d_Q_init_73 (by decide) hb5 (fun hh6 hb6 => ?_)
  refine z_fldI (a := a) (k0 := 31) K hnm rfl rfl (hv _ (by decide) (by decide)) (by decide) (Nat.le_of_ble_eq_true rfl) nw_Q_9 ca_Q_11 ff_Q_35 rfl d_Q_init_76 d_Q_init_77 d_Q_init_80 d_Q_init_81 d_Q_init_82 d_Q_init_85 (by decide) hb6 (fun hh7 hb7 => ?_)
  refine z_fldI (a := a) (k0 := 33) K hnm rfl rfl (hv _ (by decide) (by decide)) (by decide) (Nat.le_of_ble_eq_true rfl) nw_Q_9 ca_Q_11 ff_Q_38 rfl d_Q_init_88 d_Q_init_89 d_Q_init_92 d_Q_init_93 d_Q_init_94 d_Q_init_97 (by decide) hb7 (fun hh8 hb8 => ?_)
  refine z_fldI (a := a) (k0 := 35) K hnm rfl rfl (hv _ (by decide) (by decide)) (by decide) (Nat.le_of_ble_eq_true rfl) nw_Q_9 ca_Q_11 ff_Q_41 rfl d_Q_init_100 d_Q_init_101 d_Q_init_104 d_Q_init_105 d_Q_init_106 d_Q_init_109 (by decide) hb8 (fun hh9 hb9 => ?_)
  refine z_fldI (a := a) (k0 := 37) K hnm rfl rfl (hv _ (by decide) (by decide)) (by decide) (Nat.le_of_ble_eq_true rfl) nw_Q_9 ca_Q_11 ff_Q_44 rfl d_Q_init_112 d_Q_init_113 d_Q_init_116 d_Q_init_117 d_Q_init_118 d_Q_init_121 (by decide) hb9 (fun hh10 hb10 => ?_)
  exact z_vret K hr hlk d_Q_init_124 ⟨rfl, hb10⟩
set_option maxHeartbeats 4000000 in
set_option maxRecDepth 100000 in
theorem g_C_init (l : Launch) (G : zG) (b0 : Nat) (h : zH) (a : Nat) {v : Nat → Int} {g : Nat → va_E} (hv : ∀ j : Nat, 39 < j → j < 60 → v j = 0) (hb : bld G a (Sv v) g 39 (39 + 1) (.inr (7, [.null, .null, .null, .null, .null, .null, .null, .null, .null, .null, .null, .null, .null])) h) : zMet l G b0 y_C_init b_C_init 4 none 2 42 20 1150 [.ref (a + 39), .ref (a + 18), .ref (a + 1), .ref (a + 7)] h (fun r h' => r = none ∧ bld G a (Sv v) g 39 60 (xCell G a (Sv v) 39) h') :=
  z_met (by decide) (Nat.le_of_ble_eq_true rfl) fun p e s m below meth c K hr hlk hnm => by
  refine z_aload_n K d_C_init_0 rfl ?_
  refine z_obj K oi_C oi_im oi_cd d_C_init_1 (by decide) ?_
  refine z_fldB (a := a) (k0 := 40) (rm := 112) K hnm rfl rfl (hv _ (by decide) (by decide)) (by decide) (Nat.le_of_ble_eq_true rfl) nw_C_9 ca_C_11 (Or.inl ff_C_14) rfl d_C_init_4 d_C_init_5 d_C_init_8 d_C_init_9 d_C_init_11 d_C_init_14 rfl (by decide) hb (fun hh1 hb1 => ?_)
  refine z_fldB (a := a) (k0 := 42) (rm := 112) K hnm rfl rfl (hv _ (by decide) (by decide)) (by decide) (Nat.le_of_ble_eq_true rfl) nw_C_9 ca_C_11 (Or.inl ff_C_20) rfl d_C_init_17 d_C_init_18 d_C_init_21 d_C_init_22 d_C_init_24 d_C_init_27 rfl (by decide) hb1 (fun hh2 hb2 => ?_)
  refine z_fldB (a := a) (k0 := 44) (rm := 112) K hnm rfl rfl (hv _ (by decide) (by decide)) (by decide) (Nat.le_of_ble_eq_true rfl) nw_C_9 ca_C_11 (Or.inl ff_C_23) rfl d_C_init_30 d_C_init_31 d_C_init_34 d_C_init_35 d_C_init_37 d_C_init_40 rfl (by decide) hb2 (fun hh3 hb3 => ?_)
  refine z_fldB (a := a) (k0 := 46) (rm := 112) K hnm rfl rfl (hv _ (by decide) (by decide)) (by decide) (Nat.le_of_ble_eq_true rfl) nw_C_9 ca_C_11 (Or.inl ff_C_26) rfl d_C_init_43 d_C_init_44 d_C_init_47 d_C_init_48 d_C_init_50 d_C_init_53 rfl (by decide) hb3 (fun hh4 hb4 => ?_)
  refine z_fldB (a := a) (k0 := 48) (rm := 112) K hnm rfl rfl (hv _ (by decide) (by decide)) (by decide) (Nat.le_of_ble_eq_true rfl) nw_C_9 ca_C_11 (Or.inl ff_C_29) rfl d_C_init_56 d_C_init_57 d_C_init_60 d_C_init_61 d_C_init_63 d_C_init_66 rfl (by decide) hb4 (fun hh5 hb5 => ?_)
  refine z_fldB (a := a) (k0 := 50) (rm := 112) K hnm rfl rfl (hv _ (by decide) (by decide)) (by decide) (Nat.le_of_ble_eq_true rfl) nw_C_9 ca_C_11 (Or.inl ff_C_32) rfl d_C_init_69 d_C_init_70 d_C_init_73 d_C_init_74 d_C_init_76 d_C_init_79 rfl (by decide) hb5 (fun hh6 hb6 => ?_)
  refine z_fldB (a := a) (k0 := 52) (rm := 112) K hnm rfl rfl (hv _ (by decide) (by decide)) (by decide) (Nat.le_of_ble_eq_true rfl) nw_C_9 ca_C_11 (Or.inl ff_C_35) rfl d_C_init_82 d_C_init_83 d_C_init_86 d_C_init_87 d_C_init_89 d_C_init_92 rfl (by decide) hb6 (fun hh7 hb7 => ?_)
  refine z_fldB (a := a) (k0 := 54) (rm := 112) K hnm rfl rfl (hv _ (by decide) (by decide)) (by decide) (Nat.le_of_ble_eq_true rfl) nw_C_9 ca_C_11 (Or.inl ff_C_38) rfl d_C_init_95 d_C_init_96 d_C_init_99 d_C_init_100 d_C_init_102 d_C_init_105 rfl (by decide) hb7 (fun hh8 hb8 => ?_)
  refine z_fldB (a := a) (k0 := 56) (rm := 112) K hnm rfl rfl (hv _ (by decide) (by decide)) (by decide) (Nat.le_of_ble_eq_true rfl) nw_C_9 ca_C_11 (Or.inl ff_C_41) rfl d_C_init_108 d_C_init_109 d_C_init_112 d_C_init_113 d_C_init_115 d_C_init_118 rfl (by decide) hb8 (fun hh9 hb9 => ?_)
  refine z_fldB (a := a) (k0 := 58) (rm := 112) K hnm rfl rfl (hv _ (by decide) (by decide)) (by decide) (Nat.le_of_ble_eq_true rfl) nw_C_9 ca_C_11 (Or.inl ff_C_44) rfl d_C_init_121 d_C_init_122 d_C_init_125 d_C_init_126 d_C_init_128 d_C_init_131 rfl (by decide) hb9 (fun hh10 hb10 => ?_)
  refine z_aload_n K d_C_init_134 rfl ?_
  refine z_aload_n K d_C_init_135 rfl ?_
  refine z_putF K hnm ff_C_47 hb10.2.1 (Nat.le_of_ble_eq_true rfl) rfl rfl d_C_init_136 ?_
  have hc0 := hb10.put (by decide) (.inr (7, [.ref (a + 18), .null, .null, .ref (a + 40), .ref (a + 42), .ref (a + 44), .ref (a + 46), .ref (a + 48), .ref (a + 50), .ref (a + 52), .ref (a + 54), .ref (a + 56), .ref (a + 58)]))
  refine z_aload_n K d_C_init_139 rfl ?_
  refine z_aload_n K d_C_init_140 rfl ?_
  refine z_putF K hnm ff_C_51 hc0.2.1 (Nat.le_of_ble_eq_true rfl) rfl rfl d_C_init_141 ?_
  have hc1 := hc0.put (by decide) (.inr (7, [.ref (a + 18), .ref (a + 1), .null, .ref (a + 40), .ref (a + 42), .ref (a + 44), .ref (a + 46), .ref (a + 48), .ref (a + 50), .ref (a + 52), .ref (a + 54), .ref (a + 56), .ref (a + 58)]))
  refine z_aload_n K d_C_init_144 rfl ?_
  refine z_aload_n K d_C_init_145 rfl ?_
  refine z_putF K hnm ff_C_55 hc1.2.1 (Nat.le_of_ble_eq_true rfl) rfl rfl d_C_init_146 ?_
  have hc2 := hc1.put (by decide) (.inr (7, [.ref (a + 18), .ref (a + 1), .ref (a + 7), .ref (a + 40), .ref (a + 42), .ref (a + 44), .ref (a + 46), .ref (a + 48), .ref (a + 50), .ref (a + 52), .ref (a + 54), .ref (a + 56), .ref (a + 58)]))
  exact z_vret K hr hlk d_C_init_149 ⟨rfl, hc2⟩
set_option maxHeartbeats 4000000 in
set_option maxRecDepth 100000 in
theorem g_E_init (l : Launch) (G : zG) (b0 : Nat) (h : zH) (a : Nat) {v : Nat → Int} {g : Nat → va_E} (hv : ∀ j : Nat, 60 < j → j < 75 → v j = 0) (hb : bld G a (Sv v) g 60 (60 + 1) (.inr (6, [.null, .null, .null, .null, .null, .null, .null, .null, .null, .null])) h) : zMet l G b0 y_E_init b_E_init 4 none 2 42 14 133 [.ref (a + 60), .ref (a + 18), .ref (a + 1), .ref (a + 7)] h (fun r h' => r = none ∧ bld G a (Sv v) g 60 75 (xCell G a (Sv v) 60) h') :=
  z_met (by decide) (Nat.le_of_ble_eq_true rfl) fun p e s m below meth c K hr hlk hnm => by
  refine z_aload_n K d_E_init_0 rfl ?_
  refine z_obj K oi_E oi_im oi_cd d_E_init_1 (by decide) ?_
  refine z_fldB (a := a) (k0 := 61) (rm := 16) K hnm rfl rfl (hv _ (by decide) (by decide)) (by decide) (Nat.le_of_ble_eq_true rfl) nw_E_9 ca_E_11 (Or.inl ff_E_14) rfl d_E_init_4 d_E_init_5 d_E_init_8 d_E_init_9 d_E_init_11 d_E_init_14 rfl (by decide) hb (fun hh1 hb1 => ?_)
  refine z_fldB (a := a) (k0 := 63) (rm := 16) K hnm rfl rfl (hv _ (by decide) (by decide)) (by decide) (Nat.le_of_ble_eq_true rfl) nw_E_9 ca_E_11 (Or.inl ff_E_20) rfl d_E_init_17 d_E_init_18 d_E_init_21 d_E_init_22 d_E_init_24 d_E_init_27 rfl (by decide) hb1 (fun hh2 hb2 => ?_)
  refine z_fldB (a := a) (k0 := 65) (rm := 16) K hnm rfl rfl (hv _ (by decide) (by decide)) (by decide) (Nat.le_of_ble_eq_true rfl) nw_E_9 ca_E_11 (Or.inl ff_E_23) rfl d_E_init_30 d_E_init_31 d_E_init_34 d_E_init_35 d_E_init_37 d_E_init_40 rfl (by decide) hb2 (fun hh3 hb3 => ?_)
  refine z_fldB (a := a) (k0 := 67) (rm := 16) K hnm rfl rfl (hv _ (by decide) (by decide)) (by decide) (Nat.le_of_ble_eq_true rfl) nw_E_9 ca_E_11 (Or.inl ff_E_26) rfl d_E_init_43 d_E_init_44 d_E_init_47 d_E_init_48 d_E_init_50 d_E_init_53 rfl (by decide) hb3 (fun hh4 hb4 => ?_)
  refine z_fldB (a := a) (k0 := 69) (rm := 16) K hnm rfl rfl (hv _ (by decide) (by decide)) (by decide) (Nat.le_of_ble_eq_true rfl) nw_E_9 ca_E_11 (Or.inl ff_E_29) rfl d_E_init_56 d_E_init_57 d_E_init_60 d_E_init_61 d_E_init_63 d_E_init_66 rfl (by decide) hb4 (fun hh5 hb5 => ?_)
  refine z_fldB (a := a) (k0 := 71) (rm := 16) K hnm rfl rfl (hv _ (by decide) (by decide)) (by decide) (Nat.le_of_ble_eq_true rfl) nw_E_9 ca_E_11 (Or.inl ff_E_32) rfl d_E_init_69 d_E_init_70 d_E_init_73 d_E_init_74 d_E_init_76 d_E_init_79 rfl (by decide) hb5 (fun hh6 hb6 => ?_)
  refine z_fldB (a := a) (k0 := 73) (rm := 16) K hnm rfl rfl (hv _ (by decide) (by decide)) (by decide) (Nat.le_of_ble_eq_true rfl) nw_E_9 ca_E_11 (Or.inl ff_E_35) rfl d_E_init_82 d_E_init_83 d_E_init_86 d_E_init_87 d_E_init_89 d_E_init_92 rfl (by decide) hb6 (fun hh7 hb7 => ?_)
  refine z_aload_n K d_E_init_95 rfl ?_
  refine z_aload_n K d_E_init_96 rfl ?_
  refine z_putF K hnm ff_E_38 hb7.2.1 (Nat.le_of_ble_eq_true rfl) rfl rfl d_E_init_97 ?_
  have hc0 := hb7.put (by decide) (.inr (6, [.ref (a + 18), .null, .null, .ref (a + 61), .ref (a + 63), .ref (a + 65), .ref (a + 67), .ref (a + 69), .ref (a + 71), .ref (a + 73)]))
  refine z_aload_n K d_E_init_100 rfl ?_
  refine z_aload_n K d_E_init_101 rfl ?_
  refine z_putF K hnm ff_E_42 hc0.2.1 (Nat.le_of_ble_eq_true rfl) rfl rfl d_E_init_102 ?_
  have hc1 := hc0.put (by decide) (.inr (6, [.ref (a + 18), .ref (a + 1), .null, .ref (a + 61), .ref (a + 63), .ref (a + 65), .ref (a + 67), .ref (a + 69), .ref (a + 71), .ref (a + 73)]))
  refine z_aload_n K d_E_init_105 rfl ?_
  refine z_aload_n K d_E_init_106 rfl ?_
  refine z_putF K hnm ff_E_46 hc1.2.1 (Nat.le_of_ble_eq_true rfl) rfl rfl d_E_init_107 ?_
  have hc2 := hc1.put (by decide) (.inr (6, [.ref (a + 18), .ref (a + 1), .ref (a + 7), .ref (a + 61), .ref (a + 63), .ref (a + 65), .ref (a + 67), .ref (a + 69), .ref (a + 71), .ref (a + 73)]))
  exact z_vret K hr hlk d_E_init_110 ⟨rfl, hc2⟩
set_option maxHeartbeats 4000000 in
set_option maxRecDepth 100000 in
theorem g_R_init (l : Launch) (G : zG) (b0 : Nat) (h : zH) (a : Nat) {v : Nat → Int} {g : Nat → va_E} (hv : ∀ j : Nat, 1 < j → j < 7 → v j = 0) (hb : bld G a (Sv v) g 1 (1 + 1) (.inr (4, [.null, .null, .null, .null, .int 0])) h) : zMet l G b0 y_R_init b_R_init 1 none 2 42 5 453 [.ref (a + 1)] h (fun r h' => r = none ∧ bld G a (Sv v) g 1 7 (xCell G a (Sv v) 1) h') :=
  z_met (by decide) (Nat.le_of_ble_eq_true rfl) fun p e s m below meth c K hr hlk hnm => by
  refine z_aload_n K d_R_init_0 rfl ?_
  refine z_obj K oi_R oi_im oi_cd d_R_init_1 (by decide) ?_
  refine z_fldA (a := a) (k0 := 2) (n := 112) K hnm rfl (by decide) (by decide) (Nat.le_of_ble_eq_true rfl) ff_R_9 rfl d_R_init_4 d_R_init_5 d_R_init_7 d_R_init_9 rfl (by decide) hb (fun hh0 hx0 => ?_)
  refine z_fldA (a := a) (k0 := 3) (n := 113) K hnm rfl (by decide) (by decide) (Nat.le_of_ble_eq_true rfl) ff_R_15 rfl d_R_init_12 d_R_init_13 d_R_init_15 d_R_init_17 rfl (by decide) hx0 (fun hh1 hx1 => ?_)
  refine z_fldA (a := a) (k0 := 4) (n := 113) K hnm rfl (by decide) (by decide) (Nat.le_of_ble_eq_true rfl) ff_R_18 rfl d_R_init_20 d_R_init_21 d_R_init_23 d_R_init_25 rfl (by decide) hx1 (fun hh2 hx2 => ?_)
  refine z_fldB (a := a) (k0 := 5) (rm := 112) K hnm rfl rfl (hv _ (by decide) (by decide)) (by decide) (Nat.le_of_ble_eq_true rfl) nw_R_21 ca_R_23 (Or.inl ff_R_26) rfl d_R_init_28 d_R_init_29 d_R_init_32 d_R_init_33 d_R_init_35 d_R_init_38 rfl (by decide) hx2 (fun hh hb9 => ?_)
  exact z_vret K hr hlk d_R_init_41 ⟨rfl, hb9⟩
set_option maxHeartbeats 4000000 in
set_option maxRecDepth 100000 in
theorem g_D_init (l : Launch) (G : zG) (b0 : Nat) (h : zH) (a : Nat) {v : Nat → Int} {g : Nat → va_E} (hv : ∀ j : Nat, 7 < j → j < 18 → v j = 0) (hb : bld G a (Sv v) g 7 (7 + 1) (.inr (5, [.null, .null, .null, .null, .null, .null, .long 0, .long 0, .long 0, .long 0])) h) : zMet l G b0 y_D_init b_D_init 2 none 2 42 10 466 [.ref (a + 7), .ref (a + 1)] h (fun r h' => r = none ∧ bld G a (Sv (nu v 10 2)) g 7 18 (xCell G a (Sv (nu v 10 2)) 7) h') :=
  z_met (by decide) (Nat.le_of_ble_eq_true rfl) fun p e s m below meth c K hr hlk hnm => by
  refine z_aload_n K d_D_init_0 rfl ?_
  refine z_obj K oi_D oi_im oi_cd d_D_init_1 (by decide) ?_
  refine z_fldB (a := a) (k0 := 8) (rm := 112) K hnm rfl rfl (hv _ (by decide) (by decide)) (by decide) (Nat.le_of_ble_eq_true rfl) nw_D_9 ca_D_11 (Or.inl ff_D_14) rfl d_D_init_4 d_D_init_5 d_D_init_8 d_D_init_9 d_D_init_11 d_D_init_14 rfl (by decide) hb (fun hh1 hb1 => ?_)
  refine z_fldI (a := a) (k0 := 10) K hnm rfl rfl (hv _ (by decide) (by decide)) (by decide) (Nat.le_of_ble_eq_true rfl) nw_D_9 ca_D_11 ff_D_20 rfl d_D_init_17 d_D_init_18 d_D_init_21 d_D_init_22 d_D_init_23 d_D_init_26 (by decide) hb1 (fun hh2 hb2 => ?_)
  refine z_fldB (a := a) (k0 := 12) (rm := 112) K hnm rfl rfl (hv _ (by decide) (by decide)) (by decide) (Nat.le_of_ble_eq_true rfl) nw_D_9 ca_D_11 (Or.inr fd_D_23) rfl d_D_init_29 d_D_init_30 d_D_init_33 d_D_init_34 d_D_init_36 d_D_init_39 rfl (by decide) hb2 (fun hh3 hb3 => ?_)
  refine z_fldB (a := a) (k0 := 14) (rm := 112) K hnm rfl rfl (hv _ (by decide) (by decide)) (by decide) (Nat.le_of_ble_eq_true rfl) nw_D_9 ca_D_11 (Or.inr fd_D_26) rfl d_D_init_42 d_D_init_43 d_D_init_46 d_D_init_47 d_D_init_49 d_D_init_52 rfl (by decide) hb3 (fun hh4 hb4 => ?_)
  refine z_fldB (a := a) (k0 := 16) (rm := 112) K hnm rfl rfl (hv _ (by decide) (by decide)) (by decide) (Nat.le_of_ble_eq_true rfl) nw_D_9 ca_D_11 (Or.inr fd_D_29) rfl d_D_init_55 d_D_init_56 d_D_init_59 d_D_init_60 d_D_init_62 d_D_init_65 rfl (by decide) hb4 (fun hh5 hb5 => ?_)
  refine z_aload_n K d_D_init_68 rfl ?_
  refine z_aload_n K d_D_init_69 rfl ?_
  refine z_putF K hnm ff_D_32 hb5.2.1 (Nat.le_of_ble_eq_true rfl) rfl rfl d_D_init_70 ?_
  have hc0 := hb5.put (by decide) (.inr (5, [.ref (a + 1), .ref (a + 8), .ref (a + 10), .ref (a + 12), .ref (a + 14), .ref (a + 16), .long 0, .long 0, .long 0, .long 0]))
  refine z_aload_n K d_D_init_73 rfl ?_
  refine z_get K fd_D_20 hc0.2.1 rfl d_D_init_74 ?_
  refine z_ldc2 (v := kI 2) K d_D_init_77 kc_D_36 ?_
  refine z_callV (ci := 1) (As := [.long (kI 2)]) K (g_N_become_J l G b0 _ a (v := v) (k := 10) (w := 2) rfl (hv _ (by decide) (by decide)) (by decide) (hc0.2.2.1 10 (by decide) (by decide)) (hc0.2.2.1 11 (by decide) (by decide))) ca_D_38 im_N_become_J se_N_become_J rfl (by decide) ((hc0.2.2.1 10 (by decide) (by decide)).trans (xC_N rfl)) rfl rfl (by decide) (Nat.le_of_ble_eq_true rfl) d_D_init_80 (fun r h1 hp => ?_)
  obtain ⟨rfl, p1, p2, p3, p4⟩ := hp
  exact z_vret K hr hlk d_D_init_83 ⟨rfl, hc0.bec (by decide) (by decide) p1 p2 p3 p4⟩
end I3
