abbrev wnX0_300 (cyI cyB cyZ cyT : ClassId) (a : Nat → Nat) : va_W := [(a 0, .inr (0, [.ref (a 1), .ref (a 2), .ref (a 3), .ref (a 4), .ref (a 5), .ref (a 6), .ref (a 7), .int 0, .int 0, .int 0])), (a 1, .inl (cyI, 300, .inl (fun _ => 0))), (a 2, .inl (cyI, 300, .inl (fun _ => 0))), (a 3, .inl (cyI, 300, .inl (fun _ => 0))), (a 4, .inl (cyI, 300, .inl (fun _ => 0))), (a 5, .inl (cyI, 300, .inl (fun _ => 0))), (a 6, .inl (cyI, 300, .inl (fun _ => 0))), (a 7, .inl (cyI, 8, .inl (fun _ => 0)))]
set_option maxHeartbeats 4000000 in
set_option maxRecDepth 100000 in
theorem ctX0_init_300 (l : Launch) (D : va_G) (cyI cyB cyZ cyT : ClassId) (h0 : Nat) : kMn (S := (Nat → Nat)) l yX0_init (kM yX0_init cX0_init 2 none) ({ frames := 1, cells := 7, slots := 1808, locals := 80 } : Room) D (kTy cyI cyB cyZ cyT) [.ref h0, .int (300 : Int32)] [(h0, .inr (0, [.null, .null, .null, .null, .null, .null, .null, .int 0, .int 0, .int 0]))] 7 1808 (fun u => u 0 = h0) (fun u : (Nat → Nat) => wnX0_300 cyI cyB cyZ cyT u) := by
  refine kMn.of (cc := cX0_init) (maxL := 2) (ret := none) (by decide) (Nat.le_of_ble_eq_true rfl) ?_
  intro p e s m below meth c A C0 hin hW ls hl
  obtain ⟨hx, hb, hr, hts, hown, hml, hlocks, hA, hN⟩ := id C0
  have hown : s.vm.findClass RX0 = some m.cls := hown
  have hin : meth.name = "<init>" := hin
  obtain ⟨hK, hP, hD, hS⟩ := hW
  have hl : lv_has ls 2 [(0, .ref h0), (1, .int (300 : Int32))] := hl
  refine lv_aload_n hx hb dX0_init_0 rfl (lv_at hl 0 rfl) ?_
  refine W.objInit hx hb hown (hts (.methodLink RX0 3 objectInit) q_0411bd6f) (hts (.instanceMethod objectInit) q_449f795d) (hts (.code objectInit ⟨#[0xb1]⟩ 1 none) q_679af842) rfl (by rw [hml]; exact hl.1) rfl dX0_init_1 (Nat.le_of_ble_eq_true rfl) (Nat.le_of_ble_eq_true rfl) ?_
  refine W.eq (g2 := F0 m 4 ls []) rfl ?_
  refine lv_aload_n hx hb dX0_init_4 rfl (lv_at hl 0 rfl) ?_
  refine lv_bipush (v := (8 : Int32)) hx hb dX0_init_5 (by decide) ?_
  refine va_newa (atype := .int) (ty := .int) (N' := 8) (a0 := (8, .inl (fun _ => 0))) hx hb (hts (.arrayClass .int) q_c201d5c8) rfl hK hP hD hS hA (k_new_int _) (by decide +kernel) (by decide +kernel) (by decide +kernel) (by decide +kernel) (by decide +kernel) dX0_init_7 (fun q7 cA H hK2 hP hD hS => ?_)
  have hcA := k_same hK2 0 4 rfl rfl rfl
  subst hcA
  have hP : va_P D vwCl [(h0, .inr (0, [.null, .null, .null, .null, .null, .null, .null, .int 0, .int 0, .int 0])), (q7, .inl (cyI, 8, .inl (fun _ => 0)))] H := hP
  have hD : va_D A [(h0, .inr (0, [.null, .null, .null, .null, .null, .null, .null, .int 0, .int 0, .int 0])), (q7, .inl (cyI, 8, .inl (fun _ => 0)))] := hD
  refine W.widen (k := 1) (n := 8) (by decide +kernel) (by decide +kernel) ?_
  refine va_putF (ci := 0) (v := .ref (q7)) (ty := (.array .int)) (C := RX0) (T := TX0) (N := 10) hx hb hts iw_X0 tyX0 tyX0_ok nmX0 hown hK hP hD hS 0 rfl rfl 6 (by decide) (hts (.fieldLink RX0 9 "WalkersSay$Claims" "firstEnd" "[I") q_4757438f) (fun _ h9 => h9) rfl hin rfl (by decide +kernel) rfl rfl (Nat.le_of_ble_eq_true rfl) dX0_init_9 (fun H locs hP hD hS => ?_)
  have hP : va_P D vwCl [(h0, .inr (0, [.null, .null, .null, .null, .null, .null, .ref (q7), .int 0, .int 0, .int 0])), (q7, .inl (cyI, 8, .inl (fun _ => 0)))] H := hP
  have hD : va_D A [(h0, .inr (0, [.null, .null, .null, .null, .null, .null, .ref (q7), .int 0, .int 0, .int 0])), (q7, .inl (cyI, 8, .inl (fun _ => 0)))] := hD
  refine lv_aload_n hx hb dX0_init_12 rfl (lv_at hl 0 rfl) ?_
  refine lv_iload_n hx hb dX0_init_13 rfl (lv_at hl 1 rfl) ?_
  refine va_newa (atype := .int) (ty := .int) (N' := 300) (a0 := (300, .inl (fun _ => 0))) hx hb (hts (.arrayClass .int) q_c201d5c8) rfl hK hP hD hS hA (k_new_int _) (by decide +kernel) (by decide +kernel) (by decide +kernel) (by decide +kernel) (by decide +kernel) dX0_init_14 (fun q14 cA H hK2 hP hD hS => ?_)
  have hcA := k_same hK2 0 4 rfl rfl rfl
  subst hcA
  have hP : va_P D vwCl [(h0, .inr (0, [.null, .null, .null, .null, .null, .null, .ref (q7), .int 0, .int 0, .int 0])), (q7, .inl (cyI, 8, .inl (fun _ => 0))), (q14, .inl (cyI, 300, .inl (fun _ => 0)))] H := hP
  have hD : va_D A [(h0, .inr (0, [.null, .null, .null, .null, .null, .null, .ref (q7), .int 0, .int 0, .int 0])), (q7, .inl (cyI, 8, .inl (fun _ => 0))), (q14, .inl (cyI, 300, .inl (fun _ => 0)))] := hD
  refine W.widen (k := 2) (n := 308) (by decide +kernel) (by decide +kernel) ?_
  refine va_putF (ci := 0) (v := .ref (q14)) (ty := (.array .int)) (C := RX0) (T := TX0) (N := 10) hx hb hts iw_X0 tyX0 tyX0_ok nmX0 hown hK hP hD hS 0 rfl rfl 0 (by decide) (hts (.fieldLink RX0 15 "WalkersSay$Claims" "turnFrom" "[I") q_424f3096) (fun _ h9 => h9) rfl hin rfl (by decide +kernel) rfl rfl (Nat.le_of_ble_eq_true rfl) dX0_init_16 (fun H locs hP hD hS => ?_)
  have hP : va_P D vwCl [(h0, .inr (0, [.ref (q14), .null, .null, .null, .null, .null, .ref (q7), .int 0, .int 0, .int 0])), (q7, .inl (cyI, 8, .inl (fun _ => 0))), (q14, .inl (cyI, 300, .inl (fun _ => 0)))] H := hP
  have hD : va_D A [(h0, .inr (0, [.ref (q14), .null, .null, .null, .null, .null, .ref (q7), .int 0, .int 0, .int 0])), (q7, .inl (cyI, 8, .inl (fun _ => 0))), (q14, .inl (cyI, 300, .inl (fun _ => 0)))] := hD
  refine lv_aload_n hx hb dX0_init_19 rfl (lv_at hl 0 rfl) ?_
  refine lv_iload_n hx hb dX0_init_20 rfl (lv_at hl 1 rfl) ?_
  refine va_newa (atype := .int) (ty := .int) (N' := 300) (a0 := (300, .inl (fun _ => 0))) hx hb (hts (.arrayClass .int) q_c201d5c8) rfl hK hP hD hS hA (k_new_int _) (by decide +kernel) (by decide +kernel) (by decide +kernel) (by decide +kernel) (by decide +kernel) dX0_init_21 (fun q21 cA H hK2 hP hD hS => ?_)
  have hcA := k_same hK2 0 4 rfl rfl rfl
  subst hcA
  have hP : va_P D vwCl [(h0, .inr (0, [.ref (q14), .null, .null, .null, .null, .null, .ref (q7), .int 0, .int 0, .int 0])), (q7, .inl (cyI, 8, .inl (fun _ => 0))), (q14, .inl (cyI, 300, .inl (fun _ => 0))), (q21, .inl (cyI, 300, .inl (fun _ => 0)))] H := hP
  have hD : va_D A [(h0, .inr (0, [.ref (q14), .null, .null, .null, .null, .null, .ref (q7), .int 0, .int 0, .int 0])), (q7, .inl (cyI, 8, .inl (fun _ => 0))), (q14, .inl (cyI, 300, .inl (fun _ => 0))), (q21, .inl (cyI, 300, .inl (fun _ => 0)))] := hD
  refine W.widen (k := 3) (n := 608) (by decide +kernel) (by decide +kernel) ?_
  refine va_putF (ci := 0) (v := .ref (q21)) (ty := (.array .int)) (C := RX0) (T := TX0) (N := 10) hx hb hts iw_X0 tyX0 tyX0_ok nmX0 hown hK hP hD hS 0 rfl rfl 1 (by decide) (hts (.fieldLink RX0 18 "WalkersSay$Claims" "turnTo" "[I") q_df09b08a) (fun _ h9 => h9) rfl hin rfl (by decide +kernel) rfl rfl (Nat.le_of_ble_eq_true rfl) dX0_init_23 (fun H locs hP hD hS => ?_)
  have hP : va_P D vwCl [(h0, .inr (0, [.ref (q14), .ref (q21), .null, .null, .null, .null, .ref (q7), .int 0, .int 0, .int 0])), (q7, .inl (cyI, 8, .inl (fun _ => 0))), (q14, .inl (cyI, 300, .inl (fun _ => 0))), (q21, .inl (cyI, 300, .inl (fun _ => 0)))] H := hP
  have hD : va_D A [(h0, .inr (0, [.ref (q14), .ref (q21), .null, .null, .null, .null, .ref (q7), .int 0, .int 0, .int 0])), (q7, .inl (cyI, 8, .inl (fun _ => 0))), (q14, .inl (cyI, 300, .inl (fun _ => 0))), (q21, .inl (cyI, 300, .inl (fun _ => 0)))] := hD
  refine lv_aload_n hx hb dX0_init_26 rfl (lv_at hl 0 rfl) ?_
  refine lv_iload_n hx hb dX0_init_27 rfl (lv_at hl 1 rfl) ?_
  refine va_newa (atype := .int) (ty := .int) (N' := 300) (a0 := (300, .inl (fun _ => 0))) hx hb (hts (.arrayClass .int) q_c201d5c8) rfl hK hP hD hS hA (k_new_int _) (by decide +kernel) (by decide +kernel) (by decide +kernel) (by decide +kernel) (by decide +kernel) dX0_init_28 (fun q28 cA H hK2 hP hD hS => ?_)
  have hcA := k_same hK2 0 4 rfl rfl rfl
  subst hcA
  have hP : va_P D vwCl [(h0, .inr (0, [.ref (q14), .ref (q21), .null, .null, .null, .null, .ref (q7), .int 0, .int 0, .int 0])), (q7, .inl (cyI, 8, .inl (fun _ => 0))), (q14, .inl (cyI, 300, .inl (fun _ => 0))), (q21, .inl (cyI, 300, .inl (fun _ => 0))), (q28, .inl (cyI, 300, .inl (fun _ => 0)))] H := hP
  have hD : va_D A [(h0, .inr (0, [.ref (q14), .ref (q21), .null, .null, .null, .null, .ref (q7), .int 0, .int 0, .int 0])), (q7, .inl (cyI, 8, .inl (fun _ => 0))), (q14, .inl (cyI, 300, .inl (fun _ => 0))), (q21, .inl (cyI, 300, .inl (fun _ => 0))), (q28, .inl (cyI, 300, .inl (fun _ => 0)))] := hD
  refine W.widen (k := 4) (n := 908) (by decide +kernel) (by decide +kernel) ?_
  refine va_putF (ci := 0) (v := .ref (q28)) (ty := (.array .int)) (C := RX0) (T := TX0) (N := 10) hx hb hts iw_X0 tyX0 tyX0_ok nmX0 hown hK hP hD hS 0 rfl rfl 2 (by decide) (hts (.fieldLink RX0 21 "WalkersSay$Claims" "roundEnd" "[I") q_99b73708) (fun _ h9 => h9) rfl hin rfl (by decide +kernel) rfl rfl (Nat.le_of_ble_eq_true rfl) dX0_init_30 (fun H locs hP hD hS => ?_)
  have hP : va_P D vwCl [(h0, .inr (0, [.ref (q14), .ref (q21), .ref (q28), .null, .null, .null, .ref (q7), .int 0, .int 0, .int 0])), (q7, .inl (cyI, 8, .inl (fun _ => 0))), (q14, .inl (cyI, 300, .inl (fun _ => 0))), (q21, .inl (cyI, 300, .inl (fun _ => 0))), (q28, .inl (cyI, 300, .inl (fun _ => 0)))] H := hP
  have hD : va_D A [(h0, .inr (0, [.ref (q14), .ref (q21), .ref (q28), .null, .null, .null, .ref (q7), .int 0, .int 0, .int 0])), (q7, .inl (cyI, 8, .inl (fun _ => 0))), (q14, .inl (cyI, 300, .inl (fun _ => 0))), (q21, .inl (cyI, 300, .inl (fun _ => 0))), (q28, .inl (cyI, 300, .inl (fun _ => 0)))] := hD
  refine lv_aload_n hx hb dX0_init_33 rfl (lv_at hl 0 rfl) ?_
  refine lv_iload_n hx hb dX0_init_34 rfl (lv_at hl 1 rfl) ?_
  refine va_newa (atype := .int) (ty := .int) (N' := 300) (a0 := (300, .inl (fun _ => 0))) hx hb (hts (.arrayClass .int) q_c201d5c8) rfl hK hP hD hS hA (k_new_int _) (by decide +kernel) (by decide +kernel) (by decide +kernel) (by decide +kernel) (by decide +kernel) dX0_init_35 (fun q35 cA H hK2 hP hD hS => ?_)
  have hcA := k_same hK2 0 4 rfl rfl rfl
  subst hcA
  have hP : va_P D vwCl [(h0, .inr (0, [.ref (q14), .ref (q21), .ref (q28), .null, .null, .null, .ref (q7), .int 0, .int 0, .int 0])), (q7, .inl (cyI, 8, .inl (fun _ => 0))), (q14, .inl (cyI, 300, .inl (fun _ => 0))), (q21, .inl (cyI, 300, .inl (fun _ => 0))), (q28, .inl (cyI, 300, .inl (fun _ => 0))), (q35, .inl (cyI, 300, .inl (fun _ => 0)))] H := hP
  have hD : va_D A [(h0, .inr (0, [.ref (q14), .ref (q21), .ref (q28), .null, .null, .null, .ref (q7), .int 0, .int 0, .int 0])), (q7, .inl (cyI, 8, .inl (fun _ => 0))), (q14, .inl (cyI, 300, .inl (fun _ => 0))), (q21, .inl (cyI, 300, .inl (fun _ => 0))), (q28, .inl (cyI, 300, .inl (fun _ => 0))), (q35, .inl (cyI, 300, .inl (fun _ => 0)))] := hD
  refine W.widen (k := 5) (n := 1208) (by decide +kernel) (by decide +kernel) ?_
  refine va_putF (ci := 0) (v := .ref (q35)) (ty := (.array .int)) (C := RX0) (T := TX0) (N := 10) hx hb hts iw_X0 tyX0 tyX0_ok nmX0 hown hK hP hD hS 0 rfl rfl 3 (by decide) (hts (.fieldLink RX0 24 "WalkersSay$Claims" "roundLanes" "[I") q_88ed17d0) (fun _ h9 => h9) rfl hin rfl (by decide +kernel) rfl rfl (Nat.le_of_ble_eq_true rfl) dX0_init_37 (fun H locs hP hD hS => ?_)
  have hP : va_P D vwCl [(h0, .inr (0, [.ref (q14), .ref (q21), .ref (q28), .ref (q35), .null, .null, .ref (q7), .int 0, .int 0, .int 0])), (q7, .inl (cyI, 8, .inl (fun _ => 0))), (q14, .inl (cyI, 300, .inl (fun _ => 0))), (q21, .inl (cyI, 300, .inl (fun _ => 0))), (q28, .inl (cyI, 300, .inl (fun _ => 0))), (q35, .inl (cyI, 300, .inl (fun _ => 0)))] H := hP
  have hD : va_D A [(h0, .inr (0, [.ref (q14), .ref (q21), .ref (q28), .ref (q35), .null, .null, .ref (q7), .int 0, .int 0, .int 0])), (q7, .inl (cyI, 8, .inl (fun _ => 0))), (q14, .inl (cyI, 300, .inl (fun _ => 0))), (q21, .inl (cyI, 300, .inl (fun _ => 0))), (q28, .inl (cyI, 300, .inl (fun _ => 0))), (q35, .inl (cyI, 300, .inl (fun _ => 0)))] := hD
  refine lv_aload_n hx hb dX0_init_40 rfl (lv_at hl 0 rfl) ?_
  refine lv_iload_n hx hb dX0_init_41 rfl (lv_at hl 1 rfl) ?_
  refine va_newa (atype := .int) (ty := .int) (N' := 300) (a0 := (300, .inl (fun _ => 0))) hx hb (hts (.arrayClass .int) q_c201d5c8) rfl hK hP hD hS hA (k_new_int _) (by decide +kernel) (by decide +kernel) (by decide +kernel) (by decide +kernel) (by decide +kernel) dX0_init_42 (fun q42 cA H hK2 hP hD hS => ?_)
  have hcA := k_same hK2 0 4 rfl rfl rfl
  subst hcA
  have hP : va_P D vwCl [(h0, .inr (0, [.ref (q14), .ref (q21), .ref (q28), .ref (q35), .null, .null, .ref (q7), .int 0, .int 0, .int 0])), (q7, .inl (cyI, 8, .inl (fun _ => 0))), (q14, .inl (cyI, 300, .inl (fun _ => 0))), (q21, .inl (cyI, 300, .inl (fun _ => 0))), (q28, .inl (cyI, 300, .inl (fun _ => 0))), (q35, .inl (cyI, 300, .inl (fun _ => 0))), (q42, .inl (cyI, 300, .inl (fun _ => 0)))] H := hP
  have hD : va_D A [(h0, .inr (0, [.ref (q14), .ref (q21), .ref (q28), .ref (q35), .null, .null, .ref (q7), .int 0, .int 0, .int 0])), (q7, .inl (cyI, 8, .inl (fun _ => 0))), (q14, .inl (cyI, 300, .inl (fun _ => 0))), (q21, .inl (cyI, 300, .inl (fun _ => 0))), (q28, .inl (cyI, 300, .inl (fun _ => 0))), (q35, .inl (cyI, 300, .inl (fun _ => 0))), (q42, .inl (cyI, 300, .inl (fun _ => 0)))] := hD
  refine W.widen (k := 6) (n := 1508) (by decide +kernel) (by decide +kernel) ?_
  refine va_putF (ci := 0) (v := .ref (q42)) (ty := (.array .int)) (C := RX0) (T := TX0) (N := 10) hx hb hts iw_X0 tyX0 tyX0_ok nmX0 hown hK hP hD hS 0 rfl rfl 4 (by decide) (hts (.fieldLink RX0 27 "WalkersSay$Claims" "apartOne" "[I") q_e6bb5fcf) (fun _ h9 => h9) rfl hin rfl (by decide +kernel) rfl rfl (Nat.le_of_ble_eq_true rfl) dX0_init_44 (fun H locs hP hD hS => ?_)
  have hP : va_P D vwCl [(h0, .inr (0, [.ref (q14), .ref (q21), .ref (q28), .ref (q35), .ref (q42), .null, .ref (q7), .int 0, .int 0, .int 0])), (q7, .inl (cyI, 8, .inl (fun _ => 0))), (q14, .inl (cyI, 300, .inl (fun _ => 0))), (q21, .inl (cyI, 300, .inl (fun _ => 0))), (q28, .inl (cyI, 300, .inl (fun _ => 0))), (q35, .inl (cyI, 300, .inl (fun _ => 0))), (q42, .inl (cyI, 300, .inl (fun _ => 0)))] H := hP
  have hD : va_D A [(h0, .inr (0, [.ref (q14), .ref (q21), .ref (q28), .ref (q35), .ref (q42), .null, .ref (q7), .int 0, .int 0, .int 0])), (q7, .inl (cyI, 8, .inl (fun _ => 0))), (q14, .inl (cyI, 300, .inl (fun _ => 0))), (q21, .inl (cyI, 300, .inl (fun _ => 0))), (q28, .inl (cyI, 300, .inl (fun _ => 0))), (q35, .inl (cyI, 300, .inl (fun _ => 0))), (q42, .inl (cyI, 300, .inl (fun _ => 0)))] := hD
  refine lv_aload_n hx hb dX0_init_47 rfl (lv_at hl 0 rfl) ?_
  refine lv_iload_n hx hb dX0_init_48 rfl (lv_at hl 1 rfl) ?_
  refine va_newa (atype := .int) (ty := .int) (N' := 300) (a0 := (300, .inl (fun _ => 0))) hx hb (hts (.arrayClass .int) q_c201d5c8) rfl hK hP hD hS hA (k_new_int _) (by decide +kernel) (by decide +kernel) (by decide +kernel) (by decide +kernel) (by decide +kernel) dX0_init_49 (fun q49 cA H hK2 hP hD hS => ?_)
  have hcA := k_same hK2 0 4 rfl rfl rfl
  subst hcA
  have hP : va_P D vwCl [(h0, .inr (0, [.ref (q14), .ref (q21), .ref (q28), .ref (q35), .ref (q42), .null, .ref (q7), .int 0, .int 0, .int 0])), (q7, .inl (cyI, 8, .inl (fun _ => 0))), (q14, .inl (cyI, 300, .inl (fun _ => 0))), (q21, .inl (cyI, 300, .inl (fun _ => 0))), (q28, .inl (cyI, 300, .inl (fun _ => 0))), (q35, .inl (cyI, 300, .inl (fun _ => 0))), (q42, .inl (cyI, 300, .inl (fun _ => 0))), (q49, .inl (cyI, 300, .inl (fun _ => 0)))] H := hP
  have hD : va_D A [(h0, .inr (0, [.ref (q14), .ref (q21), .ref (q28), .ref (q35), .ref (q42), .null, .ref (q7), .int 0, .int 0, .int 0])), (q7, .inl (cyI, 8, .inl (fun _ => 0))), (q14, .inl (cyI, 300, .inl (fun _ => 0))), (q21, .inl (cyI, 300, .inl (fun _ => 0))), (q28, .inl (cyI, 300, .inl (fun _ => 0))), (q35, .inl (cyI, 300, .inl (fun _ => 0))), (q42, .inl (cyI, 300, .inl (fun _ => 0))), (q49, .inl (cyI, 300, .inl (fun _ => 0)))] := hD
  refine W.widen (k := 7) (n := 1808) (by decide +kernel) (by decide +kernel) ?_
  refine va_putF (ci := 0) (v := .ref (q49)) (ty := (.array .int)) (C := RX0) (T := TX0) (N := 10) hx hb hts iw_X0 tyX0 tyX0_ok nmX0 hown hK hP hD hS 0 rfl rfl 5 (by decide) (hts (.fieldLink RX0 30 "WalkersSay$Claims" "apartOther" "[I") q_2222732c) (fun _ h9 => h9) rfl hin rfl (by decide +kernel) rfl rfl (Nat.le_of_ble_eq_true rfl) dX0_init_51 (fun H locs hP hD hS => ?_)
  have hP : va_P D vwCl [(h0, .inr (0, [.ref (q14), .ref (q21), .ref (q28), .ref (q35), .ref (q42), .ref (q49), .ref (q7), .int 0, .int 0, .int 0])), (q7, .inl (cyI, 8, .inl (fun _ => 0))), (q14, .inl (cyI, 300, .inl (fun _ => 0))), (q21, .inl (cyI, 300, .inl (fun _ => 0))), (q28, .inl (cyI, 300, .inl (fun _ => 0))), (q35, .inl (cyI, 300, .inl (fun _ => 0))), (q42, .inl (cyI, 300, .inl (fun _ => 0))), (q49, .inl (cyI, 300, .inl (fun _ => 0)))] H := hP
  have hD : va_D A [(h0, .inr (0, [.ref (q14), .ref (q21), .ref (q28), .ref (q35), .ref (q42), .ref (q49), .ref (q7), .int 0, .int 0, .int 0])), (q7, .inl (cyI, 8, .inl (fun _ => 0))), (q14, .inl (cyI, 300, .inl (fun _ => 0))), (q21, .inl (cyI, 300, .inl (fun _ => 0))), (q28, .inl (cyI, 300, .inl (fun _ => 0))), (q35, .inl (cyI, 300, .inl (fun _ => 0))), (q42, .inl (cyI, 300, .inl (fun _ => 0))), (q49, .inl (cyI, 300, .inl (fun _ => 0)))] := hD
  have hP9 : va_P D vwCl (wnX0_300 cyI cyB cyZ cyT (fun k => ([h0, q14, q21, q28, q35, q42, q49, q7] : List Nat).getD k 0)) H := hP.sub [0, 2, 3, 4, 5, 6, 7, 1] rfl
  have hD9 : va_D A (wnX0_300 cyI cyB cyZ cyT (fun k => ([h0, q14, q21, q28, q35, q42, q49, q7] : List Nat).getD k 0)) := hD.sub [0, 2, 3, 4, 5, 6, 7, 1] (by decide) rfl
  exact W.vret hx hb hr (fun t ht hWm => ⟨⟨(fun k => ([h0, q14, q21, q28, q35, q42, q49, q7] : List Nat).getD k 0), rfl, rfl, by rw [ht]; exact hP9, va_K.moved hWm.alike hK, hD9⟩, hS.F ht⟩) hS.2.2 dX0_init_54
abbrev wnX0_200 (cyI cyB cyZ cyT : ClassId) (a : Nat → Nat) : va_W := [(a 0, .inr (0, [.ref (a 1), .ref (a 2), .ref (a 3), .ref (a 4), .ref (a 5), .ref (a 6), .ref (a 7), .int 0, .int 0, .int 0])), (a 1, .inl (cyI, 200, .inl (fun _ => 0))), (a 2, .inl (cyI, 200, .inl (fun _ => 0))), (a 3, .inl (cyI, 200, .inl (fun _ => 0))), (a 4, .inl (cyI, 200, .inl (fun _ => 0))), (a 5, .inl (cyI, 200, .inl (fun _ => 0))), (a 6, .inl (cyI, 200, .inl (fun _ => 0))), (a 7, .inl (cyI, 8, .inl (fun _ => 0)))]
set_option maxHeartbeats 4000000 in
set_option maxRecDepth 100000 in
theorem ctX0_init_200 (l : Launch) (D : va_G) (cyI cyB cyZ cyT : ClassId) (h0 : Nat) : kMn (S := (Nat → Nat)) l yX0_init (kM yX0_init cX0_init 2 none) ({ frames := 1, cells := 7, slots := 1208, locals := 80 } : Room) D (kTy cyI cyB cyZ cyT) [.ref h0, .int (200 : Int32)] [(h0, .inr (0, [.null, .null, .null, .null, .null, .null, .null, .int 0, .int 0, .int 0]))] 7 1208 (fun u => u 0 = h0) (fun u : (Nat → Nat) => wnX0_200 cyI cyB cyZ cyT u) := by
  refine kMn.of (cc := cX0_init) (maxL := 2) (ret := none) (by decide) (Nat.le_of_ble_eq_true rfl) ?_
  intro p e s m below meth c A C0 hin hW ls hl
  obtain ⟨hx, hb, hr, hts, hown, hml, hlocks, hA, hN⟩ := id C0
  have hown : s.vm.findClass RX0 = some m.cls := hown
  have hin : meth.name = "<init>" := hin
  obtain ⟨hK, hP, hD, hS⟩ := hW
  have hl : lv_has ls 2 [(0, .ref h0), (1, .int (200 : Int32))] := hl
  refine lv_aload_n hx hb dX0_init_0 rfl (lv_at hl 0 rfl) ?_
  refine W.objInit hx hb hown (hts (.methodLink RX0 3 objectInit) q_0411bd6f) (hts (.instanceMethod objectInit) q_449f795d) (hts (.code objectInit ⟨#[0xb1]⟩ 1 none) q_679af842) rfl (by rw [hml]; exact hl.1) rfl dX0_init_1 (Nat.le_of_ble_eq_true rfl) (Nat.le_of_ble_eq_true rfl) ?_
  refine W.eq (g2 := F0 m 4 ls []) rfl ?_
  refine lv_aload_n hx hb dX0_init_4 rfl (lv_at hl 0 rfl) ?_
  refine lv_bipush (v := (8 : Int32)) hx hb dX0_init_5 (by decide) ?_
  refine va_newa (atype := .int) (ty := .int) (N' := 8) (a0 := (8, .inl (fun _ => 0))) hx hb (hts (.arrayClass .int) q_c201d5c8) rfl hK hP hD hS hA (k_new_int _) (by decide +kernel) (by decide +kernel) (by decide +kernel) (by decide +kernel) (by decide +kernel) dX0_init_7 (fun q7 cA H hK2 hP hD hS => ?_)
  have hcA := k_same hK2 0 4 rfl rfl rfl
  subst hcA
  have hP : va_P D vwCl [(h0, .inr (0, [.null, .null, .null, .null, .null, .null, .null, .int 0, .int 0, .int 0])), (q7, .inl (cyI, 8, .inl (fun _ => 0)))] H := hP
  have hD : va_D A [(h0, .inr (0, [.null, .null, .null, .null, .null, .null, .null, .int 0, .int 0, .int 0])), (q7, .inl (cyI, 8, .inl (fun _ => 0)))] := hD
  refine W.widen (k := 1) (n := 8) (by decide +kernel) (by decide +kernel) ?_
  refine va_putF (ci := 0) (v := .ref (q7)) (ty := (.array .int)) (C := RX0) (T := TX0) (N := 10) hx hb hts iw_X0 tyX0 tyX0_ok nmX0 hown hK hP hD hS 0 rfl rfl 6 (by decide) (hts (.fieldLink RX0 9 "WalkersSay$Claims" "firstEnd" "[I") q_4757438f) (fun _ h9 => h9) rfl hin rfl (by decide +kernel) rfl rfl (Nat.le_of_ble_eq_true rfl) dX0_init_9 (fun H locs hP hD hS => ?_)
  have hP : va_P D vwCl [(h0, .inr (0, [.null, .null, .null, .null, .null, .null, .ref (q7), .int 0, .int 0, .int 0])), (q7, .inl (cyI, 8, .inl (fun _ => 0)))] H := hP
  have hD : va_D A [(h0, .inr (0, [.null, .null, .null, .null, .null, .null, .ref (q7), .int 0, .int 0, .int 0])), (q7, .inl (cyI, 8, .inl (fun _ => 0)))] := hD
  refine lv_aload_n hx hb dX0_init_12 rfl (lv_at hl 0 rfl) ?_
  refine lv_iload_n hx hb dX0_init_13 rfl (lv_at hl 1 rfl) ?_
  refine va_newa (atype := .int) (ty := .int) (N' := 200) (a0 := (200, .inl (fun _ => 0))) hx hb (hts (.arrayClass .int) q_c201d5c8) rfl hK hP hD hS hA (k_new_int _) (by decide +kernel) (by decide +kernel) (by decide +kernel) (by decide +kernel) (by decide +kernel) dX0_init_14 (fun q14 cA H hK2 hP hD hS => ?_)
  have hcA := k_same hK2 0 4 rfl rfl rfl
  subst hcA
  have hP : va_P D vwCl [(h0, .inr (0, [.null, .null, .null, .null, .null, .null, .ref (q7), .int 0, .int 0, .int 0])), (q7, .inl (cyI, 8, .inl (fun _ => 0))), (q14, .inl (cyI, 200, .inl (fun _ => 0)))] H := hP
  have hD : va_D A [(h0, .inr (0, [.null, .null, .null, .null, .null, .null, .ref (q7), .int 0, .int 0, .int 0])), (q7, .inl (cyI, 8, .inl (fun _ => 0))), (q14, .inl (cyI, 200, .inl (fun _ => 0)))] := hD
  refine W.widen (k := 2) (n := 208) (by decide +kernel) (by decide +kernel) ?_
  refine va_putF (ci := 0) (v := .ref (q14)) (ty := (.array .int)) (C := RX0) (T := TX0) (N := 10) hx hb hts iw_X0 tyX0 tyX0_ok nmX0 hown hK hP hD hS 0 rfl rfl 0 (by decide) (hts (.fieldLink RX0 15 "WalkersSay$Claims" "turnFrom" "[I") q_424f3096) (fun _ h9 => h9) rfl hin rfl (by decide +kernel) rfl rfl (Nat.le_of_ble_eq_true rfl) dX0_init_16 (fun H locs hP hD hS => ?_)
  have hP : va_P D vwCl [(h0, .inr (0, [.ref (q14), .null, .null, .null, .null, .null, .ref (q7), .int 0, .int 0, .int 0])), (q7, .inl (cyI, 8, .inl (fun _ => 0))), (q14, .inl (cyI, 200, .inl (fun _ => 0)))] H := hP
  have hD : va_D A [(h0, .inr (0, [.ref (q14), .null, .null, .null, .null, .null, .ref (q7), .int 0, .int 0, .int 0])), (q7, .inl (cyI, 8, .inl (fun _ => 0))), (q14, .inl (cyI, 200, .inl (fun _ => 0)))] := hD
  refine lv_aload_n hx hb dX0_init_19 rfl (lv_at hl 0 rfl) ?_
  refine lv_iload_n hx hb dX0_init_20 rfl (lv_at hl 1 rfl) ?_
  refine va_newa (atype := .int) (ty := .int) (N' := 200) (a0 := (200, .inl (fun _ => 0))) hx hb (hts (.arrayClass .int) q_c201d5c8) rfl hK hP hD hS hA (k_new_int _) (by decide +kernel) (by decide +kernel) (by decide +kernel) (by decide +kernel) (by decide +kernel) dX0_init_21 (fun q21 cA H hK2 hP hD hS => ?_)
  have hcA := k_same hK2 0 4 rfl rfl rfl
  subst hcA
  have hP : va_P D vwCl [(h0, .inr (0, [.ref (q14), .null, .null, .null, .null, .null, .ref (q7), .int 0, .int 0, .int 0])), (q7, .inl (cyI, 8, .inl (fun _ => 0))), (q14, .inl (cyI, 200, .inl (fun _ => 0))), (q21, .inl (cyI, 200, .inl (fun _ => 0)))] H := hP
  have hD : va_D A [(h0, .inr (0, [.ref (q14), .null, .null, .null, .null, .null, .ref (q7), .int 0, .int 0, .int 0])), (q7, .inl (cyI, 8, .inl (fun _ => 0))), (q14, .inl (cyI, 200, .inl (fun _ => 0))), (q21, .inl (cyI, 200, .inl (fun _ => 0)))] := hD
  refine W.widen (k := 3) (n := 408) (by decide +kernel) (by decide +kernel) ?_
  refine va_putF (ci := 0) (v := .ref (q21)) (ty := (.array .int)) (C := RX0) (T := TX0) (N := 10) hx hb hts iw_X0 tyX0 tyX0_ok nmX0 hown hK hP hD hS 0 rfl rfl 1 (by decide) (hts (.fieldLink RX0 18 "WalkersSay$Claims" "turnTo" "[I") q_df09b08a) (fun _ h9 => h9) rfl hin rfl (by decide +kernel) rfl rfl (Nat.le_of_ble_eq_true rfl) dX0_init_23 (fun H locs hP hD hS => ?_)
  have hP : va_P D vwCl [(h0, .inr (0, [.ref (q14), .ref (q21), .null, .null, .null, .null, .ref (q7), .int 0, .int 0, .int 0])), (q7, .inl (cyI, 8, .inl (fun _ => 0))), (q14, .inl (cyI, 200, .inl (fun _ => 0))), (q21, .inl (cyI, 200, .inl (fun _ => 0)))] H := hP
  have hD : va_D A [(h0, .inr (0, [.ref (q14), .ref (q21), .null, .null, .null, .null, .ref (q7), .int 0, .int 0, .int 0])), (q7, .inl (cyI, 8, .inl (fun _ => 0))), (q14, .inl (cyI, 200, .inl (fun _ => 0))), (q21, .inl (cyI, 200, .inl (fun _ => 0)))] := hD
  refine lv_aload_n hx hb dX0_init_26 rfl (lv_at hl 0 rfl) ?_
  refine lv_iload_n hx hb dX0_init_27 rfl (lv_at hl 1 rfl) ?_
  refine va_newa (atype := .int) (ty := .int) (N' := 200) (a0 := (200, .inl (fun _ => 0))) hx hb (hts (.arrayClass .int) q_c201d5c8) rfl hK hP hD hS hA (k_new_int _) (by decide +kernel) (by decide +kernel) (by decide +kernel) (by decide +kernel) (by decide +kernel) dX0_init_28 (fun q28 cA H hK2 hP hD hS => ?_)
  have hcA := k_same hK2 0 4 rfl rfl rfl
  subst hcA
  have hP : va_P D vwCl [(h0, .inr (0, [.ref (q14), .ref (q21), .null, .null, .null, .null, .ref (q7), .int 0, .int 0, .int 0])), (q7, .inl (cyI, 8, .inl (fun _ => 0))), (q14, .inl (cyI, 200, .inl (fun _ => 0))), (q21, .inl (cyI, 200, .inl (fun _ => 0))), (q28, .inl (cyI, 200, .inl (fun _ => 0)))] H := hP
  have hD : va_D A [(h0, .inr (0, [.ref (q14), .ref (q21), .null, .null, .null, .null, .ref (q7), .int 0, .int 0, .int 0])), (q7, .inl (cyI, 8, .inl (fun _ => 0))), (q14, .inl (cyI, 200, .inl (fun _ => 0))), (q21, .inl (cyI, 200, .inl (fun _ => 0))), (q28, .inl (cyI, 200, .inl (fun _ => 0)))] := hD
  refine W.widen (k := 4) (n := 608) (by decide +kernel) (by decide +kernel) ?_
  refine va_putF (ci := 0) (v := .ref (q28)) (ty := (.array .int)) (C := RX0) (T := TX0) (N := 10) hx hb hts iw_X0 tyX0 tyX0_ok nmX0 hown hK hP hD hS 0 rfl rfl 2 (by decide) (hts (.fieldLink RX0 21 "WalkersSay$Claims" "roundEnd" "[I") q_99b73708) (fun _ h9 => h9) rfl hin rfl (by decide +kernel) rfl rfl (Nat.le_of_ble_eq_true rfl) dX0_init_30 (fun H locs hP hD hS => ?_)
  have hP : va_P D vwCl [(h0, .inr (0, [.ref (q14), .ref (q21), .ref (q28), .null, .null, .null, .ref (q7), .int 0, .int 0, .int 0])), (q7, .inl (cyI, 8, .inl (fun _ => 0))), (q14, .inl (cyI, 200, .inl (fun _ => 0))), (q21, .inl (cyI, 200, .inl (fun _ => 0))), (q28, .inl (cyI, 200, .inl (fun _ => 0)))] H := hP
  have hD : va_D A [(h0, .inr (0, [.ref (q14), .ref (q21), .ref (q28), .null, .null, .null, .ref (q7), .int 0, .int 0, .int 0])), (q7, .inl (cyI, 8, .inl (fun _ => 0))), (q14, .inl (cyI, 200, .inl (fun _ => 0))), (q21, .inl (cyI, 200, .inl (fun _ => 0))), (q28, .inl (cyI, 200, .inl (fun _ => 0)))] := hD
  refine lv_aload_n hx hb dX0_init_33 rfl (lv_at hl 0 rfl) ?_
  refine lv_iload_n hx hb dX0_init_34 rfl (lv_at hl 1 rfl) ?_
  refine va_newa (atype := .int) (ty := .int) (N' := 200) (a0 := (200, .inl (fun _ => 0))) hx hb (hts (.arrayClass .int) q_c201d5c8) rfl hK hP hD hS hA (k_new_int _) (by decide +kernel) (by decide +kernel) (by decide +kernel) (by decide +kernel) (by decide +kernel) dX0_init_35 (fun q35 cA H hK2 hP hD hS => ?_)
  have hcA := k_same hK2 0 4 rfl rfl rfl
  subst hcA
  have hP : va_P D vwCl [(h0, .inr (0, [.ref (q14), .ref (q21), .ref (q28), .null, .null, .null, .ref (q7), .int 0, .int 0, .int 0])), (q7, .inl (cyI, 8, .inl (fun _ => 0))), (q14, .inl (cyI, 200, .inl (fun _ => 0))), (q21, .inl (cyI, 200, .inl (fun _ => 0))), (q28, .inl (cyI, 200, .inl (fun _ => 0))), (q35, .inl (cyI, 200, .inl (fun _ => 0)))] H := hP
  have hD : va_D A [(h0, .inr (0, [.ref (q14), .ref (q21), .ref (q28), .null, .null, .null, .ref (q7), .int 0, .int 0, .int 0])), (q7, .inl (cyI, 8, .inl (fun _ => 0))), (q14, .inl (cyI, 200, .inl (fun _ => 0))), (q21, .inl (cyI, 200, .inl (fun _ => 0))), (q28, .inl (cyI, 200, .inl (fun _ => 0))), (q35, .inl (cyI, 200, .inl (fun _ => 0)))] := hD
  refine W.widen (k := 5) (n := 808) (by decide +kernel) (by decide +kernel) ?_
  refine va_putF (ci := 0) (v := .ref (q35)) (ty := (.array .int)) (C := RX0) (T := TX0) (N := 10) hx hb hts iw_X0 tyX0 tyX0_ok nmX0 hown hK hP hD hS 0 rfl rfl 3 (by decide) (hts (.fieldLink RX0 24 "WalkersSay$Claims" "roundLanes" "[I") q_88ed17d0) (fun _ h9 => h9) rfl hin rfl (by decide +kernel) rfl rfl (Nat.le_of_ble_eq_true rfl) dX0_init_37 (fun H locs hP hD hS => ?_)
  have hP : va_P D vwCl [(h0, .inr (0, [.ref (q14), .ref (q21), .ref (q28), .ref (q35), .null, .null, .ref (q7), .int 0, .int 0, .int 0])), (q7, .inl (cyI, 8, .inl (fun _ => 0))), (q14, .inl (cyI, 200, .inl (fun _ => 0))), (q21, .inl (cyI, 200, .inl (fun _ => 0))), (q28, .inl (cyI, 200, .inl (fun _ => 0))), (q35, .inl (cyI, 200, .inl (fun _ => 0)))] H := hP
  have hD : va_D A [(h0, .inr (0, [.ref (q14), .ref (q21), .ref (q28), .ref (q35), .null, .null, .ref (q7), .int 0, .int 0, .int 0])), (q7, .inl (cyI, 8, .inl (fun _ => 0))), (q14, .inl (cyI, 200, .inl (fun _ => 0))), (q21, .inl (cyI, 200, .inl (fun _ => 0))), (q28, .inl (cyI, 200, .inl (fun _ => 0))), (q35, .inl (cyI, 200, .inl (fun _ => 0)))] := hD
  refine lv_aload_n hx hb dX0_init_40 rfl (lv_at hl 0 rfl) ?_
  refine lv_iload_n hx hb dX0_init_41 rfl (lv_at hl 1 rfl) ?_
  refine va_newa (atype := .int) (ty := .int) (N' := 200) (a0 := (200, .inl (fun _ => 0))) hx hb (hts (.arrayClass .int) q_c201d5c8) rfl hK hP hD hS hA (k_new_int _) (by decide +kernel) (by decide +kernel) (by decide +kernel) (by decide +kernel) (by decide +kernel) dX0_init_42 (fun q42 cA H hK2 hP hD hS => ?_)
  have hcA := k_same hK2 0 4 rfl rfl rfl
  subst hcA
  have hP : va_P D vwCl [(h0, .inr (0, [.ref (q14), .ref (q21), .ref (q28), .ref (q35), .null, .null, .ref (q7), .int 0, .int 0, .int 0])), (q7, .inl (cyI, 8, .inl (fun _ => 0))), (q14, .inl (cyI, 200, .inl (fun _ => 0))), (q21, .inl (cyI, 200, .inl (fun _ => 0))), (q28, .inl (cyI, 200, .inl (fun _ => 0))), (q35, .inl (cyI, 200, .inl (fun _ => 0))), (q42, .inl (cyI, 200, .inl (fun _ => 0)))] H := hP
  have hD : va_D A [(h0, .inr (0, [.ref (q14), .ref (q21), .ref (q28), .ref (q35), .null, .null, .ref (q7), .int 0, .int 0, .int 0])), (q7, .inl (cyI, 8, .inl (fun _ => 0))), (q14, .inl (cyI, 200, .inl (fun _ => 0))), (q21, .inl (cyI, 200, .inl (fun _ => 0))), (q28, .inl (cyI, 200, .inl (fun _ => 0))), (q35, .inl (cyI, 200, .inl (fun _ => 0))), (q42, .inl (cyI, 200, .inl (fun _ => 0)))] := hD
  refine W.widen (k := 6) (n := 1008) (by decide +kernel) (by decide +kernel) ?_
  refine va_putF (ci := 0) (v := .ref (q42)) (ty := (.array .int)) (C := RX0) (T := TX0) (N := 10) hx hb hts iw_X0 tyX0 tyX0_ok nmX0 hown hK hP hD hS 0 rfl rfl 4 (by decide) (hts (.fieldLink RX0 27 "WalkersSay$Claims" "apartOne" "[I") q_e6bb5fcf) (fun _ h9 => h9) rfl hin rfl (by decide +kernel) rfl rfl (Nat.le_of_ble_eq_true rfl) dX0_init_44 (fun H locs hP hD hS => ?_)
  have hP : va_P D vwCl [(h0, .inr (0, [.ref (q14), .ref (q21), .ref (q28), .ref (q35), .ref (q42), .null, .ref (q7), .int 0, .int 0, .int 0])), (q7, .inl (cyI, 8, .inl (fun _ => 0))), (q14, .inl (cyI, 200, .inl (fun _ => 0))), (q21, .inl (cyI, 200, .inl (fun _ => 0))), (q28, .inl (cyI, 200, .inl (fun _ => 0))), (q35, .inl (cyI, 200, .inl (fun _ => 0))), (q42, .inl (cyI, 200, .inl (fun _ => 0)))] H := hP
  have hD : va_D A [(h0, .inr (0, [.ref (q14), .ref (q21), .ref (q28), .ref (q35), .ref (q42), .null, .ref (q7), .int 0, .int 0, .int 0])), (q7, .inl (cyI, 8, .inl (fun _ => 0))), (q14, .inl (cyI, 200, .inl (fun _ => 0))), (q21, .inl (cyI, 200, .inl (fun _ => 0))), (q28, .inl (cyI, 200, .inl (fun _ => 0))), (q35, .inl (cyI, 200, .inl (fun _ => 0))), (q42, .inl (cyI, 200, .inl (fun _ => 0)))] := hD
  refine lv_aload_n hx hb dX0_init_47 rfl (lv_at hl 0 rfl) ?_
  refine lv_iload_n hx hb dX0_init_48 rfl (lv_at hl 1 rfl) ?_
  refine va_newa (atype := .int) (ty := .int) (N' := 200) (a0 := (200, .inl (fun _ => 0))) hx hb (hts (.arrayClass .int) q_c201d5c8) rfl hK hP hD hS hA (k_new_int _) (by decide +kernel) (by decide +kernel) (by decide +kernel) (by decide +kernel) (by decide +kernel) dX0_init_49 (fun q49 cA H hK2 hP hD hS => ?_)
  have hcA := k_same hK2 0 4 rfl rfl rfl
  subst hcA
  have hP : va_P D vwCl [(h0, .inr (0, [.ref (q14), .ref (q21), .ref (q28), .ref (q35), .ref (q42), .null, .ref (q7), .int 0, .int 0, .int 0])), (q7, .inl (cyI, 8, .inl (fun _ => 0))), (q14, .inl (cyI, 200, .inl (fun _ => 0))), (q21, .inl (cyI, 200, .inl (fun _ => 0))), (q28, .inl (cyI, 200, .inl (fun _ => 0))), (q35, .inl (cyI, 200, .inl (fun _ => 0))), (q42, .inl (cyI, 200, .inl (fun _ => 0))), (q49, .inl (cyI, 200, .inl (fun _ => 0)))] H := hP
  have hD : va_D A [(h0, .inr (0, [.ref (q14), .ref (q21), .ref (q28), .ref (q35), .ref (q42), .null, .ref (q7), .int 0, .int 0, .int 0])), (q7, .inl (cyI, 8, .inl (fun _ => 0))), (q14, .inl (cyI, 200, .inl (fun _ => 0))), (q21, .inl (cyI, 200, .inl (fun _ => 0))), (q28, .inl (cyI, 200, .inl (fun _ => 0))), (q35, .inl (cyI, 200, .inl (fun _ => 0))), (q42, .inl (cyI, 200, .inl (fun _ => 0))), (q49, .inl (cyI, 200, .inl (fun _ => 0)))] := hD
  refine W.widen (k := 7) (n := 1208) (by decide +kernel) (by decide +kernel) ?_
  refine va_putF (ci := 0) (v := .ref (q49)) (ty := (.array .int)) (C := RX0) (T := TX0) (N := 10) hx hb hts iw_X0 tyX0 tyX0_ok nmX0 hown hK hP hD hS 0 rfl rfl 5 (by decide) (hts (.fieldLink RX0 30 "WalkersSay$Claims" "apartOther" "[I") q_2222732c) (fun _ h9 => h9) rfl hin rfl (by decide +kernel) rfl rfl (Nat.le_of_ble_eq_true rfl) dX0_init_51 (fun H locs hP hD hS => ?_)
  have hP : va_P D vwCl [(h0, .inr (0, [.ref (q14), .ref (q21), .ref (q28), .ref (q35), .ref (q42), .ref (q49), .ref (q7), .int 0, .int 0, .int 0])), (q7, .inl (cyI, 8, .inl (fun _ => 0))), (q14, .inl (cyI, 200, .inl (fun _ => 0))), (q21, .inl (cyI, 200, .inl (fun _ => 0))), (q28, .inl (cyI, 200, .inl (fun _ => 0))), (q35, .inl (cyI, 200, .inl (fun _ => 0))), (q42, .inl (cyI, 200, .inl (fun _ => 0))), (q49, .inl (cyI, 200, .inl (fun _ => 0)))] H := hP
  have hD : va_D A [(h0, .inr (0, [.ref (q14), .ref (q21), .ref (q28), .ref (q35), .ref (q42), .ref (q49), .ref (q7), .int 0, .int 0, .int 0])), (q7, .inl (cyI, 8, .inl (fun _ => 0))), (q14, .inl (cyI, 200, .inl (fun _ => 0))), (q21, .inl (cyI, 200, .inl (fun _ => 0))), (q28, .inl (cyI, 200, .inl (fun _ => 0))), (q35, .inl (cyI, 200, .inl (fun _ => 0))), (q42, .inl (cyI, 200, .inl (fun _ => 0))), (q49, .inl (cyI, 200, .inl (fun _ => 0)))] := hD
  have hP9 : va_P D vwCl (wnX0_200 cyI cyB cyZ cyT (fun k => ([h0, q14, q21, q28, q35, q42, q49, q7] : List Nat).getD k 0)) H := hP.sub [0, 2, 3, 4, 5, 6, 7, 1] rfl
  have hD9 : va_D A (wnX0_200 cyI cyB cyZ cyT (fun k => ([h0, q14, q21, q28, q35, q42, q49, q7] : List Nat).getD k 0)) := hD.sub [0, 2, 3, 4, 5, 6, 7, 1] (by decide) rfl
  exact W.vret hx hb hr (fun t ht hWm => ⟨⟨(fun k => ([h0, q14, q21, q28, q35, q42, q49, q7] : List Nat).getD k 0), rfl, rfl, by rw [ht]; exact hP9, va_K.moved hWm.alike hK, hD9⟩, hS.F ht⟩) hS.2.2 dX0_init_54
