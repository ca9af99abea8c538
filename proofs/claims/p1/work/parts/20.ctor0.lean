theorem k_new_int (N : Nat) : ∀ cA : ClassId, vp_cell cA (N, .inl (fun _ => 0)) = arrV cA N (fun _ => defaultValue .int) := fun _ => rfl
theorem k_new_byte (N : Nat) : ∀ cA : ClassId, vp_cell cA (N, .inl (fun _ => 0)) = arrV cA N (fun _ => defaultValue .byte) := fun _ => rfl
theorem k_new_boolean (N : Nat) : ∀ cA : ClassId, vp_cell cA (N, .inl (fun _ => 0)) = arrV cA N (fun _ => defaultValue .boolean) := fun _ => rfl
abbrev wnX4 (cyI cyB cyZ cyT : ClassId) (a : Nat → Nat) : va_W := [(a 0, .inr (4, [.ref (a 1), .ref (a 2), .ref (a 3), .int 0, .int 0])), (a 1, .inl (cyB, 300, .inl (fun _ => 0))), (a 2, .inl (cyI, 10, .inl (fun _ => 0))), (a 3, .inl (cyI, 9, .inl (fun _ => 0)))]
set_option maxHeartbeats 4000000 in
set_option maxRecDepth 100000 in
theorem ctX4_init (l : Launch) (D : va_G) (cyI cyB cyZ cyT : ClassId) (h0 : Nat) : kMn (S := (Nat → Nat)) l yX4_init (kM yX4_init cX4_init 1 none) ({ frames := 1, cells := 3, slots := 319, locals := 80 } : Room) D (kTy cyI cyB cyZ cyT) [.ref h0] [(h0, .inr (4, [.null, .null, .null, .int 0, .int 0]))] 3 319 (fun u => u 0 = h0) (fun u : (Nat → Nat) => wnX4 cyI cyB cyZ cyT u) := by
  refine kMn.of (cc := cX4_init) (maxL := 1) (ret := none) (by decide) (Nat.le_of_ble_eq_true rfl) ?_
  intro p e s m below meth c A C0 hin hW ls hl
  obtain ⟨hx, hb, hr, hts, hown, hml, hlocks, hA, hN⟩ := id C0
  have hown : s.vm.findClass RX4 = some m.cls := hown
  have hin : meth.name = "<init>" := hin
  obtain ⟨hK, hP, hD, hS⟩ := hW
  have hl : lv_has ls 1 [(0, .ref h0)] := hl
  refine lv_aload_n hx hb dX4_init_0 rfl (lv_at hl 0 rfl) ?_
  refine W.objInit hx hb hown (hts (.methodLink RX4 3 objectInit) q_c35361d8) (hts (.instanceMethod objectInit) q_449f795d) (hts (.code objectInit ⟨#[0xb1]⟩ 1 none) q_679af842) rfl (by rw [hml]; exact hl.1) rfl dX4_init_1 (Nat.le_of_ble_eq_true rfl) (Nat.le_of_ble_eq_true rfl) ?_
  refine W.eq (g2 := F0 m 4 ls []) rfl ?_
  refine lv_aload_n hx hb dX4_init_4 rfl (lv_at hl 0 rfl) ?_
  refine lv_sipush (v := (300 : Int32)) hx hb dX4_init_5 (by decide) ?_
  refine va_newa (atype := .byte) (ty := .byte) (N' := 300) (a0 := (300, .inl (fun _ => 0))) hx hb (hts (.arrayClass .byte) q_2871d640) rfl hK hP hD hS hA (k_new_byte _) (by decide +kernel) (by decide +kernel) (by decide +kernel) (by decide +kernel) (by decide +kernel) dX4_init_8 (fun q8 cA H hK2 hP hD hS => ?_)
  have hcA := k_same hK2 1 4 rfl rfl rfl
  subst hcA
  have hP : va_P D vwCl [(h0, .inr (4, [.null, .null, .null, .int 0, .int 0])), (q8, .inl (cyB, 300, .inl (fun _ => 0)))] H := hP
  have hD : va_D A [(h0, .inr (4, [.null, .null, .null, .int 0, .int 0])), (q8, .inl (cyB, 300, .inl (fun _ => 0)))] := hD
  refine W.widen (k := 1) (n := 300) (by decide +kernel) (by decide +kernel) ?_
  refine va_putF (ci := 4) (v := .ref (q8)) (ty := (.array .byte)) (C := RX4) (T := TX4) (N := 5) hx hb hts iw_X4 tyX4 tyX4_ok nmX4 hown hK hP hD hS 0 rfl rfl 0 (by decide) (hts (.fieldLink RX4 9 "WalkersSay$Text" "bytes" "[B") q_7bb64ea3) (fun _ h9 => h9) rfl hin rfl (by decide +kernel) rfl rfl (Nat.le_of_ble_eq_true rfl) dX4_init_10 (fun H locs hP hD hS => ?_)
  have hP : va_P D vwCl [(h0, .inr (4, [.ref (q8), .null, .null, .int 0, .int 0])), (q8, .inl (cyB, 300, .inl (fun _ => 0)))] H := hP
  have hD : va_D A [(h0, .inr (4, [.ref (q8), .null, .null, .int 0, .int 0])), (q8, .inl (cyB, 300, .inl (fun _ => 0)))] := hD
  refine lv_aload_n hx hb dX4_init_13 rfl (lv_at hl 0 rfl) ?_
  refine lv_bipush (v := (10 : Int32)) hx hb dX4_init_14 (by decide) ?_
  refine va_newa (atype := .int) (ty := .int) (N' := 10) (a0 := (10, .inl (fun _ => 0))) hx hb (hts (.arrayClass .int) q_c201d5c8) rfl hK hP hD hS hA (k_new_int _) (by decide +kernel) (by decide +kernel) (by decide +kernel) (by decide +kernel) (by decide +kernel) dX4_init_16 (fun q16 cA H hK2 hP hD hS => ?_)
  have hcA := k_same hK2 0 4 rfl rfl rfl
  subst hcA
  have hP : va_P D vwCl [(h0, .inr (4, [.ref (q8), .null, .null, .int 0, .int 0])), (q8, .inl (cyB, 300, .inl (fun _ => 0))), (q16, .inl (cyI, 10, .inl (fun _ => 0)))] H := hP
  have hD : va_D A [(h0, .inr (4, [.ref (q8), .null, .null, .int 0, .int 0])), (q8, .inl (cyB, 300, .inl (fun _ => 0))), (q16, .inl (cyI, 10, .inl (fun _ => 0)))] := hD
  refine W.widen (k := 2) (n := 310) (by decide +kernel) (by decide +kernel) ?_
  refine va_putF (ci := 4) (v := .ref (q16)) (ty := (.array .int)) (C := RX4) (T := TX4) (N := 5) hx hb hts iw_X4 tyX4 tyX4_ok nmX4 hown hK hP hD hS 0 rfl rfl 1 (by decide) (hts (.fieldLink RX4 15 "WalkersSay$Text" "start" "[I") q_6987cf1c) (fun _ h9 => h9) rfl hin rfl (by decide +kernel) rfl rfl (Nat.le_of_ble_eq_true rfl) dX4_init_18 (fun H locs hP hD hS => ?_)
  have hP : va_P D vwCl [(h0, .inr (4, [.ref (q8), .ref (q16), .null, .int 0, .int 0])), (q8, .inl (cyB, 300, .inl (fun _ => 0))), (q16, .inl (cyI, 10, .inl (fun _ => 0)))] H := hP
  have hD : va_D A [(h0, .inr (4, [.ref (q8), .ref (q16), .null, .int 0, .int 0])), (q8, .inl (cyB, 300, .inl (fun _ => 0))), (q16, .inl (cyI, 10, .inl (fun _ => 0)))] := hD
  refine lv_aload_n hx hb dX4_init_21 rfl (lv_at hl 0 rfl) ?_
  refine lv_bipush (v := (9 : Int32)) hx hb dX4_init_22 (by decide) ?_
  refine va_newa (atype := .int) (ty := .int) (N' := 9) (a0 := (9, .inl (fun _ => 0))) hx hb (hts (.arrayClass .int) q_c201d5c8) rfl hK hP hD hS hA (k_new_int _) (by decide +kernel) (by decide +kernel) (by decide +kernel) (by decide +kernel) (by decide +kernel) dX4_init_24 (fun q24 cA H hK2 hP hD hS => ?_)
  have hcA := k_same hK2 0 4 rfl rfl rfl
  subst hcA
  have hP : va_P D vwCl [(h0, .inr (4, [.ref (q8), .ref (q16), .null, .int 0, .int 0])), (q8, .inl (cyB, 300, .inl (fun _ => 0))), (q16, .inl (cyI, 10, .inl (fun _ => 0))), (q24, .inl (cyI, 9, .inl (fun _ => 0)))] H := hP
  have hD : va_D A [(h0, .inr (4, [.ref (q8), .ref (q16), .null, .int 0, .int 0])), (q8, .inl (cyB, 300, .inl (fun _ => 0))), (q16, .inl (cyI, 10, .inl (fun _ => 0))), (q24, .inl (cyI, 9, .inl (fun _ => 0)))] := hD
  refine W.widen (k := 3) (n := 319) (by decide +kernel) (by decide +kernel) ?_
  refine va_putF (ci := 4) (v := .ref (q24)) (ty := (.array .int)) (C := RX4) (T := TX4) (N := 5) hx hb hts iw_X4 tyX4 tyX4_ok nmX4 hown hK hP hD hS 0 rfl rfl 2 (by decide) (hts (.fieldLink RX4 19 "WalkersSay$Text" "turnings" "[I") q_4b0606d1) (fun _ h9 => h9) rfl hin rfl (by decide +kernel) rfl rfl (Nat.le_of_ble_eq_true rfl) dX4_init_26 (fun H locs hP hD hS => ?_)
  have hP : va_P D vwCl [(h0, .inr (4, [.ref (q8), .ref (q16), .ref (q24), .int 0, .int 0])), (q8, .inl (cyB, 300, .inl (fun _ => 0))), (q16, .inl (cyI, 10, .inl (fun _ => 0))), (q24, .inl (cyI, 9, .inl (fun _ => 0)))] H := hP
  have hD : va_D A [(h0, .inr (4, [.ref (q8), .ref (q16), .ref (q24), .int 0, .int 0])), (q8, .inl (cyB, 300, .inl (fun _ => 0))), (q16, .inl (cyI, 10, .inl (fun _ => 0))), (q24, .inl (cyI, 9, .inl (fun _ => 0)))] := hD
  have hP9 : va_P D vwCl (wnX4 cyI cyB cyZ cyT (fun k => ([h0, q8, q16, q24] : List Nat).getD k 0)) H := hP.sub [0, 1, 2, 3] rfl
  have hD9 : va_D A (wnX4 cyI cyB cyZ cyT (fun k => ([h0, q8, q16, q24] : List Nat).getD k 0)) := hD.sub [0, 1, 2, 3] (by decide) rfl
  exact W.vret hx hb hr (fun t ht hWm => ⟨⟨(fun k => ([h0, q8, q16, q24] : List Nat).getD k 0), rfl, rfl, by rw [ht]; exact hP9, va_K.moved hWm.alike hK, hD9⟩, hS.F ht⟩) hS.2.2 dX4_init_29
