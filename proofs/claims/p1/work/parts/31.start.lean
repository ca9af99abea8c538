theorem q_f07c817f : (.instantiable RX6 12 : Cond) ∈ kWs := k_in 73 (by decide +kernel) (by decide +kernel)
theorem q_237d8ae3 : (.instantiable RX7 49 : Cond) ∈ kWs := k_in 786 (by decide +kernel) (by decide +kernel)
theorem q_0b5f8b46 : (.classLink RL 7 RX6 : Cond) ∈ kWs := k_in 72 (by decide +kernel) (by decide +kernel)
theorem q_37661d8c : (.code yX6_init cX6_init 2 none : Cond) ∈ kWs := k_in 76 (by decide +kernel) (by decide +kernel)
theorem q_c9c87a7f : (.methodLink RL 9 yX6_init : Cond) ∈ kWs := k_in 74 (by decide +kernel) (by decide +kernel)
theorem q_38bbc6fe : (.instanceMethod yX6_init : Cond) ∈ kWs := k_in 75 (by decide +kernel) (by decide +kernel)
theorem q_e3f9b877 : (.classLink RL 10 RX7 : Cond) ∈ kWs := k_in 785 (by decide +kernel) (by decide +kernel)
theorem q_05e468d1 : (.code yX7_init cX7_init 1 none : Cond) ∈ kWs := k_in 789 (by decide +kernel) (by decide +kernel)
theorem q_2b8c84b9 : (.methodLink RL 12 yX7_init : Cond) ∈ kWs := k_in 787 (by decide +kernel) (by decide +kernel)
theorem q_61caa283 : (.instanceMethod yX7_init : Cond) ∈ kWs := k_in 788 (by decide +kernel) (by decide +kernel)
abbrev iSX0 : SX0 := ((fun _ => 0), (fun _ => 0), (fun _ => 0), (fun _ => 0), (fun _ => 0), (fun _ => 0), (fun _ => 0), 0, 0, 0)
abbrev iSX1 : SX1 := ((fun _ => 0), (fun _ => 0), (fun _ => 0), (fun _ => 0), (fun _ => 0), (fun _ => 0), (fun _ => 0), (fun _ => 0), (fun _ => 0), 0, 0, 0)
abbrev iSX2 : SX2 := ((fun _ => 0), (fun _ => 0), (fun _ => 0), (fun _ => 0), 0, 0)
abbrev iSX3 : SX3 := (fun _ => 0)
abbrev iSX4 : SX4 := ((fun _ => 0), (fun _ => 0), (fun _ => 0), 0, 0)
abbrev iSX5 : SX5 := ((fun _ => 0), (fun _ => 0), (fun _ => 0), (fun _ => 0), (fun _ => 0), (fun _ => 0), (fun _ => 0), (fun _ => 0), (fun _ => 0), (fun _ => 0), 0, 0, 0)
abbrev iSX6 : SX6 := ((fun _ => 0), (fun _ => 0), 0, 0, (-1), 0)
abbrev iSX7_text : SX7_text := (0, (fun _ => 0))
abbrev iSX7_laid : SX7_laid := ((fun _ => 0), (fun _ => 0), (fun _ => 0), 0)
abbrev iSX7_ends : SX7_ends := (0, (fun _ => 0), (fun _ => 0), (fun _ => 0), (fun _ => 0))
abbrev iSX7_due : SX7_due := (0, (fun _ => 0))
abbrev iSX7_rec : SX7_rec := (0, (fun _ => 0), 0, (fun _ => 0), 0, (fun _ => 0), 0, (fun _ => 0), (fun _ => 0))
abbrev iSX7_cor : SX7_cor := ((fun _ => 0), 0)
abbrev iSX7_town : SX7_town := (0, 0, (fun _ => 0), (fun _ => 0), (fun _ => 0), (fun _ => 0), (fun _ => 0), 0, (fun _ => 0), 0, (fun _ => 0), 0, (fun _ => 0))
abbrev iSX7_tmp : SX7_tmp := ((fun _ => 0), (fun _ => 0))
abbrev iSX7_part : SX7_part := ((fun _ => 0), (fun _ => 0))
abbrev iSX7_keep : SX7_keep := ((fun _ => 0), (fun _ => 0), (fun _ => 0), (fun _ => 0), (fun _ => 0))
abbrev iSX7_way : SX7_way := ((fun _ => 0), (fun _ => 0), (fun _ => 0))
def kPure (F L : Nat) (xs : Nat → Int32) : Prop := wL_law_H18 F L xs F 0 iSX6 iSX2 iSX1 iSX4 iSX4 iSX4 iSX3 iSX0 iSX1 iSX4 iSX5 iSX0 iSX1 iSX7_text iSX7_laid iSX7_ends iSX7_due iSX7_rec iSX7_cor iSX7_town iSX7_tmp iSX7_part iSX7_keep iSX7_way
set_option maxHeartbeats 4000000 in
set_option maxRecDepth 100000 in
theorem law_start {p : Program} {e : Env} {s : State} {m : MethodId} {below : List Frame} {meth : Method} {c : Code} (l : Launch) {b L : Nat} {xs : Nat → Int32} (C0 : lw_At p s m meth c b L xs) (F : Nat) (hpure : kPure F L xs) : W p l e room_1 s m #[Value.ref b] below meth c s.heap [] 0 0 (lw_Z below #[Value.ref b] s) (entryFrame m ([Value.ref b] : List Value).toArray 4) := by
  obtain ⟨hx, hb, hr, hml, hown, hts0, hX, hbl, hlocks, hgv⟩ := C0
  have hown : s.vm.findClass RL = some m.cls := hown
  have hts : ∀ w ∈ kWs, w.before #[Value.ref b] s = true := fun w h => hts0 w (List.mem_filter.mp h).1
  have hN : gN s := ⟨va_Nw.of rfl (hts0 (.methodLinkNest RX3 80 yX6_isThing RX6) (List.mem_of_getElem? (i := 465) (by decide +kernel))), va_Nw.of rfl (hts0 (.methodLinkNest RX6 11 yX4_init RX6) (List.mem_of_getElem? (i := 82) (by decide +kernel))), va_Nw.of rfl (hts0 (.methodLinkNest RX6 32 yX3_init RX6) (List.mem_of_getElem? (i := 117) (by decide +kernel))), va_Nw.of rfl (hts0 (.methodLinkNest RX6 39 yX5_init RX6) (List.mem_of_getElem? (i := 236) (by decide +kernel))), va_AO.of (hts0 (.arrayOver (.object RX4)) (List.mem_of_getElem? (i := 114) (by decide +kernel)))⟩
  obtain ⟨c0, i0, hk0⟩ := u_known (C := RX0) (T := TX0) (N := 10) (n := 10) hts iw_X0 (hts (.instantiable RX0 10) q_9e4624bf)
  obtain ⟨c1, i1, hk1⟩ := u_known (C := RX1) (T := TX1) (N := 12) (n := 12) hts iw_X1 (hts (.instantiable RX1 12) q_52dfc6d3)
  obtain ⟨c2, i2, hk2⟩ := u_known (C := RX2) (T := TX2) (N := 8) (n := 8) hts iw_X2 (hts (.instantiable RX2 8) q_f193f557)
  obtain ⟨c3, i3, hk3⟩ := u_known (C := RX3) (T := TX3) (N := 3) (n := 3) hts iw_X3 (hts (.instantiable RX3 3) q_a5226553)
  obtain ⟨c4, i4, hk4⟩ := u_known (C := RX4) (T := TX4) (N := 5) (n := 5) hts iw_X4 (hts (.instantiable RX4 5) q_6e982f1e)
  obtain ⟨c5, i5, hk5⟩ := u_known (C := RX5) (T := TX5) (N := 15) (n := 15) hts iw_X5 (hts (.instantiable RX5 15) q_fd551f81)
  obtain ⟨c6, i6, hk6⟩ := u_known (C := RX6) (T := TX6) (N := 12) (n := 12) hts iw_X6 (hts (.instantiable RX6 12) q_f07c817f)
  obtain ⟨c7, i7, hk7⟩ := u_known (C := RX7) (T := TX7) (N := 49) (n := 49) hts iw_X7 (hts (.instantiable RX7 49) q_237d8ae3)
  obtain ⟨D, hKc⟩ : ∃ D : va_G, ∀ (k : Nat) (q : vw_C), vwCl[k]? = some q → u_Kn s q.1 q.2.1 q.2.2 (D.1 k) (D.2 k) := by
    refine ⟨(fun k => if k = 0 then c0 else if k = 1 then c1 else if k = 2 then c2 else if k = 3 then c3 else if k = 4 then c4 else if k = 5 then c5 else if k = 6 then c6 else c7, fun k => if k = 0 then i0 else if k = 1 then i1 else if k = 2 then i2 else if k = 3 then i3 else if k = 4 then i4 else if k = 5 then i5 else if k = 6 then i6 else i7), ?_⟩
    intro k q hq
    match k, hq with
    | 0, hq => cases hq; exact hk0
    | 1, hq => cases hq; exact hk1
    | 2, hq => cases hq; exact hk2
    | 3, hq => cases hq; exact hk3
    | 4, hq => cases hq; exact hk4
    | 5, hq => cases hq; exact hk5
    | 6, hq => cases hq; exact hk6
    | 7, hq => cases hq; exact hk7
    | k + 8, hq => simp [vwCl] at hq
  obtain ⟨cyI, kI, pI, eI1, eI2, eI3⟩ := Cond.arrayClass_spec (type := .int) (hts (.arrayClass .int) q_c201d5c8)
  obtain ⟨cyB, kB, pB, eB1, eB2, eB3⟩ := Cond.arrayClass_spec (type := .byte) (hts (.arrayClass .byte) q_2871d640)
  obtain ⟨cyZ, kZ, pZ, eZ1, eZ2, eZ3⟩ := Cond.arrayClass_spec (type := .boolean) (hts (.arrayClass .boolean) q_6307cb4f)
  obtain ⟨pT, cyT, kT_, eT1, eT0, eT2, eT3, eT4⟩ := Cond.arrayOver_spec (n := RX4) (hts0 (.arrayOver (.object RX4)) (List.mem_of_getElem? (i := 114) (by decide +kernel)))
  have hK : va_K D vwCl (kTy cyI cyB cyZ cyT) s := by
    refine ⟨hKc, fun k q hq => ?_⟩
    match k, hq with
    | 0, hq => cases hq; exact ⟨fun n z => ⟨fun k h => (by cases h), kI, eI2, pI, eI3⟩, eI1⟩
    | 1, hq => cases hq; exact ⟨fun n z => ⟨fun k h => (by cases h), kB, eB2, pB, eB3⟩, eB1⟩
    | 2, hq => cases hq; exact ⟨fun n z => ⟨fun k h => (by cases h), kZ, eZ2, pZ, eZ3⟩, eZ1⟩
    | 3, hq => cases hq; exact ⟨fun n z => ⟨fun k h => (by cases h), kT_, eT2, pT, eT3⟩, kT_, pT, eT2, eT3, eT1, eT4⟩
    | k + 4, hq => simp [kTy] at hq
  have hbA : ¬ (fun q : Nat => s.heap.size ≤ q) b := Nat.not_le.mpr hbl
  generalize hAe : (fun q : Nat => s.heap.size ≤ q) = A at hbA
  have hA : ∀ q : Nat, s.heap.size ≤ q → A q := fun q h => by rw [← hAe]; exact h
  have hle : ∀ q : Nat, A q → s.heap.size ≤ q := fun q h => by rw [← hAe] at h; exact h
  have hS : va_S A s.heap s.heap [] := va_S.rf
  have hP : va_P D vwCl [] s.heap := fun k q h => by simp at h
  have hD : va_D A [] := ⟨fun i j p q h => by simp at h, fun k q h => by simp at h⟩
  have hl := lv_entry ([.ref b]) (n := 4) (Nat.le_of_ble_eq_true rfl)
  rw [lg_entry_eq]
  generalize (lg_sl ([.ref b]) ++ List.replicate (4 - (lg_sl ([.ref b])).length) Slot.unset).toArray = ls at hl ⊢
  have hl : lv_has ls 4 [(0, .ref b)] := hl
  refine va_new (ci := 6) (fs := [.null, .null, .null, .null, .null, .null, .null, .null, .int 0, .int 0, .int 0, .int 0]) (C := RX6) (T := TX6) (N := 12) hx hb hts iw_X6 tyX6 tyX6_ok hown (hts (.classLink RL 7 RX6) q_0b5f8b46) (hts (.instantiable RX6 12) q_f07c817f) (hts (.initialized RX6) q_37718511) hK hP hD hS hA rfl (fun j hj => by rcases (show j = 0 ∨ j = 1 ∨ j = 2 ∨ j = 3 ∨ j = 4 ∨ j = 5 ∨ j = 6 ∨ j = 7 ∨ j = 8 ∨ j = 9 ∨ j = 10 ∨ j = 11 by omega) with rfl | rfl | rfl | rfl | rfl | rfl | rfl | rfl | rfl | rfl | rfl | rfl <;> rfl) (by decide +kernel) (by decide +kernel) dL_law_0 (fun q0 H hP hD hS => ?_)
  have hP : va_P D vwCl ([] ++ [(q0, .inr (6, [.null, .null, .null, .null, .null, .null, .null, .null, .int 0, .int 0, .int 0, .int 0]))]) H := hP
  have hD : va_D A ([] ++ [(q0, .inr (6, [.null, .null, .null, .null, .null, .null, .null, .null, .int 0, .int 0, .int 0, .int 0]))]) := hD
  refine W.widen (k := 1) (n := 12) (by decide +kernel) (by decide +kernel) ?_
  refine lv_dup hx hb dL_law_3 rfl ?_
  refine kx_I (S := (Nat → Nat) × (Nat → Nat) × (Nat → Nat) × (Nat → Nat) × (Nat → Nat) × (Nat → Nat) × (Nat → Nat) × (Nat → Nat) × (Nat → Nat) × (Nat → Nat) × (Nat → Nat) × (Nat → Nat) × (Nat → Nat)) (mc := 83) (ms := 26556) (As := []) (rest := [.ref q0]) (WR := []) ⟨hx, hb, hml, hown, hts⟩ (ctX6_init l D cyI cyB cyZ cyT q0) (cwI 0 hts (k_gC q_37661d8c) rfl rfl rfl (hts (.initialized RX6) q_37718511) (hts (.methodLink RL 9 yX6_init) q_c9c87a7f) (hts (.instanceMethod yX6_init) q_38bbc6fe) rfl (by decide +kernel) ⟨(by decide +kernel), (by decide +kernel)⟩) hN ⟨hK, hP, hD, hS⟩ hA [0] [] rfl (by decide) rfl (by decide) (by decide) rfl hl.1 rfl (Nat.le_of_ble_eq_true rfl) dL_law_4 ⟨(by decide +kernel), (by decide +kernel)⟩ (fun u H locs hu hW => ?_)
  obtain ⟨a_x, a_x_text, a_x_laid, a_x_tale, a_x_tale_ends, a_x_tale_claims, a_x_town, a_x_town_ends, a_x_town_claims, a_x_joins, a_x_joins_trial, a_x_kept0, a_x_kept1⟩ := u
  have hu : a_x 0 = q0 := hu
  subst hu
  obtain ⟨hK, hP, hD, hS⟩ := hW
  have hP : va_P D vwCl (wnX6 cyI cyB cyZ cyT a_x a_x_text a_x_laid a_x_tale a_x_tale_ends a_x_tale_claims a_x_town a_x_town_ends a_x_town_claims a_x_joins a_x_joins_trial a_x_kept0 a_x_kept1) H := hP
  have hD : va_D A (wnX6 cyI cyB cyZ cyT a_x a_x_text a_x_laid a_x_tale a_x_tale_ends a_x_tale_claims a_x_town a_x_town_ends a_x_town_claims a_x_joins a_x_joins_trial a_x_kept0 a_x_kept1) := hD
  refine W.widen (k := 84) (n := 26568) (by decide +kernel) (by decide +kernel) ?_
  refine lv_astore_n (lv' := [(1, .ref (a_x 0)), (0, .ref b)]) hx hb dL_law_7 rfl hl (by decide) rfl (fun ls hl => ?_)
  refine va_new (ci := 7) (fs := [.int 0, .null, .null, .null, .null, .int 0, .int 0, .null, .null, .null, .null, .int 0, .null, .int 0, .null, .int 0, .null, .int 0, .null, .int 0, .null, .null, .null, .int 0, .int 0, .int 0, .null, .null, .null, .null, .null, .int 0, .null, .int 0, .null, .int 0, .null, .null, .null, .null, .null, .null, .null, .null, .null, .null, .null, .null, .null]) (C := RX7) (T := TX7) (N := 49) hx hb hts iw_X7 tyX7 tyX7_ok hown (hts (.classLink RL 10 RX7) q_e3f9b877) (hts (.instantiable RX7 49) q_237d8ae3) (hts (.initialized RX7) q_ab600d73) hK hP hD hS hA rfl (fun j hj => by rcases (show j = 0 ∨ j = 1 ∨ j = 2 ∨ j = 3 ∨ j = 4 ∨ j = 5 ∨ j = 6 ∨ j = 7 ∨ j = 8 ∨ j = 9 ∨ j = 10 ∨ j = 11 ∨ j = 12 ∨ j = 13 ∨ j = 14 ∨ j = 15 ∨ j = 16 ∨ j = 17 ∨ j = 18 ∨ j = 19 ∨ j = 20 ∨ j = 21 ∨ j = 22 ∨ j = 23 ∨ j = 24 ∨ j = 25 ∨ j = 26 ∨ j = 27 ∨ j = 28 ∨ j = 29 ∨ j = 30 ∨ j = 31 ∨ j = 32 ∨ j = 33 ∨ j = 34 ∨ j = 35 ∨ j = 36 ∨ j = 37 ∨ j = 38 ∨ j = 39 ∨ j = 40 ∨ j = 41 ∨ j = 42 ∨ j = 43 ∨ j = 44 ∨ j = 45 ∨ j = 46 ∨ j = 47 ∨ j = 48 by omega) with rfl | rfl | rfl | rfl | rfl | rfl | rfl | rfl | rfl | rfl | rfl | rfl | rfl | rfl | rfl | rfl | rfl | rfl | rfl | rfl | rfl | rfl | rfl | rfl | rfl | rfl | rfl | rfl | rfl | rfl | rfl | rfl | rfl | rfl | rfl | rfl | rfl | rfl | rfl | rfl | rfl | rfl | rfl | rfl | rfl | rfl | rfl | rfl | rfl <;> rfl) (by decide +kernel) (by decide +kernel) dL_law_8 (fun q8 H hP hD hS => ?_)
  have hP : va_P D vwCl ((wnX6 cyI cyB cyZ cyT a_x a_x_text a_x_laid a_x_tale a_x_tale_ends a_x_tale_claims a_x_town a_x_town_ends a_x_town_claims a_x_joins a_x_joins_trial a_x_kept0 a_x_kept1) ++ [(q8, .inr (7, [.int 0, .null, .null, .null, .null, .int 0, .int 0, .null, .null, .null, .null, .int 0, .null, .int 0, .null, .int 0, .null, .int 0, .null, .int 0, .null, .null, .null, .int 0, .int 0, .int 0, .null, .null, .null, .null, .null, .int 0, .null, .int 0, .null, .int 0, .null, .null, .null, .null, .null, .null, .null, .null, .null, .null, .null, .null, .null]))]) H := hP
  have hD : va_D A ((wnX6 cyI cyB cyZ cyT a_x a_x_text a_x_laid a_x_tale a_x_tale_ends a_x_tale_claims a_x_town a_x_town_ends a_x_town_claims a_x_joins a_x_joins_trial a_x_kept0 a_x_kept1) ++ [(q8, .inr (7, [.int 0, .null, .null, .null, .null, .int 0, .int 0, .null, .null, .null, .null, .int 0, .null, .int 0, .null, .int 0, .null, .int 0, .null, .int 0, .null, .null, .null, .int 0, .int 0, .int 0, .null, .null, .null, .null, .null, .int 0, .null, .int 0, .null, .int 0, .null, .null, .null, .null, .null, .null, .null, .null, .null, .null, .null, .null, .null]))]) := hD
  refine W.widen (k := 85) (n := 26617) (by decide +kernel) (by decide +kernel) ?_
  refine lv_dup hx hb dL_law_11 rfl ?_
  refine kx_I (S := (Nat → Nat)) (mc := 35) (ms := 36560) (As := []) (rest := [.ref q8]) (WR := (wnX6 cyI cyB cyZ cyT a_x a_x_text a_x_laid a_x_tale a_x_tale_ends a_x_tale_claims a_x_town a_x_town_ends a_x_town_claims a_x_joins a_x_joins_trial a_x_kept0 a_x_kept1)) ⟨hx, hb, hml, hown, hts⟩ (ctX7_init l D cyI cyB cyZ cyT q8) (cwI 0 hts (k_gC q_05e468d1) rfl rfl rfl (hts (.initialized RX7) q_ab600d73) (hts (.methodLink RL 12 yX7_init) q_2b8c84b9) (hts (.instanceMethod yX7_init) q_61caa283) rfl (by decide +kernel) ⟨(by decide +kernel), (by decide +kernel)⟩) hN ⟨hK, hP, hD, hS⟩ hA [84] [0, 1, 2, 3, 4, 5, 6, 7, 8, 9, 10, 11, 12, 13, 14, 15, 16, 17, 18, 19, 20, 21, 22, 23, 24, 25, 26, 27, 28, 29, 30, 31, 32, 33, 34, 35, 36, 37, 38, 39, 40, 41, 42, 43, 44, 45, 46, 47, 48, 49, 50, 51, 52, 53, 54, 55, 56, 57, 58, 59, 60, 61, 62, 63, 64, 65, 66, 67, 68, 69, 70, 71, 72, 73, 74, 75, 76, 77, 78, 79, 80, 81, 82, 83] rfl (by decide) rfl (by decide) (by decide) rfl hl.1 rfl (Nat.le_of_ble_eq_true rfl) dL_law_12 ⟨(by decide +kernel), (by decide +kernel)⟩ (fun u H locs hu hW => ?_)
  obtain ⟨a_m, rfl⟩ : ∃ z, z = u := ⟨_, rfl⟩
  have hu : a_m 0 = q8 := hu
  subst hu
  obtain ⟨hK, hP, hD, hS⟩ := hW
  have hP : va_P D vwCl ((wnX6 cyI cyB cyZ cyT a_x a_x_text a_x_laid a_x_tale a_x_tale_ends a_x_tale_claims a_x_town a_x_town_ends a_x_town_claims a_x_joins a_x_joins_trial a_x_kept0 a_x_kept1) ++ wnX7 cyI cyB cyZ cyT a_m) H := hP
  have hD : va_D A ((wnX6 cyI cyB cyZ cyT a_x a_x_text a_x_laid a_x_tale a_x_tale_ends a_x_tale_claims a_x_town a_x_town_ends a_x_town_claims a_x_joins a_x_joins_trial a_x_kept0 a_x_kept1) ++ wnX7 cyI cyB cyZ cyT a_m) := hD
  refine W.widen (k := 120) (n := 63177) (by decide +kernel) (by decide +kernel) ?_
  refine lv_astore_n (lv' := [(2, .ref (a_m 0)), (1, .ref (a_x 0)), (0, .ref b)]) hx hb dL_law_15 rfl hl (by decide) rfl (fun ls hl => ?_)
  refine lv_iconst (v := 0) hx hb dL_law_16 (by decide) ?_
  refine lv_istore_n (lv' := [(3, .int 0), (2, .ref (a_m 0)), (1, .ref (a_x 0)), (0, .ref b)]) hx hb dL_law_17 rfl hl (by decide) rfl (fun ls hl => ?_)
  have hP9 : va_P D vwCl (wdL_law cyI cyB cyZ cyT a_x a_x_text a_x_laid a_x_tale a_x_town a_x_joins a_x_kept0 a_x_kept1 a_x_joins_trial a_x_tale_ends a_x_tale_claims a_x_town_ends a_x_town_claims a_m iSX6 iSX2 iSX1 iSX4 iSX4 iSX4 iSX3 iSX0 iSX1 iSX4 iSX5 iSX0 iSX1 iSX7_text iSX7_laid iSX7_ends iSX7_due iSX7_rec iSX7_cor iSX7_town iSX7_tmp iSX7_part iSX7_keep iSX7_way) H := hP.sub [0, 1, 2, 3, 61, 62, 63, 64, 65, 66, 67, 68, 69, 70, 71, 72, 73, 74, 75, 76, 77, 78, 79, 80, 81, 82, 83, 8, 9, 10, 11, 12, 13, 24, 25, 26, 27, 28, 29, 30, 31, 14, 15, 16, 17, 18, 19, 20, 21, 22, 23, 4, 5, 6, 7, 32, 33, 34, 35, 36, 37, 38, 39, 40, 41, 42, 53, 54, 55, 56, 57, 58, 59, 60, 43, 44, 45, 46, 47, 48, 49, 50, 51, 52, 84, 85, 86, 87, 88, 89, 90, 91, 92, 93, 94, 95, 96, 97, 98, 99, 100, 101, 102, 103, 104, 105, 106, 107, 108, 109, 110, 111, 112, 113, 114, 115, 116, 117, 118, 119] rfl
  have hD9 : va_D A (wdL_law cyI cyB cyZ cyT a_x a_x_text a_x_laid a_x_tale a_x_town a_x_joins a_x_kept0 a_x_kept1 a_x_joins_trial a_x_tale_ends a_x_tale_claims a_x_town_ends a_x_town_claims a_m iSX6 iSX2 iSX1 iSX4 iSX4 iSX4 iSX3 iSX0 iSX1 iSX4 iSX5 iSX0 iSX1 iSX7_text iSX7_laid iSX7_ends iSX7_due iSX7_rec iSX7_cor iSX7_town iSX7_tmp iSX7_part iSX7_keep iSX7_way) := hD.sub [0, 1, 2, 3, 61, 62, 63, 64, 65, 66, 67, 68, 69, 70, 71, 72, 73, 74, 75, 76, 77, 78, 79, 80, 81, 82, 83, 8, 9, 10, 11, 12, 13, 24, 25, 26, 27, 28, 29, 30, 31, 14, 15, 16, 17, 18, 19, 20, 21, 22, 23, 4, 5, 6, 7, 32, 33, 34, 35, 36, 37, 38, 39, 40, 41, 42, 53, 54, 55, 56, 57, 58, 59, 60, 43, 44, 45, 46, 47, 48, 49, 50, 51, 52, 84, 85, 86, 87, 88, 89, 90, 91, 92, 93, 94, 95, 96, 97, 98, 99, 100, 101, 102, 103, 104, 105, 106, 107, 108, 109, 110, 111, 112, 113, 114, 115, 116, 117, 118, 119] (by decide) rfl
  refine W.widen (k := 600000) (n := 7302250) (by decide +kernel) (by decide +kernel) ?_
  exact ctL_law_H18 (F := F) ⟨hx, hb, hr, hts, hown, hml, hlocks, hA, hN, hX, hbl, hbA, hle⟩ F 0 iSX6 iSX2 iSX1 iSX4 iSX4 iSX4 iSX3 iSX0 iSX1 iSX4 iSX5 iSX0 iSX1 iSX7_text iSX7_laid iSX7_ends iSX7_due iSX7_rec iSX7_cor iSX7_town iSX7_tmp iSX7_part iSX7_keep iSX7_way _ _ _ hpure ⟨hK, hP9, hD9, hS⟩ (lv_sub hl [3, 2, 1, 0] rfl)
