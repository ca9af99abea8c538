-- ===== RX1.placesLeft()I
abbrev wdX1_placesLeft (cyI cyB cyZ cyT : ClassId) (a : Nat → Nat) (nE : Nat) (nP : Nat) (g : SX1) : va_W := [(a 0, .inr (1, [.ref (a 1), .ref (a 2), .ref (a 3), .ref (a 4), .ref (a 5), .ref (a 6), .ref (a 7), .ref (a 8), .ref (a 9), .int g.x_used, .int g.x_places, .int g.x_waiting])), (a 1, .inl (cyI, nE, .inl g.x_root)), (a 2, .inl (cyI, nE, .inl g.x_fellow)), (a 3, .inl (cyI, nE, .inl g.x_weight)), (a 4, .inl (cyI, nE, .inl g.x_on)), (a 5, .inl (cyI, nE, .inl g.x_before)), (a 6, .inl (cyI, nE, .inl g.x_mate)), (a 7, .inl (cyI, nE, .inl g.x_home)), (a 8, .inl (cyI, nE, .inl g.x_absorbed)), (a 9, .inl (cyI, nP, .inl g.x_place))]
abbrev rmX1_placesLeft : Room := { frames := 0, cells := 0, slots := 0, locals := 0 }
abbrev qX1_placesLeft (D : va_G) (cyI cyB cyZ cyT : ClassId) (a : Nat → Nat) (nE : Nat) (nP : Nat) (g : SX1) (Q : Int32 → Prop) (A : Nat → Prop) : Array Value → State → Outcome → State → Prop := va_Qi (S := Unit) (fun r _ => Q r) (kB D (kTy cyI cyB cyZ cyT) (fun u : Unit => (wdX1_placesLeft cyI cyB cyZ cyT a  nE nP g)) A) A
def wX1_placesLeft_b4 (nE : Nat) (nP : Nat) (F : Nat) (g : SX1) (Q : Int32 → Prop)  (K_4 : Int32 → Int32 → Prop) (L1 : Int32) (L2 : Int32) : Prop := ((g.x_places ≤ L2 → (Q L1)) ∧ (¬ (g.x_places ≤ L2) → (vp_in L2 nP) ∧ ((¬ (g.x_place L2.toNatClampNeg) = L2 → (K_4 L1 (L2 + 1))) ∧ ((g.x_place L2.toNatClampNeg) = L2 → (K_4 (L1 + 1) (L2 + 1))))))
def wX1_placesLeft_H4 (nE : Nat) (nP : Nat) (F : Nat) (g : SX1) (Q : Int32 → Prop)  : Nat → Int32 → Int32 → Prop
  | 0 => fun _ _ => False
  | n + 1 => fun L1 L2 => wX1_placesLeft_b4 nE nP F g Q (wX1_placesLeft_H4 nE nP F g Q n) L1 L2
def wX1_placesLeft (nE : Nat) (nP : Nat) (F : Nat) (g : SX1) (Q : Int32 → Prop) : Prop := (wX1_placesLeft_H4 nE nP F g Q F (0 : Int32) (0 : Int32))
set_option maxHeartbeats 4000000 in
set_option maxRecDepth 100000 in
theorem ctX1_placesLeft_b4 {p : Program} {l : Launch} {e : Env} {s : State} {m : MethodId} {args : Array Value} {below : List Frame} {meth : Method} {c : Code} {A : Nat → Prop} {D : va_G} {cyI cyB cyZ cyT : ClassId} {a : Nat → Nat} {nE : Nat} {nP : Nat} {F : Nat} {g : SX1} {Q : Int32 → Prop} {K_4 : Int32 → Int32 → Prop} (C0 : kCtx cX1_placesLeft (some .int) RX1 3 p s m args meth c A) (hk_4 : ∀ (L1 : Int32) (L2 : Int32) (H : Heap) (locs : List Loc) (ls : Array Slot), K_4 L1 L2 → kWd D (kTy cyI cyB cyZ cyT) (wdX1_placesLeft cyI cyB cyZ cyT a  nE nP g) A s H locs → lv_has ls 3 [(0, .ref (a 0)), (1, .int L1), (2, .int L2)] → W p l e rmX1_placesLeft s m args below meth c H locs 0 0 (MQ below (qX1_placesLeft D cyI cyB cyZ cyT a nE nP g Q A) args s 0 0 A) (F0 m 4 ls [])) : ∀ (L1 : Int32) (L2 : Int32) (H : Heap) (locs : List Loc) (ls : Array Slot), wX1_placesLeft_b4 nE nP F g Q K_4 L1 L2 → kWd D (kTy cyI cyB cyZ cyT) (wdX1_placesLeft cyI cyB cyZ cyT a  nE nP g) A s H locs → lv_has ls 3 [(0, .ref (a 0)), (1, .int L1), (2, .int L2)] → W p l e rmX1_placesLeft s m args below meth c H locs 0 0 (MQ below (qX1_placesLeft D cyI cyB cyZ cyT a nE nP g Q A) args s 0 0 A) (F0 m 4 ls []) := by
  intro L1 L2 H locs ls hw hW hl
  obtain ⟨hx, hb, hr, hts, hown, hml, hlocks, hA, hN⟩ := id C0
  obtain ⟨hK, hP, hD, hS⟩ := hW
  obtain ⟨x_root, x_fellow, x_weight, x_on, x_before, x_mate, x_home, x_absorbed, x_place, x_used, x_places, x_waiting⟩ := g
  have hP : va_P D vwCl [(a 0, .inr (1, [.ref (a 1), .ref (a 2), .ref (a 3), .ref (a 4), .ref (a 5), .ref (a 6), .ref (a 7), .ref (a 8), .ref (a 9), .int x_used, .int x_places, .int x_waiting])), (a 1, .inl (cyI, nE, .inl x_root)), (a 2, .inl (cyI, nE, .inl x_fellow)), (a 3, .inl (cyI, nE, .inl x_weight)), (a 4, .inl (cyI, nE, .inl x_on)), (a 5, .inl (cyI, nE, .inl x_before)), (a 6, .inl (cyI, nE, .inl x_mate)), (a 7, .inl (cyI, nE, .inl x_home)), (a 8, .inl (cyI, nE, .inl x_absorbed)), (a 9, .inl (cyI, nP, .inl x_place))] H := hP
  have hD : va_D A [(a 0, .inr (1, [.ref (a 1), .ref (a 2), .ref (a 3), .ref (a 4), .ref (a 5), .ref (a 6), .ref (a 7), .ref (a 8), .ref (a 9), .int x_used, .int x_places, .int x_waiting])), (a 1, .inl (cyI, nE, .inl x_root)), (a 2, .inl (cyI, nE, .inl x_fellow)), (a 3, .inl (cyI, nE, .inl x_weight)), (a 4, .inl (cyI, nE, .inl x_on)), (a 5, .inl (cyI, nE, .inl x_before)), (a 6, .inl (cyI, nE, .inl x_mate)), (a 7, .inl (cyI, nE, .inl x_home)), (a 8, .inl (cyI, nE, .inl x_absorbed)), (a 9, .inl (cyI, nP, .inl x_place))] := hD
  refine lv_iload_n hx hb dX1_placesLeft_4 rfl (lv_at hl 2 rfl) ?_
  refine lv_aload_n hx hb dX1_placesLeft_5 rfl (lv_at hl 0 rfl) ?_
  refine va_get (ci := 1) (v := .int x_places) (C := RX1) (T := TX1) (N := 12) hx hb hts iw_X1 hown hK hP 0 rfl rfl 10 (by decide) (hts (.fieldLink RX1 41 "WalkersSay$Ends" "places" "I") q_f5d9bdf5) (fun _ h9 => h9) rfl dX1_placesLeft_6 ?_
  refine lv_icmp_ge (tgt := 31) hx hb dX1_placesLeft_9 (by decide) (fun hc => ?_) (fun hc => ?_)
  · have hw := hw.1 hc
    refine lv_iload_n hx hb dX1_placesLeft_31 rfl (lv_at hl 1 rfl) ?_
    exact W.iret (v := L1) hx hb hr (fun t ht hWm => ⟨⟨L1, (), rfl, hw, by rw [ht]; exact hP, va_K.moved hWm.alike hK, hD⟩, hS.F ht⟩) hS.2.2 dX1_placesLeft_32
  · have hw := hw.2 hc
    refine lv_aload_n hx hb dX1_placesLeft_12 rfl (lv_at hl 0 rfl) ?_
    refine va_get (ci := 1) (v := .ref (a 9)) (C := RX1) (T := TX1) (N := 12) hx hb hts iw_X1 hown hK hP 0 rfl rfl 8 (by decide) (hts (.fieldLink RX1 34 "WalkersSay$Ends" "place" "[I") q_8fd41dec) (fun _ h9 => h9) rfl dX1_placesLeft_13 ?_
    refine lv_iload_n hx hb dX1_placesLeft_16 rfl (lv_at hl 2 rfl) ?_
    obtain ⟨hc0, hw⟩ := hw
    refine va_iald hx hb hK hP 9 0 rfl rfl hc0 dX1_placesLeft_17 ?_
    refine lv_iload_n hx hb dX1_placesLeft_18 rfl (lv_at hl 2 rfl) ?_
    refine lv_icmp_ne (tgt := 25) hx hb dX1_placesLeft_19 (by decide) (fun hc => ?_) (fun hc => ?_)
    · have hw := hw.1 hc
      refine lv_iinc (v := (L2 + 1)) (lv' := [(2, .int (L2 + 1)), (0, .ref (a 0)), (1, .int L1)]) hx hb dX1_placesLeft_25 hl (k := 2) rfl rfl (by decide) rfl (fun ls hl => ?_)
      refine lv_goto (tgt := 4) hx hb dX1_placesLeft_28 (by decide) ?_
      exact hk_4 L1 (L2 + 1) _ _ _ hw ⟨hK, hP, hD, hS⟩ (lv_sub hl [1, 2, 0] rfl)
    · have hw := hw.2 hc
      refine lv_iinc (v := (L1 + 1)) (lv' := [(1, .int (L1 + 1)), (0, .ref (a 0)), (2, .int L2)]) hx hb dX1_placesLeft_22 hl (k := 1) rfl rfl (by decide) rfl (fun ls hl => ?_)
      refine lv_iinc (v := (L2 + 1)) (lv' := [(2, .int (L2 + 1)), (1, .int (L1 + 1)), (0, .ref (a 0))]) hx hb dX1_placesLeft_25 hl (k := 2) rfl rfl (by decide) rfl (fun ls hl => ?_)
      refine lv_goto (tgt := 4) hx hb dX1_placesLeft_28 (by decide) ?_
      exact hk_4 (L1 + 1) (L2 + 1) _ _ _ hw ⟨hK, hP, hD, hS⟩ (lv_sub hl [2, 1, 0] rfl)
theorem ctX1_placesLeft_H4 {p : Program} {l : Launch} {e : Env} {s : State} {m : MethodId} {args : Array Value} {below : List Frame} {meth : Method} {c : Code} {A : Nat → Prop} {D : va_G} {cyI cyB cyZ cyT : ClassId} {a : Nat → Nat} {nE : Nat} {nP : Nat} {F : Nat} {g : SX1} {Q : Int32 → Prop} (C0 : kCtx cX1_placesLeft (some .int) RX1 3 p s m args meth c A) : ∀ n : Nat, ∀ (L1 : Int32) (L2 : Int32) (H : Heap) (locs : List Loc) (ls : Array Slot), wX1_placesLeft_H4 nE nP F g Q n L1 L2 → kWd D (kTy cyI cyB cyZ cyT) (wdX1_placesLeft cyI cyB cyZ cyT a  nE nP g) A s H locs → lv_has ls 3 [(0, .ref (a 0)), (1, .int L1), (2, .int L2)] → W p l e rmX1_placesLeft s m args below meth c H locs 0 0 (MQ below (qX1_placesLeft D cyI cyB cyZ cyT a nE nP g Q A) args s 0 0 A) (F0 m 4 ls []) := by
  intro n
  induction n with
  | zero => intro L1 L2 H locs ls hw hW hl; exact hw.elim
  | succ n ih => intro L1 L2 H locs ls hw hW hl; exact ctX1_placesLeft_b4 (F := F) C0 ih L1 L2 H locs ls hw hW hl
set_option maxHeartbeats 4000000 in
set_option maxRecDepth 100000 in
theorem ctX1_placesLeft (l : Launch) (D : va_G) (cyI cyB cyZ cyT : ClassId) (a : Nat → Nat) (nE : Nat) (nP : Nat) (F : Nat) (g : SX1) (Q : Int32 → Prop) : kMi (S := Unit) l yX1_placesLeft (kM yX1_placesLeft cX1_placesLeft 3 (some .int)) rmX1_placesLeft D (kTy cyI cyB cyZ cyT) [.ref (a 0)] (wdX1_placesLeft cyI cyB cyZ cyT a  nE nP g) (wX1_placesLeft nE nP F g Q) (fun r _ => Q r) (fun u : Unit => (wdX1_placesLeft cyI cyB cyZ cyT a  nE nP g)) := by
  refine kMi.of (cc := cX1_placesLeft) (maxL := 3) (ret := (some .int)) (by decide) (Nat.le_of_ble_eq_true rfl) ?_
  intro p e s m below meth c A C0 hw hW ls hl
  obtain ⟨hx, hb, hr, hts, hown, hml, hlocks, hA, hN⟩ := id C0
  have hown : s.vm.findClass RX1 = some m.cls := hown
  obtain ⟨hK, hP, hD, hS⟩ := hW
  obtain ⟨x_root, x_fellow, x_weight, x_on, x_before, x_mate, x_home, x_absorbed, x_place, x_used, x_places, x_waiting⟩ := g
  have hP : va_P D vwCl [(a 0, .inr (1, [.ref (a 1), .ref (a 2), .ref (a 3), .ref (a 4), .ref (a 5), .ref (a 6), .ref (a 7), .ref (a 8), .ref (a 9), .int x_used, .int x_places, .int x_waiting])), (a 1, .inl (cyI, nE, .inl x_root)), (a 2, .inl (cyI, nE, .inl x_fellow)), (a 3, .inl (cyI, nE, .inl x_weight)), (a 4, .inl (cyI, nE, .inl x_on)), (a 5, .inl (cyI, nE, .inl x_before)), (a 6, .inl (cyI, nE, .inl x_mate)), (a 7, .inl (cyI, nE, .inl x_home)), (a 8, .inl (cyI, nE, .inl x_absorbed)), (a 9, .inl (cyI, nP, .inl x_place))] s.heap := hP
  have hD : va_D A [(a 0, .inr (1, [.ref (a 1), .ref (a 2), .ref (a 3), .ref (a 4), .ref (a 5), .ref (a 6), .ref (a 7), .ref (a 8), .ref (a 9), .int x_used, .int x_places, .int x_waiting])), (a 1, .inl (cyI, nE, .inl x_root)), (a 2, .inl (cyI, nE, .inl x_fellow)), (a 3, .inl (cyI, nE, .inl x_weight)), (a 4, .inl (cyI, nE, .inl x_on)), (a 5, .inl (cyI, nE, .inl x_before)), (a 6, .inl (cyI, nE, .inl x_mate)), (a 7, .inl (cyI, nE, .inl x_home)), (a 8, .inl (cyI, nE, .inl x_absorbed)), (a 9, .inl (cyI, nP, .inl x_place))] := hD
  have hl : lv_has ls 3 [(0, .ref (a 0))] := hl
  refine lv_iconst (v := (0 : Int32)) hx hb dX1_placesLeft_0 (by decide) ?_
  refine lv_istore_n (lv' := [(1, .int (0 : Int32)), (0, .ref (a 0))]) hx hb dX1_placesLeft_1 rfl hl (by decide) rfl (fun ls hl => ?_)
  refine lv_iconst (v := (0 : Int32)) hx hb dX1_placesLeft_2 (by decide) ?_
  refine lv_istore_n (lv' := [(2, .int (0 : Int32)), (1, .int (0 : Int32)), (0, .ref (a 0))]) hx hb dX1_placesLeft_3 rfl hl (by decide) rfl (fun ls hl => ?_)
  exact ctX1_placesLeft_H4 (F := F) C0 F (0 : Int32) (0 : Int32) _ _ _ hw ⟨hK, hP, hD, hS⟩ (lv_sub hl [2, 1, 0] rfl)
