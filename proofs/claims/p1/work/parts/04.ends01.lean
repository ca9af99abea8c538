-- ===== RX1.unite(II)V
abbrev wdX1_unite (cyI cyB cyZ cyT : ClassId) (a : Nat → Nat) (nE : Nat) (nP : Nat) (g : SX1) : va_W := [(a 0, .inr (1, [.ref (a 1), .ref (a 2), .ref (a 3), .ref (a 4), .ref (a 5), .ref (a 6), .ref (a 7), .ref (a 8), .ref (a 9), .int g.x_used, .int g.x_places, .int g.x_waiting])), (a 1, .inl (cyI, nE, .inl g.x_root)), (a 2, .inl (cyI, nE, .inl g.x_fellow)), (a 3, .inl (cyI, nE, .inl g.x_weight)), (a 4, .inl (cyI, nE, .inl g.x_on)), (a 5, .inl (cyI, nE, .inl g.x_before)), (a 6, .inl (cyI, nE, .inl g.x_mate)), (a 7, .inl (cyI, nE, .inl g.x_home)), (a 8, .inl (cyI, nE, .inl g.x_absorbed)), (a 9, .inl (cyI, nP, .inl g.x_place))]
abbrev rmX1_unite : Room := { frames := 0, cells := 0, slots := 0, locals := 0 }
abbrev qX1_unite (D : va_G) (cyI cyB cyZ cyT : ClassId) (a : Nat → Nat) (nE : Nat) (nP : Nat) (Q : SX1 → Prop) (A : Nat → Prop) : Array Value → State → Outcome → State → Prop := va_Qv (S := SX1) (fun u => Q u) (kB D (kTy cyI cyB cyZ cyT) (fun u : SX1 => (wdX1_unite cyI cyB cyZ cyT a  nE nP u)) A) A
def wX1_unite_b204 (nE : Nat) (nP : Nat) (F : Nat) (Q : SX1 → Prop)  (K_204 : Int32 → Int32 → Int32 → SX1 → Prop) (L7 : Int32) (L8 : Int32) (L9 : Int32) (g : SX1) : Prop := ((g.x_places ≤ L9 → (Q g)) ∧ (¬ (g.x_places ≤ L9) → ((L7 = L8 → (Q g)) ∧ (¬ (L7 = L8) → (vp_in L9 nP) ∧ ((¬ (g.x_place L9.toNatClampNeg) = L7 → (K_204 L7 L8 (L9 + 1) g)) ∧ ((g.x_place L9.toNatClampNeg) = L7 → (vp_in L9 nP) ∧ (K_204 L7 L8 (L9 + 1) (g.x_root, g.x_fellow, g.x_weight, g.x_on, g.x_before, g.x_mate, g.x_home, g.x_absorbed, (upd g.x_place L9.toNatClampNeg L8), g.x_used, g.x_places, g.x_waiting))))))))
def wX1_unite_H204 (nE : Nat) (nP : Nat) (F : Nat) (Q : SX1 → Prop)  : Nat → Int32 → Int32 → Int32 → SX1 → Prop
  | 0 => fun _ _ _ _ => False
  | n + 1 => fun L7 L8 L9 g => wX1_unite_b204 nE nP F Q (wX1_unite_H204 nE nP F Q n) L7 L8 L9 g
def wX1_unite_b72 (nE : Nat) (nP : Nat) (F : Nat) (Q : SX1 → Prop)  (K_72 : Int32 → Int32 → Int32 → Int32 → SX1 → Prop) (L3 : Int32) (L4 : Int32) (L5 : Int32) (L6 : Int32) (g : SX1) : Prop := (vp_in L4 nE) ∧ (((g.x_weight L4.toNatClampNeg) ≤ L6 → (vp_in L3 nE) ∧ (vp_in L4 nE) ∧ (vp_in L3 nE) ∧ (vp_in L4 nE) ∧ (vp_in L3 nE) ∧ (vp_in L4 nE) ∧ (vp_in L3 nE) ∧ (vp_in g.x_waiting nE) ∧ (vp_in L4 nE) ∧ (vp_in (g.x_home L4.toNatClampNeg) nP) ∧ (vp_in L3 nE) ∧ (vp_in (g.x_home L3.toNatClampNeg) nP) ∧ (wX1_unite_H204 nE nP F Q F (g.x_place (g.x_home L4.toNatClampNeg).toNatClampNeg) (g.x_place (g.x_home L3.toNatClampNeg).toNatClampNeg) (0 : Int32) (g.x_root, (upd (upd g.x_fellow L3.toNatClampNeg (g.x_fellow L4.toNatClampNeg)) L4.toNatClampNeg (g.x_fellow L3.toNatClampNeg)), (upd g.x_weight L3.toNatClampNeg ((g.x_weight L3.toNatClampNeg) + (g.x_weight L4.toNatClampNeg))), g.x_on, g.x_before, g.x_mate, g.x_home, (upd g.x_absorbed g.x_waiting.toNatClampNeg L4), g.x_place, g.x_used, g.x_places, (g.x_waiting + (1 : Int32))))) ∧ (¬ ((g.x_weight L4.toNatClampNeg) ≤ L6) → (vp_in L5 nE) ∧ (vp_in L5 nE) ∧ (K_72 L3 L4 (g.x_fellow L5.toNatClampNeg) (L6 + 1) ((upd g.x_root L5.toNatClampNeg L3), g.x_fellow, g.x_weight, g.x_on, g.x_before, g.x_mate, g.x_home, g.x_absorbed, g.x_place, g.x_used, g.x_places, g.x_waiting))))
def wX1_unite_H72 (nE : Nat) (nP : Nat) (F : Nat) (Q : SX1 → Prop)  : Nat → Int32 → Int32 → Int32 → Int32 → SX1 → Prop
  | 0 => fun _ _ _ _ _ => False
  | n + 1 => fun L3 L4 L5 L6 g => wX1_unite_b72 nE nP F Q (wX1_unite_H72 nE nP F Q n) L3 L4 L5 L6 g
def wX1_unite (nE : Nat) (nP : Nat) (F : Nat) (g : SX1) (p1 : Int32) (p2 : Int32) (Q : SX1 → Prop) : Prop := (vp_in p1 nE) ∧ (vp_in p2 nE) ∧ (((g.x_root p1.toNatClampNeg) = (g.x_root p2.toNatClampNeg) → (Q g)) ∧ (¬ ((g.x_root p1.toNatClampNeg) = (g.x_root p2.toNatClampNeg)) → ((g.x_waiting < (Int32.ofNat nE) → (vp_in (g.x_root p1.toNatClampNeg) nE) ∧ (vp_in (g.x_root p2.toNatClampNeg) nE) ∧ (((g.x_weight (g.x_root p2.toNatClampNeg).toNatClampNeg) ≤ (g.x_weight (g.x_root p1.toNatClampNeg).toNatClampNeg) → (wX1_unite_H72 nE nP F Q F (g.x_root p1.toNatClampNeg) (g.x_root p2.toNatClampNeg) (g.x_root p2.toNatClampNeg) (0 : Int32) g)) ∧ (¬ ((g.x_weight (g.x_root p2.toNatClampNeg).toNatClampNeg) ≤ (g.x_weight (g.x_root p1.toNatClampNeg).toNatClampNeg)) → (vp_in p2 nE) ∧ (vp_in p1 nE) ∧ (wX1_unite_H72 nE nP F Q F (g.x_root p2.toNatClampNeg) (g.x_root p1.toNatClampNeg) (g.x_root p1.toNatClampNeg) (0 : Int32) g)))) ∧ (¬ (g.x_waiting < (Int32.ofNat nE)) → (Q g)))))
set_option maxHeartbeats 4000000 in
set_option maxRecDepth 100000 in
theorem ctX1_unite_b204 {p : Program} {l : Launch} {e : Env} {s : State} {m : MethodId} {args : Array Value} {below : List Frame} {meth : Method} {c : Code} {A : Nat → Prop} {D : va_G} {cyI cyB cyZ cyT : ClassId} {a : Nat → Nat} {nE : Nat} {nP : Nat} {F : Nat} {Q : SX1 → Prop} {K_204 : Int32 → Int32 → Int32 → SX1 → Prop} (C0 : kCtx cX1_unite none RX1 10 p s m args meth c A) (hk_204 : ∀ (L7 : Int32) (L8 : Int32) (L9 : Int32) (g : SX1) (H : Heap) (locs : List Loc) (ls : Array Slot), K_204 L7 L8 L9 g → kWd D (kTy cyI cyB cyZ cyT) (wdX1_unite cyI cyB cyZ cyT a  nE nP g) A s H locs → lv_has ls 10 [(0, .ref (a 0)), (7, .int L7), (8, .int L8), (9, .int L9)] → W p l e rmX1_unite s m args below meth c H locs 0 0 (MQ below (qX1_unite D cyI cyB cyZ cyT a nE nP Q A) args s 0 0 A) (F0 m 204 ls [])) : ∀ (L7 : Int32) (L8 : Int32) (L9 : Int32) (g : SX1) (H : Heap) (locs : List Loc) (ls : Array Slot), wX1_unite_b204 nE nP F Q K_204 L7 L8 L9 g → kWd D (kTy cyI cyB cyZ cyT) (wdX1_unite cyI cyB cyZ cyT a  nE nP g) A s H locs → lv_has ls 10 [(0, .ref (a 0)), (7, .int L7), (8, .int L8), (9, .int L9)] → W p l e rmX1_unite s m args below meth c H locs 0 0 (MQ below (qX1_unite D cyI cyB cyZ cyT a nE nP Q A) args s 0 0 A) (F0 m 204 ls []) := by
  intro L7 L8 L9 g H locs ls hw hW hl
  obtain ⟨hx, hb, hr, hts, hown, hml, hlocks, hA, hN⟩ := id C0
  obtain ⟨hK, hP, hD, hS⟩ := hW
  obtain ⟨x_root, x_fellow, x_weight, x_on, x_before, x_mate, x_home, x_absorbed, x_place, x_used, x_places, x_waiting⟩ := g
  have hP : va_P D vwCl [(a 0, .inr (1, [.ref (a 1), .ref (a 2), .ref (a 3), .ref (a 4), .ref (a 5), .ref (a 6), .ref (a 7), .ref (a 8), .ref (a 9), .int x_used, .int x_places, .int x_waiting])), (a 1, .inl (cyI, nE, .inl x_root)), (a 2, .inl (cyI, nE, .inl x_fellow)), (a 3, .inl (cyI, nE, .inl x_weight)), (a 4, .inl (cyI, nE, .inl x_on)), (a 5, .inl (cyI, nE, .inl x_before)), (a 6, .inl (cyI, nE, .inl x_mate)), (a 7, .inl (cyI, nE, .inl x_home)), (a 8, .inl (cyI, nE, .inl x_absorbed)), (a 9, .inl (cyI, nP, .inl x_place))] H := hP
  have hD : va_D A [(a 0, .inr (1, [.ref (a 1), .ref (a 2), .ref (a 3), .ref (a 4), .ref (a 5), .ref (a 6), .ref (a 7), .ref (a 8), .ref (a 9), .int x_used, .int x_places, .int x_waiting])), (a 1, .inl (cyI, nE, .inl x_root)), (a 2, .inl (cyI, nE, .inl x_fellow)), (a 3, .inl (cyI, nE, .inl x_weight)), (a 4, .inl (cyI, nE, .inl x_on)), (a 5, .inl (cyI, nE, .inl x_before)), (a 6, .inl (cyI, nE, .inl x_mate)), (a 7, .inl (cyI, nE, .inl x_home)), (a 8, .inl (cyI, nE, .inl x_absorbed)), (a 9, .inl (cyI, nP, .inl x_place))] := hD
  refine lv_iload hx hb dX1_unite_204 (lv_at hl 3 rfl) ?_
  refine lv_aload_n hx hb dX1_unite_206 rfl (lv_at hl 0 rfl) ?_
  refine va_get (ci := 1) (v := .int x_places) (C := RX1) (T := TX1) (N := 12) hx hb hts iw_X1 hown hK hP 0 rfl rfl 10 (by decide) (hts (.fieldLink RX1 41 "WalkersSay$Ends" "places" "I") q_f5d9bdf5) (fun _ h9 => h9) rfl dX1_unite_207 ?_
  refine lv_icmp_ge (tgt := 247) hx hb dX1_unite_210 (by decide) (fun hc => ?_) (fun hc => ?_)
  · have hw := hw.1 hc
    exact W.vret hx hb hr (fun t ht hWm => ⟨⟨(x_root, x_fellow, x_weight, x_on, x_before, x_mate, x_home, x_absorbed, x_place, x_used, x_places, x_waiting), rfl, hw, by rw [ht]; exact hP, va_K.moved hWm.alike hK, hD⟩, hS.F ht⟩) hS.2.2 dX1_unite_247
  · have hw := hw.2 hc
    refine lv_iload hx hb dX1_unite_213 (lv_at hl 1 rfl) ?_
    refine lv_iload hx hb dX1_unite_215 (lv_at hl 2 rfl) ?_
    refine lv_icmp_eq (tgt := 247) hx hb dX1_unite_217 (by decide) (fun hc => ?_) (fun hc => ?_)
    · have hw := hw.1 hc
      exact W.vret hx hb hr (fun t ht hWm => ⟨⟨(x_root, x_fellow, x_weight, x_on, x_before, x_mate, x_home, x_absorbed, x_place, x_used, x_places, x_waiting), rfl, hw, by rw [ht]; exact hP, va_K.moved hWm.alike hK, hD⟩, hS.F ht⟩) hS.2.2 dX1_unite_247
    · have hw := hw.2 hc
      refine lv_aload_n hx hb dX1_unite_220 rfl (lv_at hl 0 rfl) ?_
      refine va_get (ci := 1) (v := .ref (a 9)) (C := RX1) (T := TX1) (N := 12) hx hb hts iw_X1 hown hK hP 0 rfl rfl 8 (by decide) (hts (.fieldLink RX1 34 "WalkersSay$Ends" "place" "[I") q_8fd41dec) (fun _ h9 => h9) rfl dX1_unite_221 ?_
      refine lv_iload hx hb dX1_unite_224 (lv_at hl 3 rfl) ?_
      obtain ⟨hc0, hw⟩ := hw
      refine va_iald hx hb hK hP 9 0 rfl rfl hc0 dX1_unite_226 ?_
      refine lv_iload hx hb dX1_unite_227 (lv_at hl 1 rfl) ?_
      refine lv_icmp_ne (tgt := 241) hx hb dX1_unite_229 (by decide) (fun hc => ?_) (fun hc => ?_)
      · have hw := hw.1 hc
        refine lv_iinc (v := (L9 + 1)) (lv' := [(9, .int (L9 + 1)), (0, .ref (a 0)), (7, .int L7), (8, .int L8)]) hx hb dX1_unite_241 hl (k := 3) rfl rfl (by decide) rfl (fun ls hl => ?_)
        refine lv_goto (tgt := 204) hx hb dX1_unite_244 (by decide) ?_
        exact hk_204 L7 L8 (L9 + 1) (x_root, x_fellow, x_weight, x_on, x_before, x_mate, x_home, x_absorbed, x_place, x_used, x_places, x_waiting) _ _ _ hw ⟨hK, hP, hD, hS⟩ (lv_sub hl [1, 2, 3, 0] rfl)
      · have hw := hw.2 hc
        refine lv_aload_n hx hb dX1_unite_232 rfl (lv_at hl 0 rfl) ?_
        refine va_get (ci := 1) (v := .ref (a 9)) (C := RX1) (T := TX1) (N := 12) hx hb hts iw_X1 hown hK hP 0 rfl rfl 8 (by decide) (hts (.fieldLink RX1 34 "WalkersSay$Ends" "place" "[I") q_8fd41dec) (fun _ h9 => h9) rfl dX1_unite_233 ?_
        refine lv_iload hx hb dX1_unite_236 (lv_at hl 3 rfl) ?_
        refine lv_iload hx hb dX1_unite_238 (lv_at hl 2 rfl) ?_
        obtain ⟨hc0, hw⟩ := hw
        refine va_iast hx hb hK hP hD hS 9 0 rfl rfl hc0 dX1_unite_240 (fun H locs hP hD hS => ?_)
        have hP : va_P D vwCl [(a 0, .inr (1, [.ref (a 1), .ref (a 2), .ref (a 3), .ref (a 4), .ref (a 5), .ref (a 6), .ref (a 7), .ref (a 8), .ref (a 9), .int x_used, .int x_places, .int x_waiting])), (a 1, .inl (cyI, nE, .inl x_root)), (a 2, .inl (cyI, nE, .inl x_fellow)), (a 3, .inl (cyI, nE, .inl x_weight)), (a 4, .inl (cyI, nE, .inl x_on)), (a 5, .inl (cyI, nE, .inl x_before)), (a 6, .inl (cyI, nE, .inl x_mate)), (a 7, .inl (cyI, nE, .inl x_home)), (a 8, .inl (cyI, nE, .inl x_absorbed)), (a 9, .inl (cyI, nP, .inl (upd x_place L9.toNatClampNeg L8)))] H := hP
        have hD : va_D A [(a 0, .inr (1, [.ref (a 1), .ref (a 2), .ref (a 3), .ref (a 4), .ref (a 5), .ref (a 6), .ref (a 7), .ref (a 8), .ref (a 9), .int x_used, .int x_places, .int x_waiting])), (a 1, .inl (cyI, nE, .inl x_root)), (a 2, .inl (cyI, nE, .inl x_fellow)), (a 3, .inl (cyI, nE, .inl x_weight)), (a 4, .inl (cyI, nE, .inl x_on)), (a 5, .inl (cyI, nE, .inl x_before)), (a 6, .inl (cyI, nE, .inl x_mate)), (a 7, .inl (cyI, nE, .inl x_home)), (a 8, .inl (cyI, nE, .inl x_absorbed)), (a 9, .inl (cyI, nP, .inl (upd x_place L9.toNatClampNeg L8)))] := hD
        refine lv_iinc (v := (L9 + 1)) (lv' := [(9, .int (L9 + 1)), (0, .ref (a 0)), (7, .int L7), (8, .int L8)]) hx hb dX1_unite_241 hl (k := 3) rfl rfl (by decide) rfl (fun ls hl => ?_)
        refine lv_goto (tgt := 204) hx hb dX1_unite_244 (by decide) ?_
        exact hk_204 L7 L8 (L9 + 1) (x_root, x_fellow, x_weight, x_on, x_before, x_mate, x_home, x_absorbed, (upd x_place L9.toNatClampNeg L8), x_used, x_places, x_waiting) _ _ _ hw ⟨hK, hP, hD, hS⟩ (lv_sub hl [1, 2, 3, 0] rfl)
theorem ctX1_unite_H204 {p : Program} {l : Launch} {e : Env} {s : State} {m : MethodId} {args : Array Value} {below : List Frame} {meth : Method} {c : Code} {A : Nat → Prop} {D : va_G} {cyI cyB cyZ cyT : ClassId} {a : Nat → Nat} {nE : Nat} {nP : Nat} {F : Nat} {Q : SX1 → Prop} (C0 : kCtx cX1_unite none RX1 10 p s m args meth c A) : ∀ n : Nat, ∀ (L7 : Int32) (L8 : Int32) (L9 : Int32) (g : SX1) (H : Heap) (locs : List Loc) (ls : Array Slot), wX1_unite_H204 nE nP F Q n L7 L8 L9 g → kWd D (kTy cyI cyB cyZ cyT) (wdX1_unite cyI cyB cyZ cyT a  nE nP g) A s H locs → lv_has ls 10 [(0, .ref (a 0)), (7, .int L7), (8, .int L8), (9, .int L9)] → W p l e rmX1_unite s m args below meth c H locs 0 0 (MQ below (qX1_unite D cyI cyB cyZ cyT a nE nP Q A) args s 0 0 A) (F0 m 204 ls []) := by
  intro n
  induction n with
  | zero => intro L7 L8 L9 g H locs ls hw hW hl; exact hw.elim
  | succ n ih => intro L7 L8 L9 g H locs ls hw hW hl; exact ctX1_unite_b204 (F := F) C0 ih L7 L8 L9 g H locs ls hw hW hl
set_option maxHeartbeats 4000000 in
set_option maxRecDepth 100000 in
theorem ctX1_unite_b72 {p : Program} {l : Launch} {e : Env} {s : State} {m : MethodId} {args : Array Value} {below : List Frame} {meth : Method} {c : Code} {A : Nat → Prop} {D : va_G} {cyI cyB cyZ cyT : ClassId} {a : Nat → Nat} {nE : Nat} {nP : Nat} {F : Nat} {Q : SX1 → Prop} {K_72 : Int32 → Int32 → Int32 → Int32 → SX1 → Prop} (C0 : kCtx cX1_unite none RX1 10 p s m args meth c A) (hk_72 : ∀ (L3 : Int32) (L4 : Int32) (L5 : Int32) (L6 : Int32) (g : SX1) (H : Heap) (locs : List Loc) (ls : Array Slot), K_72 L3 L4 L5 L6 g → kWd D (kTy cyI cyB cyZ cyT) (wdX1_unite cyI cyB cyZ cyT a  nE nP g) A s H locs → lv_has ls 10 [(0, .ref (a 0)), (3, .int L3), (4, .int L4), (5, .int L5), (6, .int L6)] → W p l e rmX1_unite s m args below meth c H locs 0 0 (MQ below (qX1_unite D cyI cyB cyZ cyT a nE nP Q A) args s 0 0 A) (F0 m 72 ls [])) : ∀ (L3 : Int32) (L4 : Int32) (L5 : Int32) (L6 : Int32) (g : SX1) (H : Heap) (locs : List Loc) (ls : Array Slot), wX1_unite_b72 nE nP F Q K_72 L3 L4 L5 L6 g → kWd D (kTy cyI cyB cyZ cyT) (wdX1_unite cyI cyB cyZ cyT a  nE nP g) A s H locs → lv_has ls 10 [(0, .ref (a 0)), (3, .int L3), (4, .int L4), (5, .int L5), (6, .int L6)] → W p l e rmX1_unite s m args below meth c H locs 0 0 (MQ below (qX1_unite D cyI cyB cyZ cyT a nE nP Q A) args s 0 0 A) (F0 m 72 ls []) := by
  intro L3 L4 L5 L6 g H locs ls hw hW hl
  obtain ⟨hx, hb, hr, hts, hown, hml, hlocks, hA, hN⟩ := id C0
  obtain ⟨hK, hP, hD, hS⟩ := hW
  obtain ⟨x_root, x_fellow, x_weight, x_on, x_before, x_mate, x_home, x_absorbed, x_place, x_used, x_places, x_waiting⟩ := g
  have hP : va_P D vwCl [(a 0, .inr (1, [.ref (a 1), .ref (a 2), .ref (a 3), .ref (a 4), .ref (a 5), .ref (a 6), .ref (a 7), .ref (a 8), .ref (a 9), .int x_used, .int x_places, .int x_waiting])), (a 1, .inl (cyI, nE, .inl x_root)), (a 2, .inl (cyI, nE, .inl x_fellow)), (a 3, .inl (cyI, nE, .inl x_weight)), (a 4, .inl (cyI, nE, .inl x_on)), (a 5, .inl (cyI, nE, .inl x_before)), (a 6, .inl (cyI, nE, .inl x_mate)), (a 7, .inl (cyI, nE, .inl x_home)), (a 8, .inl (cyI, nE, .inl x_absorbed)), (a 9, .inl (cyI, nP, .inl x_place))] H := hP
  have hD : va_D A [(a 0, .inr (1, [.ref (a 1), .ref (a 2), .ref (a 3), .ref (a 4), .ref (a 5), .ref (a 6), .ref (a 7), .ref (a 8), .ref (a 9), .int x_used, .int x_places, .int x_waiting])), (a 1, .inl (cyI, nE, .inl x_root)), (a 2, .inl (cyI, nE, .inl x_fellow)), (a 3, .inl (cyI, nE, .inl x_weight)), (a 4, .inl (cyI, nE, .inl x_on)), (a 5, .inl (cyI, nE, .inl x_before)), (a 6, .inl (cyI, nE, .inl x_mate)), (a 7, .inl (cyI, nE, .inl x_home)), (a 8, .inl (cyI, nE, .inl x_absorbed)), (a 9, .inl (cyI, nP, .inl x_place))] := hD
  refine lv_iload hx hb dX1_unite_72 (lv_at hl 4 rfl) ?_
  refine lv_aload_n hx hb dX1_unite_74 rfl (lv_at hl 0 rfl) ?_
  refine va_get (ci := 1) (v := .ref (a 3)) (C := RX1) (T := TX1) (N := 12) hx hb hts iw_X1 hown hK hP 0 rfl rfl 2 (by decide) (hts (.fieldLink RX1 16 "WalkersSay$Ends" "weight" "[I") q_5bbfaf9a) (fun _ h9 => h9) rfl dX1_unite_75 ?_
  refine lv_iload hx hb dX1_unite_78 (lv_at hl 2 rfl) ?_
  obtain ⟨hc0, hw⟩ := hw
  refine va_iald hx hb hK hP 3 0 rfl rfl hc0 dX1_unite_80 ?_
  refine lv_icmp_ge (tgt := 107) hx hb dX1_unite_81 (by decide) (fun hc => ?_) (fun hc => ?_)
  · have hw := hw.1 hc
    refine lv_aload_n hx hb dX1_unite_107 rfl (lv_at hl 0 rfl) ?_
    refine va_get (ci := 1) (v := .ref (a 2)) (C := RX1) (T := TX1) (N := 12) hx hb hts iw_X1 hown hK hP 0 rfl rfl 1 (by decide) (hts (.fieldLink RX1 13 "WalkersSay$Ends" "fellow" "[I") q_b6b08e49) (fun _ h9 => h9) rfl dX1_unite_108 ?_
    refine lv_iload_n hx hb dX1_unite_111 rfl (lv_at hl 1 rfl) ?_
    obtain ⟨hc0, hw⟩ := hw
    refine va_iald hx hb hK hP 2 0 rfl rfl hc0 dX1_unite_112 ?_
    refine lv_istore (lv' := [(6, .int (x_fellow L3.toNatClampNeg)), (0, .ref (a 0)), (3, .int L3), (4, .int L4), (5, .int L5)]) hx hb dX1_unite_113 hl (by decide) rfl (fun ls hl => ?_)
    refine lv_aload_n hx hb dX1_unite_115 rfl (lv_at hl 1 rfl) ?_
    refine va_get (ci := 1) (v := .ref (a 2)) (C := RX1) (T := TX1) (N := 12) hx hb hts iw_X1 hown hK hP 0 rfl rfl 1 (by decide) (hts (.fieldLink RX1 13 "WalkersSay$Ends" "fellow" "[I") q_b6b08e49) (fun _ h9 => h9) rfl dX1_unite_116 ?_
    refine lv_iload_n hx hb dX1_unite_119 rfl (lv_at hl 2 rfl) ?_
    refine lv_aload_n hx hb dX1_unite_120 rfl (lv_at hl 1 rfl) ?_
    refine va_get (ci := 1) (v := .ref (a 2)) (C := RX1) (T := TX1) (N := 12) hx hb hts iw_X1 hown hK hP 0 rfl rfl 1 (by decide) (hts (.fieldLink RX1 13 "WalkersSay$Ends" "fellow" "[I") q_b6b08e49) (fun _ h9 => h9) rfl dX1_unite_121 ?_
    refine lv_iload hx hb dX1_unite_124 (lv_at hl 3 rfl) ?_
    obtain ⟨hc0, hw⟩ := hw
    refine va_iald hx hb hK hP 2 0 rfl rfl hc0 dX1_unite_126 ?_
    obtain ⟨hc0, hw⟩ := hw
    refine va_iast hx hb hK hP hD hS 2 0 rfl rfl hc0 dX1_unite_127 (fun H locs hP hD hS => ?_)
    have hP : va_P D vwCl [(a 0, .inr (1, [.ref (a 1), .ref (a 2), .ref (a 3), .ref (a 4), .ref (a 5), .ref (a 6), .ref (a 7), .ref (a 8), .ref (a 9), .int x_used, .int x_places, .int x_waiting])), (a 1, .inl (cyI, nE, .inl x_root)), (a 2, .inl (cyI, nE, .inl (upd x_fellow L3.toNatClampNeg (x_fellow L4.toNatClampNeg)))), (a 3, .inl (cyI, nE, .inl x_weight)), (a 4, .inl (cyI, nE, .inl x_on)), (a 5, .inl (cyI, nE, .inl x_before)), (a 6, .inl (cyI, nE, .inl x_mate)), (a 7, .inl (cyI, nE, .inl x_home)), (a 8, .inl (cyI, nE, .inl x_absorbed)), (a 9, .inl (cyI, nP, .inl x_place))] H := hP
    have hD : va_D A [(a 0, .inr (1, [.ref (a 1), .ref (a 2), .ref (a 3), .ref (a 4), .ref (a 5), .ref (a 6), .ref (a 7), .ref (a 8), .ref (a 9), .int x_used, .int x_places, .int x_waiting])), (a 1, .inl (cyI, nE, .inl x_root)), (a 2, .inl (cyI, nE, .inl (upd x_fellow L3.toNatClampNeg (x_fellow L4.toNatClampNeg)))), (a 3, .inl (cyI, nE, .inl x_weight)), (a 4, .inl (cyI, nE, .inl x_on)), (a 5, .inl (cyI, nE, .inl x_before)), (a 6, .inl (cyI, nE, .inl x_mate)), (a 7, .inl (cyI, nE, .inl x_home)), (a 8, .inl (cyI, nE, .inl x_absorbed)), (a 9, .inl (cyI, nP, .inl x_place))] := hD
    refine lv_aload_n hx hb dX1_unite_128 rfl (lv_at hl 1 rfl) ?_
    refine va_get (ci := 1) (v := .ref (a 2)) (C := RX1) (T := TX1) (N := 12) hx hb hts iw_X1 hown hK hP 0 rfl rfl 1 (by decide) (hts (.fieldLink RX1 13 "WalkersSay$Ends" "fellow" "[I") q_b6b08e49) (fun _ h9 => h9) rfl dX1_unite_129 ?_
    refine lv_iload hx hb dX1_unite_132 (lv_at hl 3 rfl) ?_
    refine lv_iload hx hb dX1_unite_134 (lv_at hl 0 rfl) ?_
    obtain ⟨hc0, hw⟩ := hw
    refine va_iast hx hb hK hP hD hS 2 0 rfl rfl hc0 dX1_unite_136 (fun H locs hP hD hS => ?_)
    have hP : va_P D vwCl [(a 0, .inr (1, [.ref (a 1), .ref (a 2), .ref (a 3), .ref (a 4), .ref (a 5), .ref (a 6), .ref (a 7), .ref (a 8), .ref (a 9), .int x_used, .int x_places, .int x_waiting])), (a 1, .inl (cyI, nE, .inl x_root)), (a 2, .inl (cyI, nE, .inl (upd (upd x_fellow L3.toNatClampNeg (x_fellow L4.toNatClampNeg)) L4.toNatClampNeg (x_fellow L3.toNatClampNeg)))), (a 3, .inl (cyI, nE, .inl x_weight)), (a 4, .inl (cyI, nE, .inl x_on)), (a 5, .inl (cyI, nE, .inl x_before)), (a 6, .inl (cyI, nE, .inl x_mate)), (a 7, .inl (cyI, nE, .inl x_home)), (a 8, .inl (cyI, nE, .inl x_absorbed)), (a 9, .inl (cyI, nP, .inl x_place))] H := hP
    have hD : va_D A [(a 0, .inr (1, [.ref (a 1), .ref (a 2), .ref (a 3), .ref (a 4), .ref (a 5), .ref (a 6), .ref (a 7), .ref (a 8), .ref (a 9), .int x_used, .int x_places, .int x_waiting])), (a 1, .inl (cyI, nE, .inl x_root)), (a 2, .inl (cyI, nE, .inl (upd (upd x_fellow L3.toNatClampNeg (x_fellow L4.toNatClampNeg)) L4.toNatClampNeg (x_fellow L3.toNatClampNeg)))), (a 3, .inl (cyI, nE, .inl x_weight)), (a 4, .inl (cyI, nE, .inl x_on)), (a 5, .inl (cyI, nE, .inl x_before)), (a 6, .inl (cyI, nE, .inl x_mate)), (a 7, .inl (cyI, nE, .inl x_home)), (a 8, .inl (cyI, nE, .inl x_absorbed)), (a 9, .inl (cyI, nP, .inl x_place))] := hD
    refine lv_aload_n hx hb dX1_unite_137 rfl (lv_at hl 1 rfl) ?_
    refine va_get (ci := 1) (v := .ref (a 3)) (C := RX1) (T := TX1) (N := 12) hx hb hts iw_X1 hown hK hP 0 rfl rfl 2 (by decide) (hts (.fieldLink RX1 16 "WalkersSay$Ends" "weight" "[I") q_5bbfaf9a) (fun _ h9 => h9) rfl dX1_unite_138 ?_
    refine lv_iload_n hx hb dX1_unite_141 rfl (lv_at hl 2 rfl) ?_
    refine lv_dup2_11 hx hb dX1_unite_142 rfl rfl ?_
    obtain ⟨hc0, hw⟩ := hw
    refine va_iald hx hb hK hP 3 0 rfl rfl hc0 dX1_unite_143 ?_
    refine lv_aload_n hx hb dX1_unite_144 rfl (lv_at hl 1 rfl) ?_
    refine va_get (ci := 1) (v := .ref (a 3)) (C := RX1) (T := TX1) (N := 12) hx hb hts iw_X1 hown hK hP 0 rfl rfl 2 (by decide) (hts (.fieldLink RX1 16 "WalkersSay$Ends" "weight" "[I") q_5bbfaf9a) (fun _ h9 => h9) rfl dX1_unite_145 ?_
    refine lv_iload hx hb dX1_unite_148 (lv_at hl 3 rfl) ?_
    obtain ⟨hc0, hw⟩ := hw
    refine va_iald hx hb hK hP 3 0 rfl rfl hc0 dX1_unite_150 ?_
    refine lv_iadd hx hb dX1_unite_151 ?_
    obtain ⟨hc0, hw⟩ := hw
    refine va_iast hx hb hK hP hD hS 3 0 rfl rfl hc0 dX1_unite_152 (fun H locs hP hD hS => ?_)
    have hP : va_P D vwCl [(a 0, .inr (1, [.ref (a 1), .ref (a 2), .ref (a 3), .ref (a 4), .ref (a 5), .ref (a 6), .ref (a 7), .ref (a 8), .ref (a 9), .int x_used, .int x_places, .int x_waiting])), (a 1, .inl (cyI, nE, .inl x_root)), (a 2, .inl (cyI, nE, .inl (upd (upd x_fellow L3.toNatClampNeg (x_fellow L4.toNatClampNeg)) L4.toNatClampNeg (x_fellow L3.toNatClampNeg)))), (a 3, .inl (cyI, nE, .inl (upd x_weight L3.toNatClampNeg ((x_weight L3.toNatClampNeg) + (x_weight L4.toNatClampNeg))))), (a 4, .inl (cyI, nE, .inl x_on)), (a 5, .inl (cyI, nE, .inl x_before)), (a 6, .inl (cyI, nE, .inl x_mate)), (a 7, .inl (cyI, nE, .inl x_home)), (a 8, .inl (cyI, nE, .inl x_absorbed)), (a 9, .inl (cyI, nP, .inl x_place))] H := hP
    have hD : va_D A [(a 0, .inr (1, [.ref (a 1), .ref (a 2), .ref (a 3), .ref (a 4), .ref (a 5), .ref (a 6), .ref (a 7), .ref (a 8), .ref (a 9), .int x_used, .int x_places, .int x_waiting])), (a 1, .inl (cyI, nE, .inl x_root)), (a 2, .inl (cyI, nE, .inl (upd (upd x_fellow L3.toNatClampNeg (x_fellow L4.toNatClampNeg)) L4.toNatClampNeg (x_fellow L3.toNatClampNeg)))), (a 3, .inl (cyI, nE, .inl (upd x_weight L3.toNatClampNeg ((x_weight L3.toNatClampNeg) + (x_weight L4.toNatClampNeg))))), (a 4, .inl (cyI, nE, .inl x_on)), (a 5, .inl (cyI, nE, .inl x_before)), (a 6, .inl (cyI, nE, .inl x_mate)), (a 7, .inl (cyI, nE, .inl x_home)), (a 8, .inl (cyI, nE, .inl x_absorbed)), (a 9, .inl (cyI, nP, .inl x_place))] := hD
    refine lv_aload_n hx hb dX1_unite_153 rfl (lv_at hl 1 rfl) ?_
    refine va_get (ci := 1) (v := .ref (a 8)) (C := RX1) (T := TX1) (N := 12) hx hb hts iw_X1 hown hK hP 0 rfl rfl 7 (by decide) (hts (.fieldLink RX1 31 "WalkersSay$Ends" "absorbed" "[I") q_0696e176) (fun _ h9 => h9) rfl dX1_unite_154 ?_
    refine lv_aload_n hx hb dX1_unite_157 rfl (lv_at hl 1 rfl) ?_
    refine va_get (ci := 1) (v := .int x_waiting) (C := RX1) (T := TX1) (N := 12) hx hb hts iw_X1 hown hK hP 0 rfl rfl 11 (by decide) (hts (.fieldLink RX1 44 "WalkersSay$Ends" "waiting" "I") q_752eca0e) (fun _ h9 => h9) rfl dX1_unite_158 ?_
    refine lv_iload hx hb dX1_unite_161 (lv_at hl 3 rfl) ?_
    obtain ⟨hc0, hw⟩ := hw
    refine va_iast hx hb hK hP hD hS 8 0 rfl rfl hc0 dX1_unite_163 (fun H locs hP hD hS => ?_)
    have hP : va_P D vwCl [(a 0, .inr (1, [.ref (a 1), .ref (a 2), .ref (a 3), .ref (a 4), .ref (a 5), .ref (a 6), .ref (a 7), .ref (a 8), .ref (a 9), .int x_used, .int x_places, .int x_waiting])), (a 1, .inl (cyI, nE, .inl x_root)), (a 2, .inl (cyI, nE, .inl (upd (upd x_fellow L3.toNatClampNeg (x_fellow L4.toNatClampNeg)) L4.toNatClampNeg (x_fellow L3.toNatClampNeg)))), (a 3, .inl (cyI, nE, .inl (upd x_weight L3.toNatClampNeg ((x_weight L3.toNatClampNeg) + (x_weight L4.toNatClampNeg))))), (a 4, .inl (cyI, nE, .inl x_on)), (a 5, .inl (cyI, nE, .inl x_before)), (a 6, .inl (cyI, nE, .inl x_mate)), (a 7, .inl (cyI, nE, .inl x_home)), (a 8, .inl (cyI, nE, .inl (upd x_absorbed x_waiting.toNatClampNeg L4))), (a 9, .inl (cyI, nP, .inl x_place))] H := hP
    have hD : va_D A [(a 0, .inr (1, [.ref (a 1), .ref (a 2), .ref (a 3), .ref (a 4), .ref (a 5), .ref (a 6), .ref (a 7), .ref (a 8), .ref (a 9), .int x_used, .int x_places, .int x_waiting])), (a 1, .inl (cyI, nE, .inl x_root)), (a 2, .inl (cyI, nE, .inl (upd (upd x_fellow L3.toNatClampNeg (x_fellow L4.toNatClampNeg)) L4.toNatClampNeg (x_fellow L3.toNatClampNeg)))), (a 3, .inl (cyI, nE, .inl (upd x_weight L3.toNatClampNeg ((x_weight L3.toNatClampNeg) + (x_weight L4.toNatClampNeg))))), (a 4, .inl (cyI, nE, .inl x_on)), (a 5, .inl (cyI, nE, .inl x_before)), (a 6, .inl (cyI, nE, .inl x_mate)), (a 7, .inl (cyI, nE, .inl x_home)), (a 8, .inl (cyI, nE, .inl (upd x_absorbed x_waiting.toNatClampNeg L4))), (a 9, .inl (cyI, nP, .inl x_place))] := hD
    refine lv_aload_n hx hb dX1_unite_164 rfl (lv_at hl 1 rfl) ?_
    refine lv_dup hx hb dX1_unite_165 rfl ?_
    refine va_get (ci := 1) (v := .int x_waiting) (C := RX1) (T := TX1) (N := 12) hx hb hts iw_X1 hown hK hP 0 rfl rfl 11 (by decide) (hts (.fieldLink RX1 44 "WalkersSay$Ends" "waiting" "I") q_752eca0e) (fun _ h9 => h9) rfl dX1_unite_166 ?_
    refine lv_iconst (v := (1 : Int32)) hx hb dX1_unite_169 (by decide) ?_
    refine lv_iadd hx hb dX1_unite_170 ?_
    refine va_put (ci := 1) (v := .int (x_waiting + (1 : Int32))) (ty := .int) (C := RX1) (T := TX1) (N := 12) hx hb hts iw_X1 tyX1 tyX1_ok nmX1 hown hK hP hD hS 0 rfl rfl 11 (by decide) (hts (.fieldLink RX1 44 "WalkersSay$Ends" "waiting" "I") q_752eca0e) (fun _ h9 => h9) rfl (by decide +kernel) rfl rfl (Nat.le_of_ble_eq_true rfl) dX1_unite_171 (fun H locs hP hD hS => ?_)
    have hP : va_P D vwCl [(a 0, .inr (1, [.ref (a 1), .ref (a 2), .ref (a 3), .ref (a 4), .ref (a 5), .ref (a 6), .ref (a 7), .ref (a 8), .ref (a 9), .int x_used, .int x_places, .int (x_waiting + (1 : Int32))])), (a 1, .inl (cyI, nE, .inl x_root)), (a 2, .inl (cyI, nE, .inl (upd (upd x_fellow L3.toNatClampNeg (x_fellow L4.toNatClampNeg)) L4.toNatClampNeg (x_fellow L3.toNatClampNeg)))), (a 3, .inl (cyI, nE, .inl (upd x_weight L3.toNatClampNeg ((x_weight L3.toNatClampNeg) + (x_weight L4.toNatClampNeg))))), (a 4, .inl (cyI, nE, .inl x_on)), (a 5, .inl (cyI, nE, .inl x_before)), (a 6, .inl (cyI, nE, .inl x_mate)), (a 7, .inl (cyI, nE, .inl x_home)), (a 8, .inl (cyI, nE, .inl (upd x_absorbed x_waiting.toNatClampNeg L4))), (a 9, .inl (cyI, nP, .inl x_place))] H := hP
    have hD : va_D A [(a 0, .inr (1, [.ref (a 1), .ref (a 2), .ref (a 3), .ref (a 4), .ref (a 5), .ref (a 6), .ref (a 7), .ref (a 8), .ref (a 9), .int x_used, .int x_places, .int (x_waiting + (1 : Int32))])), (a 1, .inl (cyI, nE, .inl x_root)), (a 2, .inl (cyI, nE, .inl (upd (upd x_fellow L3.toNatClampNeg (x_fellow L4.toNatClampNeg)) L4.toNatClampNeg (x_fellow L3.toNatClampNeg)))), (a 3, .inl (cyI, nE, .inl (upd x_weight L3.toNatClampNeg ((x_weight L3.toNatClampNeg) + (x_weight L4.toNatClampNeg))))), (a 4, .inl (cyI, nE, .inl x_on)), (a 5, .inl (cyI, nE, .inl x_before)), (a 6, .inl (cyI, nE, .inl x_mate)), (a 7, .inl (cyI, nE, .inl x_home)), (a 8, .inl (cyI, nE, .inl (upd x_absorbed x_waiting.toNatClampNeg L4))), (a 9, .inl (cyI, nP, .inl x_place))] := hD
    refine lv_aload_n hx hb dX1_unite_174 rfl (lv_at hl 1 rfl) ?_
    refine va_get (ci := 1) (v := .ref (a 9)) (C := RX1) (T := TX1) (N := 12) hx hb hts iw_X1 hown hK hP 0 rfl rfl 8 (by decide) (hts (.fieldLink RX1 34 "WalkersSay$Ends" "place" "[I") q_8fd41dec) (fun _ h9 => h9) rfl dX1_unite_175 ?_
    refine lv_aload_n hx hb dX1_unite_178 rfl (lv_at hl 1 rfl) ?_
    refine va_get (ci := 1) (v := .ref (a 7)) (C := RX1) (T := TX1) (N := 12) hx hb hts iw_X1 hown hK hP 0 rfl rfl 6 (by decide) (hts (.fieldLink RX1 28 "WalkersSay$Ends" "home" "[I") q_3d1e39c2) (fun _ h9 => h9) rfl dX1_unite_179 ?_
    refine lv_iload hx hb dX1_unite_182 (lv_at hl 3 rfl) ?_
    obtain ⟨hc0, hw⟩ := hw
    refine va_iald hx hb hK hP 7 0 rfl rfl hc0 dX1_unite_184 ?_
    obtain ⟨hc0, hw⟩ := hw
    refine va_iald hx hb hK hP 9 0 rfl rfl hc0 dX1_unite_185 ?_
    refine lv_istore (lv' := [(7, .int (x_place (x_home L4.toNatClampNeg).toNatClampNeg)), (6, .int (x_fellow L3.toNatClampNeg)), (0, .ref (a 0)), (3, .int L3), (4, .int L4), (5, .int L5)]) hx hb dX1_unite_186 hl (by decide) rfl (fun ls hl => ?_)
    refine lv_aload_n hx hb dX1_unite_188 rfl (lv_at hl 2 rfl) ?_
    refine va_get (ci := 1) (v := .ref (a 9)) (C := RX1) (T := TX1) (N := 12) hx hb hts iw_X1 hown hK hP 0 rfl rfl 8 (by decide) (hts (.fieldLink RX1 34 "WalkersSay$Ends" "place" "[I") q_8fd41dec) (fun _ h9 => h9) rfl dX1_unite_189 ?_
    refine lv_aload_n hx hb dX1_unite_192 rfl (lv_at hl 2 rfl) ?_
    refine va_get (ci := 1) (v := .ref (a 7)) (C := RX1) (T := TX1) (N := 12) hx hb hts iw_X1 hown hK hP 0 rfl rfl 6 (by decide) (hts (.fieldLink RX1 28 "WalkersSay$Ends" "home" "[I") q_3d1e39c2) (fun _ h9 => h9) rfl dX1_unite_193 ?_
    refine lv_iload_n hx hb dX1_unite_196 rfl (lv_at hl 3 rfl) ?_
    obtain ⟨hc0, hw⟩ := hw
    refine va_iald hx hb hK hP 7 0 rfl rfl hc0 dX1_unite_197 ?_
    obtain ⟨hc0, hw⟩ := hw
    refine va_iald hx hb hK hP 9 0 rfl rfl hc0 dX1_unite_198 ?_
    refine lv_istore (lv' := [(8, .int (x_place (x_home L3.toNatClampNeg).toNatClampNeg)), (7, .int (x_place (x_home L4.toNatClampNeg).toNatClampNeg)), (6, .int (x_fellow L3.toNatClampNeg)), (0, .ref (a 0)), (3, .int L3), (4, .int L4), (5, .int L5)]) hx hb dX1_unite_199 hl (by decide) rfl (fun ls hl => ?_)
    refine lv_iconst (v := (0 : Int32)) hx hb dX1_unite_201 (by decide) ?_
    refine lv_istore (lv' := [(9, .int (0 : Int32)), (8, .int (x_place (x_home L3.toNatClampNeg).toNatClampNeg)), (7, .int (x_place (x_home L4.toNatClampNeg).toNatClampNeg)), (6, .int (x_fellow L3.toNatClampNeg)), (0, .ref (a 0)), (3, .int L3), (4, .int L4), (5, .int L5)]) hx hb dX1_unite_202 hl (by decide) rfl (fun ls hl => ?_)
    exact ctX1_unite_H204 (F := F) C0 F (x_place (x_home L4.toNatClampNeg).toNatClampNeg) (x_place (x_home L3.toNatClampNeg).toNatClampNeg) (0 : Int32) (x_root, (upd (upd x_fellow L3.toNatClampNeg (x_fellow L4.toNatClampNeg)) L4.toNatClampNeg (x_fellow L3.toNatClampNeg)), (upd x_weight L3.toNatClampNeg ((x_weight L3.toNatClampNeg) + (x_weight L4.toNatClampNeg))), x_on, x_before, x_mate, x_home, (upd x_absorbed x_waiting.toNatClampNeg L4), x_place, x_used, x_places, (x_waiting + (1 : Int32))) _ _ _ hw ⟨hK, hP, hD, hS⟩ (lv_sub hl [4, 2, 1, 0] rfl)
  · have hw := hw.2 hc
    refine lv_aload_n hx hb dX1_unite_84 rfl (lv_at hl 0 rfl) ?_
    refine va_get (ci := 1) (v := .ref (a 1)) (C := RX1) (T := TX1) (N := 12) hx hb hts iw_X1 hown hK hP 0 rfl rfl 0 (by decide) (hts (.fieldLink RX1 7 "WalkersSay$Ends" "root" "[I") q_8d8e92ef) (fun _ h9 => h9) rfl dX1_unite_85 ?_
    refine lv_iload hx hb dX1_unite_88 (lv_at hl 3 rfl) ?_
    refine lv_iload_n hx hb dX1_unite_90 rfl (lv_at hl 1 rfl) ?_
    obtain ⟨hc0, hw⟩ := hw
    refine va_iast hx hb hK hP hD hS 1 0 rfl rfl hc0 dX1_unite_91 (fun H locs hP hD hS => ?_)
    have hP : va_P D vwCl [(a 0, .inr (1, [.ref (a 1), .ref (a 2), .ref (a 3), .ref (a 4), .ref (a 5), .ref (a 6), .ref (a 7), .ref (a 8), .ref (a 9), .int x_used, .int x_places, .int x_waiting])), (a 1, .inl (cyI, nE, .inl (upd x_root L5.toNatClampNeg L3))), (a 2, .inl (cyI, nE, .inl x_fellow)), (a 3, .inl (cyI, nE, .inl x_weight)), (a 4, .inl (cyI, nE, .inl x_on)), (a 5, .inl (cyI, nE, .inl x_before)), (a 6, .inl (cyI, nE, .inl x_mate)), (a 7, .inl (cyI, nE, .inl x_home)), (a 8, .inl (cyI, nE, .inl x_absorbed)), (a 9, .inl (cyI, nP, .inl x_place))] H := hP
    have hD : va_D A [(a 0, .inr (1, [.ref (a 1), .ref (a 2), .ref (a 3), .ref (a 4), .ref (a 5), .ref (a 6), .ref (a 7), .ref (a 8), .ref (a 9), .int x_used, .int x_places, .int x_waiting])), (a 1, .inl (cyI, nE, .inl (upd x_root L5.toNatClampNeg L3))), (a 2, .inl (cyI, nE, .inl x_fellow)), (a 3, .inl (cyI, nE, .inl x_weight)), (a 4, .inl (cyI, nE, .inl x_on)), (a 5, .inl (cyI, nE, .inl x_before)), (a 6, .inl (cyI, nE, .inl x_mate)), (a 7, .inl (cyI, nE, .inl x_home)), (a 8, .inl (cyI, nE, .inl x_absorbed)), (a 9, .inl (cyI, nP, .inl x_place))] := hD
    refine lv_aload_n hx hb dX1_unite_92 rfl (lv_at hl 0 rfl) ?_
    refine va_get (ci := 1) (v := .ref (a 2)) (C := RX1) (T := TX1) (N := 12) hx hb hts iw_X1 hown hK hP 0 rfl rfl 1 (by decide) (hts (.fieldLink RX1 13 "WalkersSay$Ends" "fellow" "[I") q_b6b08e49) (fun _ h9 => h9) rfl dX1_unite_93 ?_
    refine lv_iload hx hb dX1_unite_96 (lv_at hl 3 rfl) ?_
    obtain ⟨hc0, hw⟩ := hw
    refine va_iald hx hb hK hP 2 0 rfl rfl hc0 dX1_unite_98 ?_
    refine lv_istore (lv' := [(5, .int (x_fellow L5.toNatClampNeg)), (0, .ref (a 0)), (3, .int L3), (4, .int L4), (6, .int L6)]) hx hb dX1_unite_99 hl (by decide) rfl (fun ls hl => ?_)
    refine lv_iinc (v := (L6 + 1)) (lv' := [(6, .int (L6 + 1)), (5, .int (x_fellow L5.toNatClampNeg)), (0, .ref (a 0)), (3, .int L3), (4, .int L4)]) hx hb dX1_unite_101 hl (k := 4) rfl rfl (by decide) rfl (fun ls hl => ?_)
    refine lv_goto (tgt := 72) hx hb dX1_unite_104 (by decide) ?_
    exact hk_72 L3 L4 (x_fellow L5.toNatClampNeg) (L6 + 1) ((upd x_root L5.toNatClampNeg L3), x_fellow, x_weight, x_on, x_before, x_mate, x_home, x_absorbed, x_place, x_used, x_places, x_waiting) _ _ _ hw ⟨hK, hP, hD, hS⟩ (lv_sub hl [2, 3, 4, 1, 0] rfl)
theorem ctX1_unite_H72 {p : Program} {l : Launch} {e : Env} {s : State} {m : MethodId} {args : Array Value} {below : List Frame} {meth : Method} {c : Code} {A : Nat → Prop} {D : va_G} {cyI cyB cyZ cyT : ClassId} {a : Nat → Nat} {nE : Nat} {nP : Nat} {F : Nat} {Q : SX1 → Prop} (C0 : kCtx cX1_unite none RX1 10 p s m args meth c A) : ∀ n : Nat, ∀ (L3 : Int32) (L4 : Int32) (L5 : Int32) (L6 : Int32) (g : SX1) (H : Heap) (locs : List Loc) (ls : Array Slot), wX1_unite_H72 nE nP F Q n L3 L4 L5 L6 g → kWd D (kTy cyI cyB cyZ cyT) (wdX1_unite cyI cyB cyZ cyT a  nE nP g) A s H locs → lv_has ls 10 [(0, .ref (a 0)), (3, .int L3), (4, .int L4), (5, .int L5), (6, .int L6)] → W p l e rmX1_unite s m args below meth c H locs 0 0 (MQ below (qX1_unite D cyI cyB cyZ cyT a nE nP Q A) args s 0 0 A) (F0 m 72 ls []) := by
  intro n
  induction n with
  | zero => intro L3 L4 L5 L6 g H locs ls hw hW hl; exact hw.elim
  | succ n ih => intro L3 L4 L5 L6 g H locs ls hw hW hl; exact ctX1_unite_b72 (F := F) C0 ih L3 L4 L5 L6 g H locs ls hw hW hl
set_option maxHeartbeats 4000000 in
set_option maxRecDepth 100000 in
theorem ctX1_unite (l : Launch) (D : va_G) (cyI cyB cyZ cyT : ClassId) (a : Nat → Nat) (nE : Nat) (nP : Nat) (F : Nat) (g : SX1) (p1 : Int32) (p2 : Int32) (Q : SX1 → Prop) : kMv (S := SX1) l yX1_unite (kM yX1_unite cX1_unite 10 none) rmX1_unite D (kTy cyI cyB cyZ cyT) [.ref (a 0), .int p1, .int p2] (wdX1_unite cyI cyB cyZ cyT a  nE nP g) (wX1_unite nE nP F g p1 p2 Q) (fun u => Q u) (fun u : SX1 => (wdX1_unite cyI cyB cyZ cyT a  nE nP u)) := by
  refine kMv.of (cc := cX1_unite) (maxL := 10) (ret := none) (by decide) (Nat.le_of_ble_eq_true rfl) ?_
  intro p e s m below meth c A C0 hw hW ls hl
  obtain ⟨hx, hb, hr, hts, hown, hml, hlocks, hA, hN⟩ := id C0
  have hown : s.vm.findClass RX1 = some m.cls := hown
  obtain ⟨hK, hP, hD, hS⟩ := hW
  obtain ⟨x_root, x_fellow, x_weight, x_on, x_before, x_mate, x_home, x_absorbed, x_place, x_used, x_places, x_waiting⟩ := g
  have hP : va_P D vwCl [(a 0, .inr (1, [.ref (a 1), .ref (a 2), .ref (a 3), .ref (a 4), .ref (a 5), .ref (a 6), .ref (a 7), .ref (a 8), .ref (a 9), .int x_used, .int x_places, .int x_waiting])), (a 1, .inl (cyI, nE, .inl x_root)), (a 2, .inl (cyI, nE, .inl x_fellow)), (a 3, .inl (cyI, nE, .inl x_weight)), (a 4, .inl (cyI, nE, .inl x_on)), (a 5, .inl (cyI, nE, .inl x_before)), (a 6, .inl (cyI, nE, .inl x_mate)), (a 7, .inl (cyI, nE, .inl x_home)), (a 8, .inl (cyI, nE, .inl x_absorbed)), (a 9, .inl (cyI, nP, .inl x_place))] s.heap := hP
  have hD : va_D A [(a 0, .inr (1, [.ref (a 1), .ref (a 2), .ref (a 3), .ref (a 4), .ref (a 5), .ref (a 6), .ref (a 7), .ref (a 8), .ref (a 9), .int x_used, .int x_places, .int x_waiting])), (a 1, .inl (cyI, nE, .inl x_root)), (a 2, .inl (cyI, nE, .inl x_fellow)), (a 3, .inl (cyI, nE, .inl x_weight)), (a 4, .inl (cyI, nE, .inl x_on)), (a 5, .inl (cyI, nE, .inl x_before)), (a 6, .inl (cyI, nE, .inl x_mate)), (a 7, .inl (cyI, nE, .inl x_home)), (a 8, .inl (cyI, nE, .inl x_absorbed)), (a 9, .inl (cyI, nP, .inl x_place))] := hD
  have hl : lv_has ls 10 [(0, .ref (a 0)), (1, .int p1), (2, .int p2)] := hl
  refine lv_aload_n hx hb dX1_unite_0 rfl (lv_at hl 0 rfl) ?_
  refine va_get (ci := 1) (v := .ref (a 1)) (C := RX1) (T := TX1) (N := 12) hx hb hts iw_X1 hown hK hP 0 rfl rfl 0 (by decide) (hts (.fieldLink RX1 7 "WalkersSay$Ends" "root" "[I") q_8d8e92ef) (fun _ h9 => h9) rfl dX1_unite_1 ?_
  refine lv_iload_n hx hb dX1_unite_4 rfl (lv_at hl 1 rfl) ?_
  obtain ⟨hc0, hw⟩ := hw
  refine va_iald hx hb hK hP 1 0 rfl rfl hc0 dX1_unite_5 ?_
  refine lv_istore_n (lv' := [(3, .int (x_root p1.toNatClampNeg)), (0, .ref (a 0)), (1, .int p1), (2, .int p2)]) hx hb dX1_unite_6 rfl hl (by decide) rfl (fun ls hl => ?_)
  refine lv_aload_n hx hb dX1_unite_7 rfl (lv_at hl 1 rfl) ?_
  refine va_get (ci := 1) (v := .ref (a 1)) (C := RX1) (T := TX1) (N := 12) hx hb hts iw_X1 hown hK hP 0 rfl rfl 0 (by decide) (hts (.fieldLink RX1 7 "WalkersSay$Ends" "root" "[I") q_8d8e92ef) (fun _ h9 => h9) rfl dX1_unite_8 ?_
  refine lv_iload_n hx hb dX1_unite_11 rfl (lv_at hl 3 rfl) ?_
  obtain ⟨hc0, hw⟩ := hw
  refine va_iald hx hb hK hP 1 0 rfl rfl hc0 dX1_unite_12 ?_
  refine lv_istore (lv' := [(4, .int (x_root p2.toNatClampNeg)), (3, .int (x_root p1.toNatClampNeg)), (0, .ref (a 0)), (1, .int p1), (2, .int p2)]) hx hb dX1_unite_13 hl (by decide) rfl (fun ls hl => ?_)
  refine lv_iload_n hx hb dX1_unite_15 rfl (lv_at hl 1 rfl) ?_
  refine lv_iload hx hb dX1_unite_16 (lv_at hl 0 rfl) ?_
  refine lv_icmp_eq (tgt := 33) hx hb dX1_unite_18 (by decide) (fun hc => ?_) (fun hc => ?_)
  · have hw := hw.1 hc
    exact W.vret hx hb hr (fun t ht hWm => ⟨⟨(x_root, x_fellow, x_weight, x_on, x_before, x_mate, x_home, x_absorbed, x_place, x_used, x_places, x_waiting), rfl, hw, by rw [ht]; exact hP, va_K.moved hWm.alike hK, hD⟩, hS.F ht⟩) hS.2.2 dX1_unite_33
  · have hw := hw.2 hc
    refine lv_aload_n hx hb dX1_unite_21 rfl (lv_at hl 2 rfl) ?_
    refine va_get (ci := 1) (v := .int x_waiting) (C := RX1) (T := TX1) (N := 12) hx hb hts iw_X1 hown hK hP 0 rfl rfl 11 (by decide) (hts (.fieldLink RX1 44 "WalkersSay$Ends" "waiting" "I") q_752eca0e) (fun _ h9 => h9) rfl dX1_unite_22 ?_
    refine lv_aload_n hx hb dX1_unite_25 rfl (lv_at hl 2 rfl) ?_
    refine va_get (ci := 1) (v := .ref (a 8)) (C := RX1) (T := TX1) (N := 12) hx hb hts iw_X1 hown hK hP 0 rfl rfl 7 (by decide) (hts (.fieldLink RX1 31 "WalkersSay$Ends" "absorbed" "[I") q_0696e176) (fun _ h9 => h9) rfl dX1_unite_26 ?_
    refine va_alen hx hb hK hP 8 0 rfl rfl rfl dX1_unite_29 ?_
    refine lv_icmp_lt (tgt := 34) hx hb dX1_unite_30 (by decide) (fun hc => ?_) (fun hc => ?_)
    · have hw := hw.1 hc
      refine lv_aload_n hx hb dX1_unite_34 rfl (lv_at hl 2 rfl) ?_
      refine va_get (ci := 1) (v := .ref (a 3)) (C := RX1) (T := TX1) (N := 12) hx hb hts iw_X1 hown hK hP 0 rfl rfl 2 (by decide) (hts (.fieldLink RX1 16 "WalkersSay$Ends" "weight" "[I") q_5bbfaf9a) (fun _ h9 => h9) rfl dX1_unite_35 ?_
      refine lv_iload_n hx hb dX1_unite_38 rfl (lv_at hl 1 rfl) ?_
      obtain ⟨hc0, hw⟩ := hw
      refine va_iald hx hb hK hP 3 0 rfl rfl hc0 dX1_unite_39 ?_
      refine lv_aload_n hx hb dX1_unite_40 rfl (lv_at hl 2 rfl) ?_
      refine va_get (ci := 1) (v := .ref (a 3)) (C := RX1) (T := TX1) (N := 12) hx hb hts iw_X1 hown hK hP 0 rfl rfl 2 (by decide) (hts (.fieldLink RX1 16 "WalkersSay$Ends" "weight" "[I") q_5bbfaf9a) (fun _ h9 => h9) rfl dX1_unite_41 ?_
      refine lv_iload hx hb dX1_unite_44 (lv_at hl 0 rfl) ?_
      obtain ⟨hc0, hw⟩ := hw
      refine va_iald hx hb hK hP 3 0 rfl rfl hc0 dX1_unite_46 ?_
      refine lv_icmp_ge (tgt := 65) hx hb dX1_unite_47 (by decide) (fun hc => ?_) (fun hc => ?_)
      · have hw := hw.1 hc
        refine lv_iload hx hb dX1_unite_65 (lv_at hl 0 rfl) ?_
        refine lv_istore (lv' := [(5, .int (x_root p2.toNatClampNeg)), (4, .int (x_root p2.toNatClampNeg)), (3, .int (x_root p1.toNatClampNeg)), (0, .ref (a 0)), (1, .int p1), (2, .int p2)]) hx hb dX1_unite_67 hl (by decide) rfl (fun ls hl => ?_)
        refine lv_iconst (v := (0 : Int32)) hx hb dX1_unite_69 (by decide) ?_
        refine lv_istore (lv' := [(6, .int (0 : Int32)), (5, .int (x_root p2.toNatClampNeg)), (4, .int (x_root p2.toNatClampNeg)), (3, .int (x_root p1.toNatClampNeg)), (0, .ref (a 0)), (1, .int p1), (2, .int p2)]) hx hb dX1_unite_70 hl (by decide) rfl (fun ls hl => ?_)
        exact ctX1_unite_H72 (F := F) C0 F (x_root p1.toNatClampNeg) (x_root p2.toNatClampNeg) (x_root p2.toNatClampNeg) (0 : Int32) (x_root, x_fellow, x_weight, x_on, x_before, x_mate, x_home, x_absorbed, x_place, x_used, x_places, x_waiting) _ _ _ hw ⟨hK, hP, hD, hS⟩ (lv_sub hl [4, 3, 2, 1, 0] rfl)
      · have hw := hw.2 hc
        refine lv_aload_n hx hb dX1_unite_50 rfl (lv_at hl 2 rfl) ?_
        refine va_get (ci := 1) (v := .ref (a 1)) (C := RX1) (T := TX1) (N := 12) hx hb hts iw_X1 hown hK hP 0 rfl rfl 0 (by decide) (hts (.fieldLink RX1 7 "WalkersSay$Ends" "root" "[I") q_8d8e92ef) (fun _ h9 => h9) rfl dX1_unite_51 ?_
        refine lv_iload_n hx hb dX1_unite_54 rfl (lv_at hl 4 rfl) ?_
        obtain ⟨hc0, hw⟩ := hw
        refine va_iald hx hb hK hP 1 0 rfl rfl hc0 dX1_unite_55 ?_
        refine lv_istore_n (lv' := [(3, .int (x_root p2.toNatClampNeg)), (4, .int (x_root p2.toNatClampNeg)), (0, .ref (a 0)), (1, .int p1), (2, .int p2)]) hx hb dX1_unite_56 rfl hl (by decide) rfl (fun ls hl => ?_)
        refine lv_aload_n hx hb dX1_unite_57 rfl (lv_at hl 2 rfl) ?_
        refine va_get (ci := 1) (v := .ref (a 1)) (C := RX1) (T := TX1) (N := 12) hx hb hts iw_X1 hown hK hP 0 rfl rfl 0 (by decide) (hts (.fieldLink RX1 7 "WalkersSay$Ends" "root" "[I") q_8d8e92ef) (fun _ h9 => h9) rfl dX1_unite_58 ?_
        refine lv_iload_n hx hb dX1_unite_61 rfl (lv_at hl 3 rfl) ?_
        obtain ⟨hc0, hw⟩ := hw
        refine va_iald hx hb hK hP 1 0 rfl rfl hc0 dX1_unite_62 ?_
        refine lv_istore (lv' := [(4, .int (x_root p1.toNatClampNeg)), (3, .int (x_root p2.toNatClampNeg)), (0, .ref (a 0)), (1, .int p1), (2, .int p2)]) hx hb dX1_unite_63 hl (by decide) rfl (fun ls hl => ?_)
        refine lv_iload hx hb dX1_unite_65 (lv_at hl 0 rfl) ?_
        refine lv_istore (lv' := [(5, .int (x_root p1.toNatClampNeg)), (4, .int (x_root p1.toNatClampNeg)), (3, .int (x_root p2.toNatClampNeg)), (0, .ref (a 0)), (1, .int p1), (2, .int p2)]) hx hb dX1_unite_67 hl (by decide) rfl (fun ls hl => ?_)
        refine lv_iconst (v := (0 : Int32)) hx hb dX1_unite_69 (by decide) ?_
        refine lv_istore (lv' := [(6, .int (0 : Int32)), (5, .int (x_root p1.toNatClampNeg)), (4, .int (x_root p1.toNatClampNeg)), (3, .int (x_root p2.toNatClampNeg)), (0, .ref (a 0)), (1, .int p1), (2, .int p2)]) hx hb dX1_unite_70 hl (by decide) rfl (fun ls hl => ?_)
        exact ctX1_unite_H72 (F := F) C0 F (x_root p2.toNatClampNeg) (x_root p1.toNatClampNeg) (x_root p1.toNatClampNeg) (0 : Int32) (x_root, x_fellow, x_weight, x_on, x_before, x_mate, x_home, x_absorbed, x_place, x_used, x_places, x_waiting) _ _ _ hw ⟨hK, hP, hD, hS⟩ (lv_sub hl [4, 3, 2, 1, 0] rfl)
    · have hw := hw.2 hc
      exact W.vret hx hb hr (fun t ht hWm => ⟨⟨(x_root, x_fellow, x_weight, x_on, x_before, x_mate, x_home, x_absorbed, x_place, x_used, x_places, x_waiting), rfl, hw, by rw [ht]; exact hP, va_K.moved hWm.alike hK, hD⟩, hS.F ht⟩) hS.2.2 dX1_unite_33
-- ===== RX1.makeOne(II)V
abbrev wdX1_makeOne (cyI cyB cyZ cyT : ClassId) (a : Nat → Nat) (nE : Nat) (nP : Nat) (g : SX1) : va_W := [(a 0, .inr (1, [.ref (a 1), .ref (a 2), .ref (a 3), .ref (a 4), .ref (a 5), .ref (a 6), .ref (a 7), .ref (a 8), .ref (a 9), .int g.x_used, .int g.x_places, .int g.x_waiting])), (a 1, .inl (cyI, nE, .inl g.x_root)), (a 2, .inl (cyI, nE, .inl g.x_fellow)), (a 3, .inl (cyI, nE, .inl g.x_weight)), (a 4, .inl (cyI, nE, .inl g.x_on)), (a 5, .inl (cyI, nE, .inl g.x_before)), (a 6, .inl (cyI, nE, .inl g.x_mate)), (a 7, .inl (cyI, nE, .inl g.x_home)), (a 8, .inl (cyI, nE, .inl g.x_absorbed)), (a 9, .inl (cyI, nP, .inl g.x_place))]
abbrev rmX1_makeOne : Room := { frames := 1, cells := 0, slots := 0, locals := 29 }
abbrev qX1_makeOne (D : va_G) (cyI cyB cyZ cyT : ClassId) (a : Nat → Nat) (nE : Nat) (nP : Nat) (Q : SX1 → Prop) (A : Nat → Prop) : Array Value → State → Outcome → State → Prop := va_Qv (S := SX1) (fun u => Q u) (kB D (kTy cyI cyB cyZ cyT) (fun u : SX1 => (wdX1_makeOne cyI cyB cyZ cyT a  nE nP u)) A) A
def wX1_makeOne_b57 (nE : Nat) (nP : Nat) (F : Nat) (Q : SX1 → Prop) (K_30 : Int32 → SX1 → Prop) (K_57 : Int32 → Int32 → Int32 → SX1 → Prop) (L3 : Int32) (L4 : Int32) (L5 : Int32) (g : SX1) : Prop := (((3 : Int32) ≤ L5 → (K_30 (L3 + 1) g)) ∧ (¬ ((3 : Int32) ≤ L5) → ((¬ L5 = 0 → ((¬ L5 = (1 : Int32) → (vp_in L4 nE) ∧ (vp_in L4 nE) ∧ (((g.x_mate L4.toNatClampNeg) < 0 → (vp_in L4 nE) ∧ (((g.x_mate L4.toNatClampNeg) < 0 → (K_57 L3 L4 (L5 + 1) g)) ∧ (¬ ((g.x_mate L4.toNatClampNeg) < 0) → (vp_in L4 nE) ∧ (vp_in (g.x_root L4.toNatClampNeg) nE) ∧ (K_57 L3 L4 (L5 + 1) (g.x_root, g.x_fellow, g.x_weight, g.x_on, g.x_before, (upd g.x_mate (g.x_root L4.toNatClampNeg).toNatClampNeg (g.x_mate L4.toNatClampNeg)), g.x_home, g.x_absorbed, g.x_place, g.x_used, g.x_places, g.x_waiting))))) ∧ (¬ ((g.x_mate L4.toNatClampNeg) < 0) → (vp_in (g.x_root L4.toNatClampNeg) nE) ∧ (((g.x_mate (g.x_root L4.toNatClampNeg).toNatClampNeg) < 0 → (vp_in L4 nE) ∧ (((g.x_mate L4.toNatClampNeg) < 0 → (K_57 L3 L4 (L5 + 1) g)) ∧ (¬ ((g.x_mate L4.toNatClampNeg) < 0) → (vp_in L4 nE) ∧ (vp_in (g.x_root L4.toNatClampNeg) nE) ∧ (K_57 L3 L4 (L5 + 1) (g.x_root, g.x_fellow, g.x_weight, g.x_on, g.x_before, (upd g.x_mate (g.x_root L4.toNatClampNeg).toNatClampNeg (g.x_mate L4.toNatClampNeg)), g.x_home, g.x_absorbed, g.x_place, g.x_used, g.x_places, g.x_waiting))))) ∧ (¬ ((g.x_mate (g.x_root L4.toNatClampNeg).toNatClampNeg) < 0) → (vp_in (g.x_root L4.toNatClampNeg) nE) ∧ (vp_in L4 nE) ∧ (wX1_unite nE nP F g (g.x_mate (g.x_root L4.toNatClampNeg).toNatClampNeg) (g.x_mate L4.toNatClampNeg) (fun u130_0 => (K_57 L3 L4 (L5 + 1) u130_0)))))))) ∧ (L5 = (1 : Int32) → (vp_in L4 nE) ∧ (vp_in L4 nE) ∧ (((g.x_before L4.toNatClampNeg) < 0 → (vp_in L4 nE) ∧ (((g.x_before L4.toNatClampNeg) < 0 → (K_57 L3 L4 (L5 + 1) g)) ∧ (¬ ((g.x_before L4.toNatClampNeg) < 0) → (vp_in L4 nE) ∧ (vp_in (g.x_root L4.toNatClampNeg) nE) ∧ (K_57 L3 L4 (L5 + 1) (g.x_root, g.x_fellow, g.x_weight, g.x_on, (upd g.x_before (g.x_root L4.toNatClampNeg).toNatClampNeg (g.x_before L4.toNatClampNeg)), g.x_mate, g.x_home, g.x_absorbed, g.x_place, g.x_used, g.x_places, g.x_waiting))))) ∧ (¬ ((g.x_before L4.toNatClampNeg) < 0) → (vp_in (g.x_root L4.toNatClampNeg) nE) ∧ (((g.x_before (g.x_root L4.toNatClampNeg).toNatClampNeg) < 0 → (vp_in L4 nE) ∧ (((g.x_before L4.toNatClampNeg) < 0 → (K_57 L3 L4 (L5 + 1) g)) ∧ (¬ ((g.x_before L4.toNatClampNeg) < 0) → (vp_in L4 nE) ∧ (vp_in (g.x_root L4.toNatClampNeg) nE) ∧ (K_57 L3 L4 (L5 + 1) (g.x_root, g.x_fellow, g.x_weight, g.x_on, (upd g.x_before (g.x_root L4.toNatClampNeg).toNatClampNeg (g.x_before L4.toNatClampNeg)), g.x_mate, g.x_home, g.x_absorbed, g.x_place, g.x_used, g.x_places, g.x_waiting))))) ∧ (¬ ((g.x_before (g.x_root L4.toNatClampNeg).toNatClampNeg) < 0) → (vp_in (g.x_root L4.toNatClampNeg) nE) ∧ (vp_in L4 nE) ∧ (wX1_unite nE nP F g (g.x_before (g.x_root L4.toNatClampNeg).toNatClampNeg) (g.x_before L4.toNatClampNeg) (fun u130_0 => (K_57 L3 L4 (L5 + 1) u130_0)))))))))) ∧ (L5 = 0 → (vp_in L4 nE) ∧ (vp_in L4 nE) ∧ (((g.x_on L4.toNatClampNeg) < 0 → (vp_in L4 nE) ∧ (((g.x_on L4.toNatClampNeg) < 0 → (K_57 L3 L4 (L5 + 1) g)) ∧ (¬ ((g.x_on L4.toNatClampNeg) < 0) → (vp_in L4 nE) ∧ (vp_in (g.x_root L4.toNatClampNeg) nE) ∧ (K_57 L3 L4 (L5 + 1) (g.x_root, g.x_fellow, g.x_weight, (upd g.x_on (g.x_root L4.toNatClampNeg).toNatClampNeg (g.x_on L4.toNatClampNeg)), g.x_before, g.x_mate, g.x_home, g.x_absorbed, g.x_place, g.x_used, g.x_places, g.x_waiting))))) ∧ (¬ ((g.x_on L4.toNatClampNeg) < 0) → (vp_in (g.x_root L4.toNatClampNeg) nE) ∧ (((g.x_on (g.x_root L4.toNatClampNeg).toNatClampNeg) < 0 → (vp_in L4 nE) ∧ (((g.x_on L4.toNatClampNeg) < 0 → (K_57 L3 L4 (L5 + 1) g)) ∧ (¬ ((g.x_on L4.toNatClampNeg) < 0) → (vp_in L4 nE) ∧ (vp_in (g.x_root L4.toNatClampNeg) nE) ∧ (K_57 L3 L4 (L5 + 1) (g.x_root, g.x_fellow, g.x_weight, (upd g.x_on (g.x_root L4.toNatClampNeg).toNatClampNeg (g.x_on L4.toNatClampNeg)), g.x_before, g.x_mate, g.x_home, g.x_absorbed, g.x_place, g.x_used, g.x_places, g.x_waiting))))) ∧ (¬ ((g.x_on (g.x_root L4.toNatClampNeg).toNatClampNeg) < 0) → (vp_in (g.x_root L4.toNatClampNeg) nE) ∧ (vp_in L4 nE) ∧ (wX1_unite nE nP F g (g.x_on (g.x_root L4.toNatClampNeg).toNatClampNeg) (g.x_on L4.toNatClampNeg) (fun u130_0 => (K_57 L3 L4 (L5 + 1) u130_0)))))))))))
def wX1_makeOne_H57 (nE : Nat) (nP : Nat) (F : Nat) (Q : SX1 → Prop) (K_30 : Int32 → SX1 → Prop) : Nat → Int32 → Int32 → Int32 → SX1 → Prop
  | 0 => fun _ _ _ _ => False
  | n + 1 => fun L3 L4 L5 g => wX1_makeOne_b57 nE nP F Q K_30 (wX1_makeOne_H57 nE nP F Q K_30 n) L3 L4 L5 g
def wX1_makeOne_b30 (nE : Nat) (nP : Nat) (F : Nat) (Q : SX1 → Prop)  (K_30 : Int32 → SX1 → Prop) (L3 : Int32) (g : SX1) : Prop := ((g.x_waiting ≤ L3 → (Q g)) ∧ (¬ (g.x_waiting ≤ L3) → ((g.x_used ≤ L3 → (Q g)) ∧ (¬ (g.x_used ≤ L3) → (vp_in L3 nE) ∧ (wX1_makeOne_H57 nE nP F Q K_30 F L3 (g.x_absorbed L3.toNatClampNeg) (0 : Int32) g)))))
def wX1_makeOne_H30 (nE : Nat) (nP : Nat) (F : Nat) (Q : SX1 → Prop)  : Nat → Int32 → SX1 → Prop
  | 0 => fun _ _ => False
  | n + 1 => fun L3 g => wX1_makeOne_b30 nE nP F Q (wX1_makeOne_H30 nE nP F Q n) L3 g
def wX1_makeOne (nE : Nat) (nP : Nat) (F : Nat) (g : SX1) (p1 : Int32) (p2 : Int32) (Q : SX1 → Prop) : Prop := (wX1_holds nE nP F g p1 (fun r2 => ((r2 = 0 → (Q g)) ∧ (¬ (r2 = 0) → (wX1_holds nE nP F g p2 (fun r10 => ((¬ r10 = 0 → (wX1_unite nE nP F (g.x_root, g.x_fellow, g.x_weight, g.x_on, g.x_before, g.x_mate, g.x_home, g.x_absorbed, g.x_place, g.x_used, g.x_places, (0 : Int32)) p1 p2 (fun u25_0 => (wX1_makeOne_H30 nE nP F Q F (0 : Int32) u25_0)))) ∧ (r10 = 0 → (Q g)))))))))
set_option maxHeartbeats 4000000 in
set_option maxRecDepth 100000 in
theorem ctX1_makeOne_b57 {p : Program} {l : Launch} {e : Env} {s : State} {m : MethodId} {args : Array Value} {below : List Frame} {meth : Method} {c : Code} {A : Nat → Prop} {D : va_G} {cyI cyB cyZ cyT : ClassId} {a : Nat → Nat} {nE : Nat} {nP : Nat} {F : Nat} {Q : SX1 → Prop} {K_30 : Int32 → SX1 → Prop} {K_57 : Int32 → Int32 → Int32 → SX1 → Prop} (C0 : kCtx cX1_makeOne none RX1 8 p s m args meth c A) (hk_30 : ∀ (L3 : Int32) (g : SX1) (H : Heap) (locs : List Loc) (ls : Array Slot), K_30 L3 g → kWd D (kTy cyI cyB cyZ cyT) (wdX1_makeOne cyI cyB cyZ cyT a  nE nP g) A s H locs → lv_has ls 8 [(0, .ref (a 0)), (3, .int L3)] → W p l e rmX1_makeOne s m args below meth c H locs 0 0 (MQ below (qX1_makeOne D cyI cyB cyZ cyT a nE nP Q A) args s 0 0 A) (F0 m 30 ls [])) (hk_57 : ∀ (L3 : Int32) (L4 : Int32) (L5 : Int32) (g : SX1) (H : Heap) (locs : List Loc) (ls : Array Slot), K_57 L3 L4 L5 g → kWd D (kTy cyI cyB cyZ cyT) (wdX1_makeOne cyI cyB cyZ cyT a  nE nP g) A s H locs → lv_has ls 8 [(0, .ref (a 0)), (3, .int L3), (4, .int L4), (5, .int L5)] → W p l e rmX1_makeOne s m args below meth c H locs 0 0 (MQ below (qX1_makeOne D cyI cyB cyZ cyT a nE nP Q A) args s 0 0 A) (F0 m 57 ls [])) : ∀ (L3 : Int32) (L4 : Int32) (L5 : Int32) (g : SX1) (H : Heap) (locs : List Loc) (ls : Array Slot), wX1_makeOne_b57 nE nP F Q K_30 K_57 L3 L4 L5 g → kWd D (kTy cyI cyB cyZ cyT) (wdX1_makeOne cyI cyB cyZ cyT a  nE nP g) A s H locs → lv_has ls 8 [(0, .ref (a 0)), (3, .int L3), (4, .int L4), (5, .int L5)] → W p l e rmX1_makeOne s m args below meth c H locs 0 0 (MQ below (qX1_makeOne D cyI cyB cyZ cyT a nE nP Q A) args s 0 0 A) (F0 m 57 ls []) := by
  intro L3 L4 L5 g H locs ls hw hW hl
  obtain ⟨hx, hb, hr, hts, hown, hml, hlocks, hA, hN⟩ := id C0
  obtain ⟨hK, hP, hD, hS⟩ := hW
  obtain ⟨x_root, x_fellow, x_weight, x_on, x_before, x_mate, x_home, x_absorbed, x_place, x_used, x_places, x_waiting⟩ := g
  have hP : va_P D vwCl [(a 0, .inr (1, [.ref (a 1), .ref (a 2), .ref (a 3), .ref (a 4), .ref (a 5), .ref (a 6), .ref (a 7), .ref (a 8), .ref (a 9), .int x_used, .int x_places, .int x_waiting])), (a 1, .inl (cyI, nE, .inl x_root)), (a 2, .inl (cyI, nE, .inl x_fellow)), (a 3, .inl (cyI, nE, .inl x_weight)), (a 4, .inl (cyI, nE, .inl x_on)), (a 5, .inl (cyI, nE, .inl x_before)), (a 6, .inl (cyI, nE, .inl x_mate)), (a 7, .inl (cyI, nE, .inl x_home)), (a 8, .inl (cyI, nE, .inl x_absorbed)), (a 9, .inl (cyI, nP, .inl x_place))] H := hP
  have hD : va_D A [(a 0, .inr (1, [.ref (a 1), .ref (a 2), .ref (a 3), .ref (a 4), .ref (a 5), .ref (a 6), .ref (a 7), .ref (a 8), .ref (a 9), .int x_used, .int x_places, .int x_waiting])), (a 1, .inl (cyI, nE, .inl x_root)), (a 2, .inl (cyI, nE, .inl x_fellow)), (a 3, .inl (cyI, nE, .inl x_weight)), (a 4, .inl (cyI, nE, .inl x_on)), (a 5, .inl (cyI, nE, .inl x_before)), (a 6, .inl (cyI, nE, .inl x_mate)), (a 7, .inl (cyI, nE, .inl x_home)), (a 8, .inl (cyI, nE, .inl x_absorbed)), (a 9, .inl (cyI, nP, .inl x_place))] := hD
  refine lv_iload hx hb dX1_makeOne_57 (lv_at hl 3 rfl) ?_
  refine lv_iconst (v := (3 : Int32)) hx hb dX1_makeOne_59 (by decide) ?_
  refine lv_icmp_ge (tgt := 160) hx hb dX1_makeOne_60 (by decide) (fun hc => ?_) (fun hc => ?_)
  · have hw := hw.1 hc
    refine lv_iinc (v := (L3 + 1)) (lv' := [(3, .int (L3 + 1)), (0, .ref (a 0)), (4, .int L4), (5, .int L5)]) hx hb dX1_makeOne_160 hl (k := 1) rfl rfl (by decide) rfl (fun ls hl => ?_)
    refine lv_goto (tgt := 30) hx hb dX1_makeOne_163 (by decide) ?_
    exact hk_30 (L3 + 1) (x_root, x_fellow, x_weight, x_on, x_before, x_mate, x_home, x_absorbed, x_place, x_used, x_places, x_waiting) _ _ _ hw ⟨hK, hP, hD, hS⟩ (lv_sub hl [1, 0] rfl)
  · have hw := hw.2 hc
    refine lv_iload hx hb dX1_makeOne_63 (lv_at hl 3 rfl) ?_
    refine lv_if_ne (tgt := 75) hx hb dX1_makeOne_65 (by decide) (fun hc => ?_) (fun hc => ?_)
    · have hw := hw.1 hc
      refine lv_iload hx hb dX1_makeOne_75 (lv_at hl 3 rfl) ?_
      refine lv_iconst (v := (1 : Int32)) hx hb dX1_makeOne_77 (by decide) ?_
      refine lv_icmp_ne (tgt := 88) hx hb dX1_makeOne_78 (by decide) (fun hc => ?_) (fun hc => ?_)
      · have hw := hw.1 hc
        refine lv_aload_n hx hb dX1_makeOne_88 rfl (lv_at hl 0 rfl) ?_
        refine va_get (ci := 1) (v := .ref (a 6)) (C := RX1) (T := TX1) (N := 12) hx hb hts iw_X1 hown hK hP 0 rfl rfl 5 (by decide) (hts (.fieldLink RX1 25 "WalkersSay$Ends" "mate" "[I") q_d4c567c1) (fun _ h9 => h9) rfl dX1_makeOne_89 ?_
        refine lv_astore (lv' := [(6, .ref (a 6)), (0, .ref (a 0)), (3, .int L3), (4, .int L4), (5, .int L5)]) hx hb dX1_makeOne_92 hl (by decide) rfl (fun ls hl => ?_)
        refine lv_aload_n hx hb dX1_makeOne_94 rfl (lv_at hl 1 rfl) ?_
        refine va_get (ci := 1) (v := .ref (a 1)) (C := RX1) (T := TX1) (N := 12) hx hb hts iw_X1 hown hK hP 0 rfl rfl 0 (by decide) (hts (.fieldLink RX1 7 "WalkersSay$Ends" "root" "[I") q_8d8e92ef) (fun _ h9 => h9) rfl dX1_makeOne_95 ?_
        refine lv_iload hx hb dX1_makeOne_98 (lv_at hl 3 rfl) ?_
        obtain ⟨hc0, hw⟩ := hw
        refine va_iald hx hb hK hP 1 0 rfl rfl hc0 dX1_makeOne_100 ?_
        refine lv_istore (lv' := [(7, .int (x_root L4.toNatClampNeg)), (6, .ref (a 6)), (0, .ref (a 0)), (3, .int L3), (4, .int L4), (5, .int L5)]) hx hb dX1_makeOne_101 hl (by decide) rfl (fun ls hl => ?_)
        refine lv_aload hx hb dX1_makeOne_103 (lv_at hl 1 rfl) ?_
        refine lv_iload hx hb dX1_makeOne_105 (lv_at hl 4 rfl) ?_
        obtain ⟨hc0, hw⟩ := hw
        refine va_iald hx hb hK hP 6 0 rfl rfl hc0 dX1_makeOne_107 ?_
        refine lv_if_lt (tgt := 136) hx hb dX1_makeOne_108 (by decide) (fun hc => ?_) (fun hc => ?_)
        · have hw := hw.1 hc
          refine lv_aload hx hb dX1_makeOne_136 (lv_at hl 1 rfl) ?_
          refine lv_iload hx hb dX1_makeOne_138 (lv_at hl 4 rfl) ?_
          obtain ⟨hc0, hw⟩ := hw
          refine va_iald hx hb hK hP 6 0 rfl rfl hc0 dX1_makeOne_140 ?_
          refine lv_if_lt (tgt := 154) hx hb dX1_makeOne_141 (by decide) (fun hc => ?_) (fun hc => ?_)
          · have hw := hw.1 hc
            refine lv_iinc (v := (L5 + 1)) (lv' := [(5, .int (L5 + 1)), (7, .int (x_root L4.toNatClampNeg)), (6, .ref (a 6)), (0, .ref (a 0)), (3, .int L3), (4, .int L4)]) hx hb dX1_makeOne_154 hl (k := 5) rfl rfl (by decide) rfl (fun ls hl => ?_)
            refine lv_goto (tgt := 57) hx hb dX1_makeOne_157 (by decide) ?_
            exact hk_57 L3 L4 (L5 + 1) (x_root, x_fellow, x_weight, x_on, x_before, x_mate, x_home, x_absorbed, x_place, x_used, x_places, x_waiting) _ _ _ hw ⟨hK, hP, hD, hS⟩ (lv_sub hl [3, 4, 5, 0] rfl)
          · have hw := hw.2 hc
            refine lv_aload hx hb dX1_makeOne_144 (lv_at hl 1 rfl) ?_
            refine lv_iload hx hb dX1_makeOne_146 (lv_at hl 0 rfl) ?_
            refine lv_aload hx hb dX1_makeOne_148 (lv_at hl 1 rfl) ?_
            refine lv_iload hx hb dX1_makeOne_150 (lv_at hl 4 rfl) ?_
            obtain ⟨hc0, hw⟩ := hw
            refine va_iald hx hb hK hP 6 0 rfl rfl hc0 dX1_makeOne_152 ?_
            obtain ⟨hc0, hw⟩ := hw
            refine va_iast hx hb hK hP hD hS 6 0 rfl rfl hc0 dX1_makeOne_153 (fun H locs hP hD hS => ?_)
            have hP : va_P D vwCl [(a 0, .inr (1, [.ref (a 1), .ref (a 2), .ref (a 3), .ref (a 4), .ref (a 5), .ref (a 6), .ref (a 7), .ref (a 8), .ref (a 9), .int x_used, .int x_places, .int x_waiting])), (a 1, .inl (cyI, nE, .inl x_root)), (a 2, .inl (cyI, nE, .inl x_fellow)), (a 3, .inl (cyI, nE, .inl x_weight)), (a 4, .inl (cyI, nE, .inl x_on)), (a 5, .inl (cyI, nE, .inl x_before)), (a 6, .inl (cyI, nE, .inl (upd x_mate (x_root L4.toNatClampNeg).toNatClampNeg (x_mate L4.toNatClampNeg)))), (a 7, .inl (cyI, nE, .inl x_home)), (a 8, .inl (cyI, nE, .inl x_absorbed)), (a 9, .inl (cyI, nP, .inl x_place))] H := hP
            have hD : va_D A [(a 0, .inr (1, [.ref (a 1), .ref (a 2), .ref (a 3), .ref (a 4), .ref (a 5), .ref (a 6), .ref (a 7), .ref (a 8), .ref (a 9), .int x_used, .int x_places, .int x_waiting])), (a 1, .inl (cyI, nE, .inl x_root)), (a 2, .inl (cyI, nE, .inl x_fellow)), (a 3, .inl (cyI, nE, .inl x_weight)), (a 4, .inl (cyI, nE, .inl x_on)), (a 5, .inl (cyI, nE, .inl x_before)), (a 6, .inl (cyI, nE, .inl (upd x_mate (x_root L4.toNatClampNeg).toNatClampNeg (x_mate L4.toNatClampNeg)))), (a 7, .inl (cyI, nE, .inl x_home)), (a 8, .inl (cyI, nE, .inl x_absorbed)), (a 9, .inl (cyI, nP, .inl x_place))] := hD
            refine lv_iinc (v := (L5 + 1)) (lv' := [(5, .int (L5 + 1)), (7, .int (x_root L4.toNatClampNeg)), (6, .ref (a 6)), (0, .ref (a 0)), (3, .int L3), (4, .int L4)]) hx hb dX1_makeOne_154 hl (k := 5) rfl rfl (by decide) rfl (fun ls hl => ?_)
            refine lv_goto (tgt := 57) hx hb dX1_makeOne_157 (by decide) ?_
            exact hk_57 L3 L4 (L5 + 1) (x_root, x_fellow, x_weight, x_on, x_before, (upd x_mate (x_root L4.toNatClampNeg).toNatClampNeg (x_mate L4.toNatClampNeg)), x_home, x_absorbed, x_place, x_used, x_places, x_waiting) _ _ _ hw ⟨hK, hP, hD, hS⟩ (lv_sub hl [3, 4, 5, 0] rfl)
        · have hw := hw.2 hc
          refine lv_aload hx hb dX1_makeOne_111 (lv_at hl 1 rfl) ?_
          refine lv_iload hx hb dX1_makeOne_113 (lv_at hl 0 rfl) ?_
          obtain ⟨hc0, hw⟩ := hw
          refine va_iald hx hb hK hP 6 0 rfl rfl hc0 dX1_makeOne_115 ?_
          refine lv_if_lt (tgt := 136) hx hb dX1_makeOne_116 (by decide) (fun hc => ?_) (fun hc => ?_)
          · have hw := hw.1 hc
            refine lv_aload hx hb dX1_makeOne_136 (lv_at hl 1 rfl) ?_
            refine lv_iload hx hb dX1_makeOne_138 (lv_at hl 4 rfl) ?_
            obtain ⟨hc0, hw⟩ := hw
            refine va_iald hx hb hK hP 6 0 rfl rfl hc0 dX1_makeOne_140 ?_
            refine lv_if_lt (tgt := 154) hx hb dX1_makeOne_141 (by decide) (fun hc => ?_) (fun hc => ?_)
            · have hw := hw.1 hc
              refine lv_iinc (v := (L5 + 1)) (lv' := [(5, .int (L5 + 1)), (7, .int (x_root L4.toNatClampNeg)), (6, .ref (a 6)), (0, .ref (a 0)), (3, .int L3), (4, .int L4)]) hx hb dX1_makeOne_154 hl (k := 5) rfl rfl (by decide) rfl (fun ls hl => ?_)
              refine lv_goto (tgt := 57) hx hb dX1_makeOne_157 (by decide) ?_
              exact hk_57 L3 L4 (L5 + 1) (x_root, x_fellow, x_weight, x_on, x_before, x_mate, x_home, x_absorbed, x_place, x_used, x_places, x_waiting) _ _ _ hw ⟨hK, hP, hD, hS⟩ (lv_sub hl [3, 4, 5, 0] rfl)
            · have hw := hw.2 hc
              refine lv_aload hx hb dX1_makeOne_144 (lv_at hl 1 rfl) ?_
              refine lv_iload hx hb dX1_makeOne_146 (lv_at hl 0 rfl) ?_
              refine lv_aload hx hb dX1_makeOne_148 (lv_at hl 1 rfl) ?_
              refine lv_iload hx hb dX1_makeOne_150 (lv_at hl 4 rfl) ?_
              obtain ⟨hc0, hw⟩ := hw
              refine va_iald hx hb hK hP 6 0 rfl rfl hc0 dX1_makeOne_152 ?_
              obtain ⟨hc0, hw⟩ := hw
              refine va_iast hx hb hK hP hD hS 6 0 rfl rfl hc0 dX1_makeOne_153 (fun H locs hP hD hS => ?_)
              have hP : va_P D vwCl [(a 0, .inr (1, [.ref (a 1), .ref (a 2), .ref (a 3), .ref (a 4), .ref (a 5), .ref (a 6), .ref (a 7), .ref (a 8), .ref (a 9), .int x_used, .int x_places, .int x_waiting])), (a 1, .inl (cyI, nE, .inl x_root)), (a 2, .inl (cyI, nE, .inl x_fellow)), (a 3, .inl (cyI, nE, .inl x_weight)), (a 4, .inl (cyI, nE, .inl x_on)), (a 5, .inl (cyI, nE, .inl x_before)), (a 6, .inl (cyI, nE, .inl (upd x_mate (x_root L4.toNatClampNeg).toNatClampNeg (x_mate L4.toNatClampNeg)))), (a 7, .inl (cyI, nE, .inl x_home)), (a 8, .inl (cyI, nE, .inl x_absorbed)), (a 9, .inl (cyI, nP, .inl x_place))] H := hP
              have hD : va_D A [(a 0, .inr (1, [.ref (a 1), .ref (a 2), .ref (a 3), .ref (a 4), .ref (a 5), .ref (a 6), .ref (a 7), .ref (a 8), .ref (a 9), .int x_used, .int x_places, .int x_waiting])), (a 1, .inl (cyI, nE, .inl x_root)), (a 2, .inl (cyI, nE, .inl x_fellow)), (a 3, .inl (cyI, nE, .inl x_weight)), (a 4, .inl (cyI, nE, .inl x_on)), (a 5, .inl (cyI, nE, .inl x_before)), (a 6, .inl (cyI, nE, .inl (upd x_mate (x_root L4.toNatClampNeg).toNatClampNeg (x_mate L4.toNatClampNeg)))), (a 7, .inl (cyI, nE, .inl x_home)), (a 8, .inl (cyI, nE, .inl x_absorbed)), (a 9, .inl (cyI, nP, .inl x_place))] := hD
              refine lv_iinc (v := (L5 + 1)) (lv' := [(5, .int (L5 + 1)), (7, .int (x_root L4.toNatClampNeg)), (6, .ref (a 6)), (0, .ref (a 0)), (3, .int L3), (4, .int L4)]) hx hb dX1_makeOne_154 hl (k := 5) rfl rfl (by decide) rfl (fun ls hl => ?_)
              refine lv_goto (tgt := 57) hx hb dX1_makeOne_157 (by decide) ?_
              exact hk_57 L3 L4 (L5 + 1) (x_root, x_fellow, x_weight, x_on, x_before, (upd x_mate (x_root L4.toNatClampNeg).toNatClampNeg (x_mate L4.toNatClampNeg)), x_home, x_absorbed, x_place, x_used, x_places, x_waiting) _ _ _ hw ⟨hK, hP, hD, hS⟩ (lv_sub hl [3, 4, 5, 0] rfl)
          · have hw := hw.2 hc
            refine lv_aload_n hx hb dX1_makeOne_119 rfl (lv_at hl 2 rfl) ?_
            refine lv_aload hx hb dX1_makeOne_120 (lv_at hl 1 rfl) ?_
            refine lv_iload hx hb dX1_makeOne_122 (lv_at hl 0 rfl) ?_
            obtain ⟨hc0, hw⟩ := hw
            refine va_iald hx hb hK hP 6 0 rfl rfl hc0 dX1_makeOne_124 ?_
            refine lv_aload hx hb dX1_makeOne_125 (lv_at hl 1 rfl) ?_
            refine lv_iload hx hb dX1_makeOne_127 (lv_at hl 4 rfl) ?_
            obtain ⟨hc0, hw⟩ := hw
            refine va_iald hx hb hK hP 6 0 rfl rfl hc0 dX1_makeOne_129 ?_
            refine kx_Vv (S := SX1) (ci := 1) (As := [.int (x_mate (x_root L4.toNatClampNeg).toNatClampNeg), .int (x_mate L4.toNatClampNeg)]) (rest := []) (WR := []) (WN := (fun u : SX1 => [(a 0, .inr (1, [.ref (a 1), .ref (a 2), .ref (a 3), .ref (a 4), .ref (a 5), .ref (a 6), .ref (a 7), .ref (a 8), .ref (a 9), .int u.x_used, .int u.x_places, .int u.x_waiting])), (a 1, .inl (cyI, nE, .inl u.x_root)), (a 2, .inl (cyI, nE, .inl u.x_fellow)), (a 3, .inl (cyI, nE, .inl u.x_weight)), (a 4, .inl (cyI, nE, .inl u.x_on)), (a 5, .inl (cyI, nE, .inl u.x_before)), (a 6, .inl (cyI, nE, .inl u.x_mate)), (a 7, .inl (cyI, nE, .inl u.x_home)), (a 8, .inl (cyI, nE, .inl u.x_absorbed)), (a 9, .inl (cyI, nP, .inl u.x_place))])) ⟨hx, hb, hml, hown, hts⟩ (ctX1_unite l D cyI cyB cyZ cyT a nE nP F _ _ _ _) (cwV 2 hts (k_gV q_a3224016 q_144d314a q_24da5a6b q_944cf9c3 q_bf4d4321) rfl rfl rfl (by decide +kernel) ⟨Nat.le_of_ble_eq_true rfl, Nat.le_of_ble_eq_true rfl⟩) hN hw ⟨hK, hP, hD, hS⟩ hA [0, 1, 2, 3, 4, 5, 6, 7, 8, 9] [] [0, 1, 2, 3, 4, 5, 6, 7, 8, 9] rfl (by decide) rfl (by decide) (by decide) (by decide) (fun _ => rfl) rfl 0 rfl rfl hl.1 rfl (Nat.le_of_ble_eq_true rfl) dX1_makeOne_130 ⟨Nat.zero_le _, Nat.zero_le _⟩ (fun u H locs hw hW => ?_)
            obtain ⟨x_root_130, x_fellow_130, x_weight_130, x_on_130, x_before_130, x_mate_130, x_home_130, x_absorbed_130, x_place_130, x_used_130, x_places_130, x_waiting_130⟩ := u
            obtain ⟨hK, hP, hD, hS⟩ := hW
            have hP : va_P D vwCl [(a 0, .inr (1, [.ref (a 1), .ref (a 2), .ref (a 3), .ref (a 4), .ref (a 5), .ref (a 6), .ref (a 7), .ref (a 8), .ref (a 9), .int x_used_130, .int x_places_130, .int x_waiting_130])), (a 1, .inl (cyI, nE, .inl x_root_130)), (a 2, .inl (cyI, nE, .inl x_fellow_130)), (a 3, .inl (cyI, nE, .inl x_weight_130)), (a 4, .inl (cyI, nE, .inl x_on_130)), (a 5, .inl (cyI, nE, .inl x_before_130)), (a 6, .inl (cyI, nE, .inl x_mate_130)), (a 7, .inl (cyI, nE, .inl x_home_130)), (a 8, .inl (cyI, nE, .inl x_absorbed_130)), (a 9, .inl (cyI, nP, .inl x_place_130))] H := hP
            have hD : va_D A [(a 0, .inr (1, [.ref (a 1), .ref (a 2), .ref (a 3), .ref (a 4), .ref (a 5), .ref (a 6), .ref (a 7), .ref (a 8), .ref (a 9), .int x_used_130, .int x_places_130, .int x_waiting_130])), (a 1, .inl (cyI, nE, .inl x_root_130)), (a 2, .inl (cyI, nE, .inl x_fellow_130)), (a 3, .inl (cyI, nE, .inl x_weight_130)), (a 4, .inl (cyI, nE, .inl x_on_130)), (a 5, .inl (cyI, nE, .inl x_before_130)), (a 6, .inl (cyI, nE, .inl x_mate_130)), (a 7, .inl (cyI, nE, .inl x_home_130)), (a 8, .inl (cyI, nE, .inl x_absorbed_130)), (a 9, .inl (cyI, nP, .inl x_place_130))] := hD
            refine lv_goto (tgt := 154) hx hb dX1_makeOne_133 (by decide) ?_
            refine lv_iinc (v := (L5 + 1)) (lv' := [(5, .int (L5 + 1)), (7, .int (x_root L4.toNatClampNeg)), (6, .ref (a 6)), (0, .ref (a 0)), (3, .int L3), (4, .int L4)]) hx hb dX1_makeOne_154 hl (k := 5) rfl rfl (by decide) rfl (fun ls hl => ?_)
            refine lv_goto (tgt := 57) hx hb dX1_makeOne_157 (by decide) ?_
            exact hk_57 L3 L4 (L5 + 1) (x_root_130, x_fellow_130, x_weight_130, x_on_130, x_before_130, x_mate_130, x_home_130, x_absorbed_130, x_place_130, x_used_130, x_places_130, x_waiting_130) _ _ _ hw ⟨hK, hP, hD, hS⟩ (lv_sub hl [3, 4, 5, 0] rfl)
      · have hw := hw.2 hc
        refine lv_aload_n hx hb dX1_makeOne_81 rfl (lv_at hl 0 rfl) ?_
        refine va_get (ci := 1) (v := .ref (a 5)) (C := RX1) (T := TX1) (N := 12) hx hb hts iw_X1 hown hK hP 0 rfl rfl 4 (by decide) (hts (.fieldLink RX1 22 "WalkersSay$Ends" "before" "[I") q_e87aaa41) (fun _ h9 => h9) rfl dX1_makeOne_82 ?_
        refine lv_goto (tgt := 92) hx hb dX1_makeOne_85 (by decide) ?_
        refine lv_astore (lv' := [(6, .ref (a 5)), (0, .ref (a 0)), (3, .int L3), (4, .int L4), (5, .int L5)]) hx hb dX1_makeOne_92 hl (by decide) rfl (fun ls hl => ?_)
        refine lv_aload_n hx hb dX1_makeOne_94 rfl (lv_at hl 1 rfl) ?_
        refine va_get (ci := 1) (v := .ref (a 1)) (C := RX1) (T := TX1) (N := 12) hx hb hts iw_X1 hown hK hP 0 rfl rfl 0 (by decide) (hts (.fieldLink RX1 7 "WalkersSay$Ends" "root" "[I") q_8d8e92ef) (fun _ h9 => h9) rfl dX1_makeOne_95 ?_
        refine lv_iload hx hb dX1_makeOne_98 (lv_at hl 3 rfl) ?_
        obtain ⟨hc0, hw⟩ := hw
        refine va_iald hx hb hK hP 1 0 rfl rfl hc0 dX1_makeOne_100 ?_
        refine lv_istore (lv' := [(7, .int (x_root L4.toNatClampNeg)), (6, .ref (a 5)), (0, .ref (a 0)), (3, .int L3), (4, .int L4), (5, .int L5)]) hx hb dX1_makeOne_101 hl (by decide) rfl (fun ls hl => ?_)
        refine lv_aload hx hb dX1_makeOne_103 (lv_at hl 1 rfl) ?_
        refine lv_iload hx hb dX1_makeOne_105 (lv_at hl 4 rfl) ?_
        obtain ⟨hc0, hw⟩ := hw
        refine va_iald hx hb hK hP 5 0 rfl rfl hc0 dX1_makeOne_107 ?_
        refine lv_if_lt (tgt := 136) hx hb dX1_makeOne_108 (by decide) (fun hc => ?_) (fun hc => ?_)
        · have hw := hw.1 hc
          refine lv_aload hx hb dX1_makeOne_136 (lv_at hl 1 rfl) ?_
          refine lv_iload hx hb dX1_makeOne_138 (lv_at hl 4 rfl) ?_
          obtain ⟨hc0, hw⟩ := hw
          refine va_iald hx hb hK hP 5 0 rfl rfl hc0 dX1_makeOne_140 ?_
          refine lv_if_lt (tgt := 154) hx hb dX1_makeOne_141 (by decide) (fun hc => ?_) (fun hc => ?_)
          · have hw := hw.1 hc
            refine lv_iinc (v := (L5 + 1)) (lv' := [(5, .int (L5 + 1)), (7, .int (x_root L4.toNatClampNeg)), (6, .ref (a 5)), (0, .ref (a 0)), (3, .int L3), (4, .int L4)]) hx hb dX1_makeOne_154 hl (k := 5) rfl rfl (by decide) rfl (fun ls hl => ?_)
            refine lv_goto (tgt := 57) hx hb dX1_makeOne_157 (by decide) ?_
            exact hk_57 L3 L4 (L5 + 1) (x_root, x_fellow, x_weight, x_on, x_before, x_mate, x_home, x_absorbed, x_place, x_used, x_places, x_waiting) _ _ _ hw ⟨hK, hP, hD, hS⟩ (lv_sub hl [3, 4, 5, 0] rfl)
          · have hw := hw.2 hc
            refine lv_aload hx hb dX1_makeOne_144 (lv_at hl 1 rfl) ?_
            refine lv_iload hx hb dX1_makeOne_146 (lv_at hl 0 rfl) ?_
            refine lv_aload hx hb dX1_makeOne_148 (lv_at hl 1 rfl) ?_
            refine lv_iload hx hb dX1_makeOne_150 (lv_at hl 4 rfl) ?_
            obtain ⟨hc0, hw⟩ := hw
            refine va_iald hx hb hK hP 5 0 rfl rfl hc0 dX1_makeOne_152 ?_
            obtain ⟨hc0, hw⟩ := hw
            refine va_iast hx hb hK hP hD hS 5 0 rfl rfl hc0 dX1_makeOne_153 (fun H locs hP hD hS => ?_)
            have hP : va_P D vwCl [(a 0, .inr (1, [.ref (a 1), .ref (a 2), .ref (a 3), .ref (a 4), .ref (a 5), .ref (a 6), .ref (a 7), .ref (a 8), .ref (a 9), .int x_used, .int x_places, .int x_waiting])), (a 1, .inl (cyI, nE, .inl x_root)), (a 2, .inl (cyI, nE, .inl x_fellow)), (a 3, .inl (cyI, nE, .inl x_weight)), (a 4, .inl (cyI, nE, .inl x_on)), (a 5, .inl (cyI, nE, .inl (upd x_before (x_root L4.toNatClampNeg).toNatClampNeg (x_before L4.toNatClampNeg)))), (a 6, .inl (cyI, nE, .inl x_mate)), (a 7, .inl (cyI, nE, .inl x_home)), (a 8, .inl (cyI, nE, .inl x_absorbed)), (a 9, .inl (cyI, nP, .inl x_place))] H := hP
            have hD : va_D A [(a 0, .inr (1, [.ref (a 1), .ref (a 2), .ref (a 3), .ref (a 4), .ref (a 5), .ref (a 6), .ref (a 7), .ref (a 8), .ref (a 9), .int x_used, .int x_places, .int x_waiting])), (a 1, .inl (cyI, nE, .inl x_root)), (a 2, .inl (cyI, nE, .inl x_fellow)), (a 3, .inl (cyI, nE, .inl x_weight)), (a 4, .inl (cyI, nE, .inl x_on)), (a 5, .inl (cyI, nE, .inl (upd x_before (x_root L4.toNatClampNeg).toNatClampNeg (x_before L4.toNatClampNeg)))), (a 6, .inl (cyI, nE, .inl x_mate)), (a 7, .inl (cyI, nE, .inl x_home)), (a 8, .inl (cyI, nE, .inl x_absorbed)), (a 9, .inl (cyI, nP, .inl x_place))] := hD
            refine lv_iinc (v := (L5 + 1)) (lv' := [(5, .int (L5 + 1)), (7, .int (x_root L4.toNatClampNeg)), (6, .ref (a 5)), (0, .ref (a 0)), (3, .int L3), (4, .int L4)]) hx hb dX1_makeOne_154 hl (k := 5) rfl rfl (by decide) rfl (fun ls hl => ?_)
            refine lv_goto (tgt := 57) hx hb dX1_makeOne_157 (by decide) ?_
            exact hk_57 L3 L4 (L5 + 1) (x_root, x_fellow, x_weight, x_on, (upd x_before (x_root L4.toNatClampNeg).toNatClampNeg (x_before L4.toNatClampNeg)), x_mate, x_home, x_absorbed, x_place, x_used, x_places, x_waiting) _ _ _ hw ⟨hK, hP, hD, hS⟩ (lv_sub hl [3, 4, 5, 0] rfl)
        · have hw := hw.2 hc
          refine lv_aload hx hb dX1_makeOne_111 (lv_at hl 1 rfl) ?_
          refine lv_iload hx hb dX1_makeOne_113 (lv_at hl 0 rfl) ?_
          obtain ⟨hc0, hw⟩ := hw
          refine va_iald hx hb hK hP 5 0 rfl rfl hc0 dX1_makeOne_115 ?_
          refine lv_if_lt (tgt := 136) hx hb dX1_makeOne_116 (by decide) (fun hc => ?_) (fun hc => ?_)
          · have hw := hw.1 hc
            refine lv_aload hx hb dX1_makeOne_136 (lv_at hl 1 rfl) ?_
            refine lv_iload hx hb dX1_makeOne_138 (lv_at hl 4 rfl) ?_
            obtain ⟨hc0, hw⟩ := hw
            refine va_iald hx hb hK hP 5 0 rfl rfl hc0 dX1_makeOne_140 ?_
            refine lv_if_lt (tgt := 154) hx hb dX1_makeOne_141 (by decide) (fun hc => ?_) (fun hc => ?_)
            · have hw := hw.1 hc
              refine lv_iinc (v := (L5 + 1)) (lv' := [(5, .int (L5 + 1)), (7, .int (x_root L4.toNatClampNeg)), (6, .ref (a 5)), (0, .ref (a 0)), (3, .int L3), (4, .int L4)]) hx hb dX1_makeOne_154 hl (k := 5) rfl rfl (by decide) rfl (fun ls hl => ?_)
              refine lv_goto (tgt := 57) hx hb dX1_makeOne_157 (by decide) ?_
              exact hk_57 L3 L4 (L5 + 1) (x_root, x_fellow, x_weight, x_on, x_before, x_mate, x_home, x_absorbed, x_place, x_used, x_places, x_waiting) _ _ _ hw ⟨hK, hP, hD, hS⟩ (lv_sub hl [3, 4, 5, 0] rfl)
            · have hw := hw.2 hc
              refine lv_aload hx hb dX1_makeOne_144 (lv_at hl 1 rfl) ?_
              refine lv_iload hx hb dX1_makeOne_146 (lv_at hl 0 rfl) ?_
              refine lv_aload hx hb dX1_makeOne_148 (lv_at hl 1 rfl) ?_
              refine lv_iload hx hb dX1_makeOne_150 (lv_at hl 4 rfl) ?_
              obtain ⟨hc0, hw⟩ := hw
              refine va_iald hx hb hK hP 5 0 rfl rfl hc0 dX1_makeOne_152 ?_
              obtain ⟨hc0, hw⟩ := hw
              refine va_iast hx hb hK hP hD hS 5 0 rfl rfl hc0 dX1_makeOne_153 (fun H locs hP hD hS => ?_)
              have hP : va_P D vwCl [(a 0, .inr (1, [.ref (a 1), .ref (a 2), .ref (a 3), .ref (a 4), .ref (a 5), .ref (a 6), .ref (a 7), .ref (a 8), .ref (a 9), .int x_used, .int x_places, .int x_waiting])), (a 1, .inl (cyI, nE, .inl x_root)), (a 2, .inl (cyI, nE, .inl x_fellow)), (a 3, .inl (cyI, nE, .inl x_weight)), (a 4, .inl (cyI, nE, .inl x_on)), (a 5, .inl (cyI, nE, .inl (upd x_before (x_root L4.toNatClampNeg).toNatClampNeg (x_before L4.toNatClampNeg)))), (a 6, .inl (cyI, nE, .inl x_mate)), (a 7, .inl (cyI, nE, .inl x_home)), (a 8, .inl (cyI, nE, .inl x_absorbed)), (a 9, .inl (cyI, nP, .inl x_place))] H := hP
              have hD : va_D A [(a 0, .inr (1, [.ref (a 1), .ref (a 2), .ref (a 3), .ref (a 4), .ref (a 5), .ref (a 6), .ref (a 7), .ref (a 8), .ref (a 9), .int x_used, .int x_places, .int x_waiting])), (a 1, .inl (cyI, nE, .inl x_root)), (a 2, .inl (cyI, nE, .inl x_fellow)), (a 3, .inl (cyI, nE, .inl x_weight)), (a 4, .inl (cyI, nE, .inl x_on)), (a 5, .inl (cyI, nE, .inl (upd x_before (x_root L4.toNatClampNeg).toNatClampNeg (x_before L4.toNatClampNeg)))), (a 6, .inl (cyI, nE, .inl x_mate)), (a 7, .inl (cyI, nE, .inl x_home)), (a 8, .inl (cyI, nE, .inl x_absorbed)), (a 9, .inl (cyI, nP, .inl x_place))] := hD
              refine lv_iinc (v := (L5 + 1)) (lv' := [(5, .int (L5 + 1)), (7, .int (x_root L4.toNatClampNeg)), (6, .ref (a 5)), (0, .ref (a 0)), (3, .int L3), (4, .int L4)]) hx hb dX1_makeOne_154 hl (k := 5) rfl rfl (by decide) rfl (fun ls hl => ?_)
              refine lv_goto (tgt := 57) hx hb dX1_makeOne_157 (by decide) ?_
              exact hk_57 L3 L4 (L5 + 1) (x_root, x_fellow, x_weight, x_on, (upd x_before (x_root L4.toNatClampNeg).toNatClampNeg (x_before L4.toNatClampNeg)), x_mate, x_home, x_absorbed, x_place, x_used, x_places, x_waiting) _ _ _ hw ⟨hK, hP, hD, hS⟩ (lv_sub hl [3, 4, 5, 0] rfl)
          · have hw := hw.2 hc
            refine lv_aload_n hx hb dX1_makeOne_119 rfl (lv_at hl 2 rfl) ?_
            refine lv_aload hx hb dX1_makeOne_120 (lv_at hl 1 rfl) ?_
            refine lv_iload hx hb dX1_makeOne_122 (lv_at hl 0 rfl) ?_
            obtain ⟨hc0, hw⟩ := hw
            refine va_iald hx hb hK hP 5 0 rfl rfl hc0 dX1_makeOne_124 ?_
            refine lv_aload hx hb dX1_makeOne_125 (lv_at hl 1 rfl) ?_
            refine lv_iload hx hb dX1_makeOne_127 (lv_at hl 4 rfl) ?_
            obtain ⟨hc0, hw⟩ := hw
            refine va_iald hx hb hK hP 5 0 rfl rfl hc0 dX1_makeOne_129 ?_
            refine kx_Vv (S := SX1) (ci := 1) (As := [.int (x_before (x_root L4.toNatClampNeg).toNatClampNeg), .int (x_before L4.toNatClampNeg)]) (rest := []) (WR := []) (WN := (fun u : SX1 => [(a 0, .inr (1, [.ref (a 1), .ref (a 2), .ref (a 3), .ref (a 4), .ref (a 5), .ref (a 6), .ref (a 7), .ref (a 8), .ref (a 9), .int u.x_used, .int u.x_places, .int u.x_waiting])), (a 1, .inl (cyI, nE, .inl u.x_root)), (a 2, .inl (cyI, nE, .inl u.x_fellow)), (a 3, .inl (cyI, nE, .inl u.x_weight)), (a 4, .inl (cyI, nE, .inl u.x_on)), (a 5, .inl (cyI, nE, .inl u.x_before)), (a 6, .inl (cyI, nE, .inl u.x_mate)), (a 7, .inl (cyI, nE, .inl u.x_home)), (a 8, .inl (cyI, nE, .inl u.x_absorbed)), (a 9, .inl (cyI, nP, .inl u.x_place))])) ⟨hx, hb, hml, hown, hts⟩ (ctX1_unite l D cyI cyB cyZ cyT a nE nP F _ _ _ _) (cwV 2 hts (k_gV q_a3224016 q_144d314a q_24da5a6b q_944cf9c3 q_bf4d4321) rfl rfl rfl (by decide +kernel) ⟨Nat.le_of_ble_eq_true rfl, Nat.le_of_ble_eq_true rfl⟩) hN hw ⟨hK, hP, hD, hS⟩ hA [0, 1, 2, 3, 4, 5, 6, 7, 8, 9] [] [0, 1, 2, 3, 4, 5, 6, 7, 8, 9] rfl (by decide) rfl (by decide) (by decide) (by decide) (fun _ => rfl) rfl 0 rfl rfl hl.1 rfl (Nat.le_of_ble_eq_true rfl) dX1_makeOne_130 ⟨Nat.zero_le _, Nat.zero_le _⟩ (fun u H locs hw hW => ?_)
            obtain ⟨x_root_130, x_fellow_130, x_weight_130, x_on_130, x_before_130, x_mate_130, x_home_130, x_absorbed_130, x_place_130, x_used_130, x_places_130, x_waiting_130⟩ := u
            obtain ⟨hK, hP, hD, hS⟩ := hW
            have hP : va_P D vwCl [(a 0, .inr (1, [.ref (a 1), .ref (a 2), .ref (a 3), .ref (a 4), .ref (a 5), .ref (a 6), .ref (a 7), .ref (a 8), .ref (a 9), .int x_used_130, .int x_places_130, .int x_waiting_130])), (a 1, .inl (cyI, nE, .inl x_root_130)), (a 2, .inl (cyI, nE, .inl x_fellow_130)), (a 3, .inl (cyI, nE, .inl x_weight_130)), (a 4, .inl (cyI, nE, .inl x_on_130)), (a 5, .inl (cyI, nE, .inl x_before_130)), (a 6, .inl (cyI, nE, .inl x_mate_130)), (a 7, .inl (cyI, nE, .inl x_home_130)), (a 8, .inl (cyI, nE, .inl x_absorbed_130)), (a 9, .inl (cyI, nP, .inl x_place_130))] H := hP
            have hD : va_D A [(a 0, .inr (1, [.ref (a 1), .ref (a 2), .ref (a 3), .ref (a 4), .ref (a 5), .ref (a 6), .ref (a 7), .ref (a 8), .ref (a 9), .int x_used_130, .int x_places_130, .int x_waiting_130])), (a 1, .inl (cyI, nE, .inl x_root_130)), (a 2, .inl (cyI, nE, .inl x_fellow_130)), (a 3, .inl (cyI, nE, .inl x_weight_130)), (a 4, .inl (cyI, nE, .inl x_on_130)), (a 5, .inl (cyI, nE, .inl x_before_130)), (a 6, .inl (cyI, nE, .inl x_mate_130)), (a 7, .inl (cyI, nE, .inl x_home_130)), (a 8, .inl (cyI, nE, .inl x_absorbed_130)), (a 9, .inl (cyI, nP, .inl x_place_130))] := hD
            refine lv_goto (tgt := 154) hx hb dX1_makeOne_133 (by decide) ?_
            refine lv_iinc (v := (L5 + 1)) (lv' := [(5, .int (L5 + 1)), (7, .int (x_root L4.toNatClampNeg)), (6, .ref (a 5)), (0, .ref (a 0)), (3, .int L3), (4, .int L4)]) hx hb dX1_makeOne_154 hl (k := 5) rfl rfl (by decide) rfl (fun ls hl => ?_)
            refine lv_goto (tgt := 57) hx hb dX1_makeOne_157 (by decide) ?_
            exact hk_57 L3 L4 (L5 + 1) (x_root_130, x_fellow_130, x_weight_130, x_on_130, x_before_130, x_mate_130, x_home_130, x_absorbed_130, x_place_130, x_used_130, x_places_130, x_waiting_130) _ _ _ hw ⟨hK, hP, hD, hS⟩ (lv_sub hl [3, 4, 5, 0] rfl)
    · have hw := hw.2 hc
      refine lv_aload_n hx hb dX1_makeOne_68 rfl (lv_at hl 0 rfl) ?_
      refine va_get (ci := 1) (v := .ref (a 4)) (C := RX1) (T := TX1) (N := 12) hx hb hts iw_X1 hown hK hP 0 rfl rfl 3 (by decide) (hts (.fieldLink RX1 19 "WalkersSay$Ends" "on" "[I") q_862f7c36) (fun _ h9 => h9) rfl dX1_makeOne_69 ?_
      refine lv_goto (tgt := 92) hx hb dX1_makeOne_72 (by decide) ?_
      refine lv_astore (lv' := [(6, .ref (a 4)), (0, .ref (a 0)), (3, .int L3), (4, .int L4), (5, .int L5)]) hx hb dX1_makeOne_92 hl (by decide) rfl (fun ls hl => ?_)
      refine lv_aload_n hx hb dX1_makeOne_94 rfl (lv_at hl 1 rfl) ?_
      refine va_get (ci := 1) (v := .ref (a 1)) (C := RX1) (T := TX1) (N := 12) hx hb hts iw_X1 hown hK hP 0 rfl rfl 0 (by decide) (hts (.fieldLink RX1 7 "WalkersSay$Ends" "root" "[I") q_8d8e92ef) (fun _ h9 => h9) rfl dX1_makeOne_95 ?_
      refine lv_iload hx hb dX1_makeOne_98 (lv_at hl 3 rfl) ?_
      obtain ⟨hc0, hw⟩ := hw
      refine va_iald hx hb hK hP 1 0 rfl rfl hc0 dX1_makeOne_100 ?_
      refine lv_istore (lv' := [(7, .int (x_root L4.toNatClampNeg)), (6, .ref (a 4)), (0, .ref (a 0)), (3, .int L3), (4, .int L4), (5, .int L5)]) hx hb dX1_makeOne_101 hl (by decide) rfl (fun ls hl => ?_)
      refine lv_aload hx hb dX1_makeOne_103 (lv_at hl 1 rfl) ?_
      refine lv_iload hx hb dX1_makeOne_105 (lv_at hl 4 rfl) ?_
      obtain ⟨hc0, hw⟩ := hw
      refine va_iald hx hb hK hP 4 0 rfl rfl hc0 dX1_makeOne_107 ?_
      refine lv_if_lt (tgt := 136) hx hb dX1_makeOne_108 (by decide) (fun hc => ?_) (fun hc => ?_)
      · have hw := hw.1 hc
        refine lv_aload hx hb dX1_makeOne_136 (lv_at hl 1 rfl) ?_
        refine lv_iload hx hb dX1_makeOne_138 (lv_at hl 4 rfl) ?_
        obtain ⟨hc0, hw⟩ := hw
        refine va_iald hx hb hK hP 4 0 rfl rfl hc0 dX1_makeOne_140 ?_
        refine lv_if_lt (tgt := 154) hx hb dX1_makeOne_141 (by decide) (fun hc => ?_) (fun hc => ?_)
        · have hw := hw.1 hc
          refine lv_iinc (v := (L5 + 1)) (lv' := [(5, .int (L5 + 1)), (7, .int (x_root L4.toNatClampNeg)), (6, .ref (a 4)), (0, .ref (a 0)), (3, .int L3), (4, .int L4)]) hx hb dX1_makeOne_154 hl (k := 5) rfl rfl (by decide) rfl (fun ls hl => ?_)
          refine lv_goto (tgt := 57) hx hb dX1_makeOne_157 (by decide) ?_
          exact hk_57 L3 L4 (L5 + 1) (x_root, x_fellow, x_weight, x_on, x_before, x_mate, x_home, x_absorbed, x_place, x_used, x_places, x_waiting) _ _ _ hw ⟨hK, hP, hD, hS⟩ (lv_sub hl [3, 4, 5, 0] rfl)
        · have hw := hw.2 hc
          refine lv_aload hx hb dX1_makeOne_144 (lv_at hl 1 rfl) ?_
          refine lv_iload hx hb dX1_makeOne_146 (lv_at hl 0 rfl) ?_
          refine lv_aload hx hb dX1_makeOne_148 (lv_at hl 1 rfl) ?_
          refine lv_iload hx hb dX1_makeOne_150 (lv_at hl 4 rfl) ?_
          obtain ⟨hc0, hw⟩ := hw
          refine va_iald hx hb hK hP 4 0 rfl rfl hc0 dX1_makeOne_152 ?_
          obtain ⟨hc0, hw⟩ := hw
          refine va_iast hx hb hK hP hD hS 4 0 rfl rfl hc0 dX1_makeOne_153 (fun H locs hP hD hS => ?_)
          have hP : va_P D vwCl [(a 0, .inr (1, [.ref (a 1), .ref (a 2), .ref (a 3), .ref (a 4), .ref (a 5), .ref (a 6), .ref (a 7), .ref (a 8), .ref (a 9), .int x_used, .int x_places, .int x_waiting])), (a 1, .inl (cyI, nE, .inl x_root)), (a 2, .inl (cyI, nE, .inl x_fellow)), (a 3, .inl (cyI, nE, .inl x_weight)), (a 4, .inl (cyI, nE, .inl (upd x_on (x_root L4.toNatClampNeg).toNatClampNeg (x_on L4.toNatClampNeg)))), (a 5, .inl (cyI, nE, .inl x_before)), (a 6, .inl (cyI, nE, .inl x_mate)), (a 7, .inl (cyI, nE, .inl x_home)), (a 8, .inl (cyI, nE, .inl x_absorbed)), (a 9, .inl (cyI, nP, .inl x_place))] H := hP
          have hD : va_D A [(a 0, .inr (1, [.ref (a 1), .ref (a 2), .ref (a 3), .ref (a 4), .ref (a 5), .ref (a 6), .ref (a 7), .ref (a 8), .ref (a 9), .int x_used, .int x_places, .int x_waiting])), (a 1, .inl (cyI, nE, .inl x_root)), (a 2, .inl (cyI, nE, .inl x_fellow)), (a 3, .inl (cyI, nE, .inl x_weight)), (a 4, .inl (cyI, nE, .inl (upd x_on (x_root L4.toNatClampNeg).toNatClampNeg (x_on L4.toNatClampNeg)))), (a 5, .inl (cyI, nE, .inl x_before)), (a 6, .inl (cyI, nE, .inl x_mate)), (a 7, .inl (cyI, nE, .inl x_home)), (a 8, .inl (cyI, nE, .inl x_absorbed)), (a 9, .inl (cyI, nP, .inl x_place))] := hD
          refine lv_iinc (v := (L5 + 1)) (lv' := [(5, .int (L5 + 1)), (7, .int (x_root L4.toNatClampNeg)), (6, .ref (a 4)), (0, .ref (a 0)), (3, .int L3), (4, .int L4)]) hx hb dX1_makeOne_154 hl (k := 5) rfl rfl (by decide) rfl (fun ls hl => ?_)
          refine lv_goto (tgt := 57) hx hb dX1_makeOne_157 (by decide) ?_
          exact hk_57 L3 L4 (L5 + 1) (x_root, x_fellow, x_weight, (upd x_on (x_root L4.toNatClampNeg).toNatClampNeg (x_on L4.toNatClampNeg)), x_before, x_mate, x_home, x_absorbed, x_place, x_used, x_places, x_waiting) _ _ _ hw ⟨hK, hP, hD, hS⟩ (lv_sub hl [3, 4, 5, 0] rfl)
      · have hw := hw.2 hc
        refine lv_aload hx hb dX1_makeOne_111 (lv_at hl 1 rfl) ?_
        refine lv_iload hx hb dX1_makeOne_113 (lv_at hl 0 rfl) ?_
        obtain ⟨hc0, hw⟩ := hw
        refine va_iald hx hb hK hP 4 0 rfl rfl hc0 dX1_makeOne_115 ?_
        refine lv_if_lt (tgt := 136) hx hb dX1_makeOne_116 (by decide) (fun hc => ?_) (fun hc => ?_)
        · have hw := hw.1 hc
          refine lv_aload hx hb dX1_makeOne_136 (lv_at hl 1 rfl) ?_
          refine lv_iload hx hb dX1_makeOne_138 (lv_at hl 4 rfl) ?_
          obtain ⟨hc0, hw⟩ := hw
          refine va_iald hx hb hK hP 4 0 rfl rfl hc0 dX1_makeOne_140 ?_
          refine lv_if_lt (tgt := 154) hx hb dX1_makeOne_141 (by decide) (fun hc => ?_) (fun hc => ?_)
          · have hw := hw.1 hc
            refine lv_iinc (v := (L5 + 1)) (lv' := [(5, .int (L5 + 1)), (7, .int (x_root L4.toNatClampNeg)), (6, .ref (a 4)), (0, .ref (a 0)), (3, .int L3), (4, .int L4)]) hx hb dX1_makeOne_154 hl (k := 5) rfl rfl (by decide) rfl (fun ls hl => ?_)
            refine lv_goto (tgt := 57) hx hb dX1_makeOne_157 (by decide) ?_
            exact hk_57 L3 L4 (L5 + 1) (x_root, x_fellow, x_weight, x_on, x_before, x_mate, x_home, x_absorbed, x_place, x_used, x_places, x_waiting) _ _ _ hw ⟨hK, hP, hD, hS⟩ (lv_sub hl [3, 4, 5, 0] rfl)
          · have hw := hw.2 hc
            refine lv_aload hx hb dX1_makeOne_144 (lv_at hl 1 rfl) ?_
            refine lv_iload hx hb dX1_makeOne_146 (lv_at hl 0 rfl) ?_
            refine lv_aload hx hb dX1_makeOne_148 (lv_at hl 1 rfl) ?_
            refine lv_iload hx hb dX1_makeOne_150 (lv_at hl 4 rfl) ?_
            obtain ⟨hc0, hw⟩ := hw
            refine va_iald hx hb hK hP 4 0 rfl rfl hc0 dX1_makeOne_152 ?_
            obtain ⟨hc0, hw⟩ := hw
            refine va_iast hx hb hK hP hD hS 4 0 rfl rfl hc0 dX1_makeOne_153 (fun H locs hP hD hS => ?_)
            have hP : va_P D vwCl [(a 0, .inr (1, [.ref (a 1), .ref (a 2), .ref (a 3), .ref (a 4), .ref (a 5), .ref (a 6), .ref (a 7), .ref (a 8), .ref (a 9), .int x_used, .int x_places, .int x_waiting])), (a 1, .inl (cyI, nE, .inl x_root)), (a 2, .inl (cyI, nE, .inl x_fellow)), (a 3, .inl (cyI, nE, .inl x_weight)), (a 4, .inl (cyI, nE, .inl (upd x_on (x_root L4.toNatClampNeg).toNatClampNeg (x_on L4.toNatClampNeg)))), (a 5, .inl (cyI, nE, .inl x_before)), (a 6, .inl (cyI, nE, .inl x_mate)), (a 7, .inl (cyI, nE, .inl x_home)), (a 8, .inl (cyI, nE, .inl x_absorbed)), (a 9, .inl (cyI, nP, .inl x_place))] H := hP
            have hD : va_D A [(a 0, .inr (1, [.ref (a 1), .ref (a 2), .ref (a 3), .ref (a 4), .ref (a 5), .ref (a 6), .ref (a 7), .ref (a 8), .ref (a 9), .int x_used, .int x_places, .int x_waiting])), (a 1, .inl (cyI, nE, .inl x_root)), (a 2, .inl (cyI, nE, .inl x_fellow)), (a 3, .inl (cyI, nE, .inl x_weight)), (a 4, .inl (cyI, nE, .inl (upd x_on (x_root L4.toNatClampNeg).toNatClampNeg (x_on L4.toNatClampNeg)))), (a 5, .inl (cyI, nE, .inl x_before)), (a 6, .inl (cyI, nE, .inl x_mate)), (a 7, .inl (cyI, nE, .inl x_home)), (a 8, .inl (cyI, nE, .inl x_absorbed)), (a 9, .inl (cyI, nP, .inl x_place))] := hD
            refine lv_iinc (v := (L5 + 1)) (lv' := [(5, .int (L5 + 1)), (7, .int (x_root L4.toNatClampNeg)), (6, .ref (a 4)), (0, .ref (a 0)), (3, .int L3), (4, .int L4)]) hx hb dX1_makeOne_154 hl (k := 5) rfl rfl (by decide) rfl (fun ls hl => ?_)
            refine lv_goto (tgt := 57) hx hb dX1_makeOne_157 (by decide) ?_
            exact hk_57 L3 L4 (L5 + 1) (x_root, x_fellow, x_weight, (upd x_on (x_root L4.toNatClampNeg).toNatClampNeg (x_on L4.toNatClampNeg)), x_before, x_mate, x_home, x_absorbed, x_place, x_used, x_places, x_waiting) _ _ _ hw ⟨hK, hP, hD, hS⟩ (lv_sub hl [3, 4, 5, 0] rfl)
        · have hw := hw.2 hc
          refine lv_aload_n hx hb dX1_makeOne_119 rfl (lv_at hl 2 rfl) ?_
          refine lv_aload hx hb dX1_makeOne_120 (lv_at hl 1 rfl) ?_
          refine lv_iload hx hb dX1_makeOne_122 (lv_at hl 0 rfl) ?_
          obtain ⟨hc0, hw⟩ := hw
          refine va_iald hx hb hK hP 4 0 rfl rfl hc0 dX1_makeOne_124 ?_
          refine lv_aload hx hb dX1_makeOne_125 (lv_at hl 1 rfl) ?_
          refine lv_iload hx hb dX1_makeOne_127 (lv_at hl 4 rfl) ?_
          obtain ⟨hc0, hw⟩ := hw
          refine va_iald hx hb hK hP 4 0 rfl rfl hc0 dX1_makeOne_129 ?_
          refine kx_Vv (S := SX1) (ci := 1) (As := [.int (x_on (x_root L4.toNatClampNeg).toNatClampNeg), .int (x_on L4.toNatClampNeg)]) (rest := []) (WR := []) (WN := (fun u : SX1 => [(a 0, .inr (1, [.ref (a 1), .ref (a 2), .ref (a 3), .ref (a 4), .ref (a 5), .ref (a 6), .ref (a 7), .ref (a 8), .ref (a 9), .int u.x_used, .int u.x_places, .int u.x_waiting])), (a 1, .inl (cyI, nE, .inl u.x_root)), (a 2, .inl (cyI, nE, .inl u.x_fellow)), (a 3, .inl (cyI, nE, .inl u.x_weight)), (a 4, .inl (cyI, nE, .inl u.x_on)), (a 5, .inl (cyI, nE, .inl u.x_before)), (a 6, .inl (cyI, nE, .inl u.x_mate)), (a 7, .inl (cyI, nE, .inl u.x_home)), (a 8, .inl (cyI, nE, .inl u.x_absorbed)), (a 9, .inl (cyI, nP, .inl u.x_place))])) ⟨hx, hb, hml, hown, hts⟩ (ctX1_unite l D cyI cyB cyZ cyT a nE nP F _ _ _ _) (cwV 2 hts (k_gV q_a3224016 q_144d314a q_24da5a6b q_944cf9c3 q_bf4d4321) rfl rfl rfl (by decide +kernel) ⟨Nat.le_of_ble_eq_true rfl, Nat.le_of_ble_eq_true rfl⟩) hN hw ⟨hK, hP, hD, hS⟩ hA [0, 1, 2, 3, 4, 5, 6, 7, 8, 9] [] [0, 1, 2, 3, 4, 5, 6, 7, 8, 9] rfl (by decide) rfl (by decide) (by decide) (by decide) (fun _ => rfl) rfl 0 rfl rfl hl.1 rfl (Nat.le_of_ble_eq_true rfl) dX1_makeOne_130 ⟨Nat.zero_le _, Nat.zero_le _⟩ (fun u H locs hw hW => ?_)
          obtain ⟨x_root_130, x_fellow_130, x_weight_130, x_on_130, x_before_130, x_mate_130, x_home_130, x_absorbed_130, x_place_130, x_used_130, x_places_130, x_waiting_130⟩ := u
          obtain ⟨hK, hP, hD, hS⟩ := hW
          have hP : va_P D vwCl [(a 0, .inr (1, [.ref (a 1), .ref (a 2), .ref (a 3), .ref (a 4), .ref (a 5), .ref (a 6), .ref (a 7), .ref (a 8), .ref (a 9), .int x_used_130, .int x_places_130, .int x_waiting_130])), (a 1, .inl (cyI, nE, .inl x_root_130)), (a 2, .inl (cyI, nE, .inl x_fellow_130)), (a 3, .inl (cyI, nE, .inl x_weight_130)), (a 4, .inl (cyI, nE, .inl x_on_130)), (a 5, .inl (cyI, nE, .inl x_before_130)), (a 6, .inl (cyI, nE, .inl x_mate_130)), (a 7, .inl (cyI, nE, .inl x_home_130)), (a 8, .inl (cyI, nE, .inl x_absorbed_130)), (a 9, .inl (cyI, nP, .inl x_place_130))] H := hP
          have hD : va_D A [(a 0, .inr (1, [.ref (a 1), .ref (a 2), .ref (a 3), .ref (a 4), .ref (a 5), .ref (a 6), .ref (a 7), .ref (a 8), .ref (a 9), .int x_used_130, .int x_places_130, .int x_waiting_130])), (a 1, .inl (cyI, nE, .inl x_root_130)), (a 2, .inl (cyI, nE, .inl x_fellow_130)), (a 3, .inl (cyI, nE, .inl x_weight_130)), (a 4, .inl (cyI, nE, .inl x_on_130)), (a 5, .inl (cyI, nE, .inl x_before_130)), (a 6, .inl (cyI, nE, .inl x_mate_130)), (a 7, .inl (cyI, nE, .inl x_home_130)), (a 8, .inl (cyI, nE, .inl x_absorbed_130)), (a 9, .inl (cyI, nP, .inl x_place_130))] := hD
          refine lv_goto (tgt := 154) hx hb dX1_makeOne_133 (by decide) ?_
          refine lv_iinc (v := (L5 + 1)) (lv' := [(5, .int (L5 + 1)), (7, .int (x_root L4.toNatClampNeg)), (6, .ref (a 4)), (0, .ref (a 0)), (3, .int L3), (4, .int L4)]) hx hb dX1_makeOne_154 hl (k := 5) rfl rfl (by decide) rfl (fun ls hl => ?_)
          refine lv_goto (tgt := 57) hx hb dX1_makeOne_157 (by decide) ?_
          exact hk_57 L3 L4 (L5 + 1) (x_root_130, x_fellow_130, x_weight_130, x_on_130, x_before_130, x_mate_130, x_home_130, x_absorbed_130, x_place_130, x_used_130, x_places_130, x_waiting_130) _ _ _ hw ⟨hK, hP, hD, hS⟩ (lv_sub hl [3, 4, 5, 0] rfl)
theorem ctX1_makeOne_H57 {p : Program} {l : Launch} {e : Env} {s : State} {m : MethodId} {args : Array Value} {below : List Frame} {meth : Method} {c : Code} {A : Nat → Prop} {D : va_G} {cyI cyB cyZ cyT : ClassId} {a : Nat → Nat} {nE : Nat} {nP : Nat} {F : Nat} {Q : SX1 → Prop} {K_30 : Int32 → SX1 → Prop} (C0 : kCtx cX1_makeOne none RX1 8 p s m args meth c A) (hk_30 : ∀ (L3 : Int32) (g : SX1) (H : Heap) (locs : List Loc) (ls : Array Slot), K_30 L3 g → kWd D (kTy cyI cyB cyZ cyT) (wdX1_makeOne cyI cyB cyZ cyT a  nE nP g) A s H locs → lv_has ls 8 [(0, .ref (a 0)), (3, .int L3)] → W p l e rmX1_makeOne s m args below meth c H locs 0 0 (MQ below (qX1_makeOne D cyI cyB cyZ cyT a nE nP Q A) args s 0 0 A) (F0 m 30 ls [])) : ∀ n : Nat, ∀ (L3 : Int32) (L4 : Int32) (L5 : Int32) (g : SX1) (H : Heap) (locs : List Loc) (ls : Array Slot), wX1_makeOne_H57 nE nP F Q K_30 n L3 L4 L5 g → kWd D (kTy cyI cyB cyZ cyT) (wdX1_makeOne cyI cyB cyZ cyT a  nE nP g) A s H locs → lv_has ls 8 [(0, .ref (a 0)), (3, .int L3), (4, .int L4), (5, .int L5)] → W p l e rmX1_makeOne s m args below meth c H locs 0 0 (MQ below (qX1_makeOne D cyI cyB cyZ cyT a nE nP Q A) args s 0 0 A) (F0 m 57 ls []) := by
  intro n
  induction n with
  | zero => intro L3 L4 L5 g H locs ls hw hW hl; exact hw.elim
  | succ n ih => intro L3 L4 L5 g H locs ls hw hW hl; exact ctX1_makeOne_b57 (F := F) C0 hk_30 ih L3 L4 L5 g H locs ls hw hW hl
set_option maxHeartbeats 4000000 in
set_option maxRecDepth 100000 in
theorem ctX1_makeOne_b30 {p : Program} {l : Launch} {e : Env} {s : State} {m : MethodId} {args : Array Value} {below : List Frame} {meth : Method} {c : Code} {A : Nat → Prop} {D : va_G} {cyI cyB cyZ cyT : ClassId} {a : Nat → Nat} {nE : Nat} {nP : Nat} {F : Nat} {Q : SX1 → Prop} {K_30 : Int32 → SX1 → Prop} (C0 : kCtx cX1_makeOne none RX1 8 p s m args meth c A) (hk_30 : ∀ (L3 : Int32) (g : SX1) (H : Heap) (locs : List Loc) (ls : Array Slot), K_30 L3 g → kWd D (kTy cyI cyB cyZ cyT) (wdX1_makeOne cyI cyB cyZ cyT a  nE nP g) A s H locs → lv_has ls 8 [(0, .ref (a 0)), (3, .int L3)] → W p l e rmX1_makeOne s m args below meth c H locs 0 0 (MQ below (qX1_makeOne D cyI cyB cyZ cyT a nE nP Q A) args s 0 0 A) (F0 m 30 ls [])) : ∀ (L3 : Int32) (g : SX1) (H : Heap) (locs : List Loc) (ls : Array Slot), wX1_makeOne_b30 nE nP F Q K_30 L3 g → kWd D (kTy cyI cyB cyZ cyT) (wdX1_makeOne cyI cyB cyZ cyT a  nE nP g) A s H locs → lv_has ls 8 [(0, .ref (a 0)), (3, .int L3)] → W p l e rmX1_makeOne s m args below meth c H locs 0 0 (MQ below (qX1_makeOne D cyI cyB cyZ cyT a nE nP Q A) args s 0 0 A) (F0 m 30 ls []) := by
  intro L3 g H locs ls hw hW hl
  obtain ⟨hx, hb, hr, hts, hown, hml, hlocks, hA, hN⟩ := id C0
  obtain ⟨hK, hP, hD, hS⟩ := hW
  obtain ⟨x_root, x_fellow, x_weight, x_on, x_before, x_mate, x_home, x_absorbed, x_place, x_used, x_places, x_waiting⟩ := g
  have hP : va_P D vwCl [(a 0, .inr (1, [.ref (a 1), .ref (a 2), .ref (a 3), .ref (a 4), .ref (a 5), .ref (a 6), .ref (a 7), .ref (a 8), .ref (a 9), .int x_used, .int x_places, .int x_waiting])), (a 1, .inl (cyI, nE, .inl x_root)), (a 2, .inl (cyI, nE, .inl x_fellow)), (a 3, .inl (cyI, nE, .inl x_weight)), (a 4, .inl (cyI, nE, .inl x_on)), (a 5, .inl (cyI, nE, .inl x_before)), (a 6, .inl (cyI, nE, .inl x_mate)), (a 7, .inl (cyI, nE, .inl x_home)), (a 8, .inl (cyI, nE, .inl x_absorbed)), (a 9, .inl (cyI, nP, .inl x_place))] H := hP
  have hD : va_D A [(a 0, .inr (1, [.ref (a 1), .ref (a 2), .ref (a 3), .ref (a 4), .ref (a 5), .ref (a 6), .ref (a 7), .ref (a 8), .ref (a 9), .int x_used, .int x_places, .int x_waiting])), (a 1, .inl (cyI, nE, .inl x_root)), (a 2, .inl (cyI, nE, .inl x_fellow)), (a 3, .inl (cyI, nE, .inl x_weight)), (a 4, .inl (cyI, nE, .inl x_on)), (a 5, .inl (cyI, nE, .inl x_before)), (a 6, .inl (cyI, nE, .inl x_mate)), (a 7, .inl (cyI, nE, .inl x_home)), (a 8, .inl (cyI, nE, .inl x_absorbed)), (a 9, .inl (cyI, nP, .inl x_place))] := hD
  refine lv_iload_n hx hb dX1_makeOne_30 rfl (lv_at hl 1 rfl) ?_
  refine lv_aload_n hx hb dX1_makeOne_31 rfl (lv_at hl 0 rfl) ?_
  refine va_get (ci := 1) (v := .int x_waiting) (C := RX1) (T := TX1) (N := 12) hx hb hts iw_X1 hown hK hP 0 rfl rfl 11 (by decide) (hts (.fieldLink RX1 44 "WalkersSay$Ends" "waiting" "I") q_752eca0e) (fun _ h9 => h9) rfl dX1_makeOne_32 ?_
  refine lv_icmp_ge (tgt := 166) hx hb dX1_makeOne_35 (by decide) (fun hc => ?_) (fun hc => ?_)
  · have hw := hw.1 hc
    exact W.vret hx hb hr (fun t ht hWm => ⟨⟨(x_root, x_fellow, x_weight, x_on, x_before, x_mate, x_home, x_absorbed, x_place, x_used, x_places, x_waiting), rfl, hw, by rw [ht]; exact hP, va_K.moved hWm.alike hK, hD⟩, hS.F ht⟩) hS.2.2 dX1_makeOne_166
  · have hw := hw.2 hc
    refine lv_iload_n hx hb dX1_makeOne_38 rfl (lv_at hl 1 rfl) ?_
    refine lv_aload_n hx hb dX1_makeOne_39 rfl (lv_at hl 0 rfl) ?_
    refine va_get (ci := 1) (v := .int x_used) (C := RX1) (T := TX1) (N := 12) hx hb hts iw_X1 hown hK hP 0 rfl rfl 9 (by decide) (hts (.fieldLink RX1 37 "WalkersSay$Ends" "used" "I") q_35cbe3d8) (fun _ h9 => h9) rfl dX1_makeOne_40 ?_
    refine lv_icmp_ge (tgt := 166) hx hb dX1_makeOne_43 (by decide) (fun hc => ?_) (fun hc => ?_)
    · have hw := hw.1 hc
      exact W.vret hx hb hr (fun t ht hWm => ⟨⟨(x_root, x_fellow, x_weight, x_on, x_before, x_mate, x_home, x_absorbed, x_place, x_used, x_places, x_waiting), rfl, hw, by rw [ht]; exact hP, va_K.moved hWm.alike hK, hD⟩, hS.F ht⟩) hS.2.2 dX1_makeOne_166
    · have hw := hw.2 hc
      refine lv_aload_n hx hb dX1_makeOne_46 rfl (lv_at hl 0 rfl) ?_
      refine va_get (ci := 1) (v := .ref (a 8)) (C := RX1) (T := TX1) (N := 12) hx hb hts iw_X1 hown hK hP 0 rfl rfl 7 (by decide) (hts (.fieldLink RX1 31 "WalkersSay$Ends" "absorbed" "[I") q_0696e176) (fun _ h9 => h9) rfl dX1_makeOne_47 ?_
      refine lv_iload_n hx hb dX1_makeOne_50 rfl (lv_at hl 1 rfl) ?_
      obtain ⟨hc0, hw⟩ := hw
      refine va_iald hx hb hK hP 8 0 rfl rfl hc0 dX1_makeOne_51 ?_
      refine lv_istore (lv' := [(4, .int (x_absorbed L3.toNatClampNeg)), (0, .ref (a 0)), (3, .int L3)]) hx hb dX1_makeOne_52 hl (by decide) rfl (fun ls hl => ?_)
      refine lv_iconst (v := (0 : Int32)) hx hb dX1_makeOne_54 (by decide) ?_
      refine lv_istore (lv' := [(5, .int (0 : Int32)), (4, .int (x_absorbed L3.toNatClampNeg)), (0, .ref (a 0)), (3, .int L3)]) hx hb dX1_makeOne_55 hl (by decide) rfl (fun ls hl => ?_)
      exact ctX1_makeOne_H57 (F := F) C0 hk_30 F L3 (x_absorbed L3.toNatClampNeg) (0 : Int32) (x_root, x_fellow, x_weight, x_on, x_before, x_mate, x_home, x_absorbed, x_place, x_used, x_places, x_waiting) _ _ _ hw ⟨hK, hP, hD, hS⟩ (lv_sub hl [2, 3, 1, 0] rfl)
theorem ctX1_makeOne_H30 {p : Program} {l : Launch} {e : Env} {s : State} {m : MethodId} {args : Array Value} {below : List Frame} {meth : Method} {c : Code} {A : Nat → Prop} {D : va_G} {cyI cyB cyZ cyT : ClassId} {a : Nat → Nat} {nE : Nat} {nP : Nat} {F : Nat} {Q : SX1 → Prop} (C0 : kCtx cX1_makeOne none RX1 8 p s m args meth c A) : ∀ n : Nat, ∀ (L3 : Int32) (g : SX1) (H : Heap) (locs : List Loc) (ls : Array Slot), wX1_makeOne_H30 nE nP F Q n L3 g → kWd D (kTy cyI cyB cyZ cyT) (wdX1_makeOne cyI cyB cyZ cyT a  nE nP g) A s H locs → lv_has ls 8 [(0, .ref (a 0)), (3, .int L3)] → W p l e rmX1_makeOne s m args below meth c H locs 0 0 (MQ below (qX1_makeOne D cyI cyB cyZ cyT a nE nP Q A) args s 0 0 A) (F0 m 30 ls []) := by
  intro n
  induction n with
  | zero => intro L3 g H locs ls hw hW hl; exact hw.elim
  | succ n ih => intro L3 g H locs ls hw hW hl; exact ctX1_makeOne_b30 (F := F) C0 ih L3 g H locs ls hw hW hl
set_option maxHeartbeats 4000000 in
set_option maxRecDepth 100000 in
theorem ctX1_makeOne (l : Launch) (D : va_G) (cyI cyB cyZ cyT : ClassId) (a : Nat → Nat) (nE : Nat) (nP : Nat) (F : Nat) (g : SX1) (p1 : Int32) (p2 : Int32) (Q : SX1 → Prop) : kMv (S := SX1) l yX1_makeOne (kM yX1_makeOne cX1_makeOne 8 none) rmX1_makeOne D (kTy cyI cyB cyZ cyT) [.ref (a 0), .int p1, .int p2] (wdX1_makeOne cyI cyB cyZ cyT a  nE nP g) (wX1_makeOne nE nP F g p1 p2 Q) (fun u => Q u) (fun u : SX1 => (wdX1_makeOne cyI cyB cyZ cyT a  nE nP u)) := by
  refine kMv.of (cc := cX1_makeOne) (maxL := 8) (ret := none) (by decide) (Nat.le_of_ble_eq_true rfl) ?_
  intro p e s m below meth c A C0 hw hW ls hl
  obtain ⟨hx, hb, hr, hts, hown, hml, hlocks, hA, hN⟩ := id C0
  have hown : s.vm.findClass RX1 = some m.cls := hown
  obtain ⟨hK, hP, hD, hS⟩ := hW
  obtain ⟨x_root, x_fellow, x_weight, x_on, x_before, x_mate, x_home, x_absorbed, x_place, x_used, x_places, x_waiting⟩ := g
  have hP : va_P D vwCl [(a 0, .inr (1, [.ref (a 1), .ref (a 2), .ref (a 3), .ref (a 4), .ref (a 5), .ref (a 6), .ref (a 7), .ref (a 8), .ref (a 9), .int x_used, .int x_places, .int x_waiting])), (a 1, .inl (cyI, nE, .inl x_root)), (a 2, .inl (cyI, nE, .inl x_fellow)), (a 3, .inl (cyI, nE, .inl x_weight)), (a 4, .inl (cyI, nE, .inl x_on)), (a 5, .inl (cyI, nE, .inl x_before)), (a 6, .inl (cyI, nE, .inl x_mate)), (a 7, .inl (cyI, nE, .inl x_home)), (a 8, .inl (cyI, nE, .inl x_absorbed)), (a 9, .inl (cyI, nP, .inl x_place))] s.heap := hP
  have hD : va_D A [(a 0, .inr (1, [.ref (a 1), .ref (a 2), .ref (a 3), .ref (a 4), .ref (a 5), .ref (a 6), .ref (a 7), .ref (a 8), .ref (a 9), .int x_used, .int x_places, .int x_waiting])), (a 1, .inl (cyI, nE, .inl x_root)), (a 2, .inl (cyI, nE, .inl x_fellow)), (a 3, .inl (cyI, nE, .inl x_weight)), (a 4, .inl (cyI, nE, .inl x_on)), (a 5, .inl (cyI, nE, .inl x_before)), (a 6, .inl (cyI, nE, .inl x_mate)), (a 7, .inl (cyI, nE, .inl x_home)), (a 8, .inl (cyI, nE, .inl x_absorbed)), (a 9, .inl (cyI, nP, .inl x_place))] := hD
  have hl : lv_has ls 8 [(0, .ref (a 0)), (1, .int p1), (2, .int p2)] := hl
  refine lv_aload_n hx hb dX1_makeOne_0 rfl (lv_at hl 0 rfl) ?_
  refine lv_iload_n hx hb dX1_makeOne_1 rfl (lv_at hl 1 rfl) ?_
  refine kx_Vi (S := Unit) (ci := 1) (As := [.int p1]) (rest := []) (WR := []) (WN := (fun u : Unit => [(a 0, .inr (1, [.ref (a 1), .ref (a 2), .ref (a 3), .ref (a 4), .ref (a 5), .ref (a 6), .ref (a 7), .ref (a 8), .ref (a 9), .int x_used, .int x_places, .int x_waiting])), (a 1, .inl (cyI, nE, .inl x_root)), (a 2, .inl (cyI, nE, .inl x_fellow)), (a 3, .inl (cyI, nE, .inl x_weight)), (a 4, .inl (cyI, nE, .inl x_on)), (a 5, .inl (cyI, nE, .inl x_before)), (a 6, .inl (cyI, nE, .inl x_mate)), (a 7, .inl (cyI, nE, .inl x_home)), (a 8, .inl (cyI, nE, .inl x_absorbed)), (a 9, .inl (cyI, nP, .inl x_place))])) ⟨hx, hb, hml, hown, hts⟩ (ctX1_holds l D cyI cyB cyZ cyT a nE nP F _ _ _) (cwV 1 hts (k_gV q_2fca8bf3 q_9ff0548a q_8c13951f q_944cf9c3 q_5db661e0) rfl rfl rfl (by decide +kernel) ⟨Nat.le_of_ble_eq_true rfl, Nat.le_of_ble_eq_true rfl⟩) hN hw ⟨hK, hP, hD, hS⟩ hA [0, 1, 2, 3, 4, 5, 6, 7, 8, 9] [] [0, 1, 2, 3, 4, 5, 6, 7, 8, 9] rfl (by decide) rfl (by decide) (by decide) (by decide) (fun _ => rfl) rfl 0 rfl rfl hl.1 rfl (Nat.le_of_ble_eq_true rfl) dX1_makeOne_2 ⟨Nat.zero_le _, Nat.zero_le _⟩ (fun r2 u H locs hw hW => ?_)
  obtain ⟨hK, hP, hD, hS⟩ := hW
  have hP : va_P D vwCl [(a 0, .inr (1, [.ref (a 1), .ref (a 2), .ref (a 3), .ref (a 4), .ref (a 5), .ref (a 6), .ref (a 7), .ref (a 8), .ref (a 9), .int x_used, .int x_places, .int x_waiting])), (a 1, .inl (cyI, nE, .inl x_root)), (a 2, .inl (cyI, nE, .inl x_fellow)), (a 3, .inl (cyI, nE, .inl x_weight)), (a 4, .inl (cyI, nE, .inl x_on)), (a 5, .inl (cyI, nE, .inl x_before)), (a 6, .inl (cyI, nE, .inl x_mate)), (a 7, .inl (cyI, nE, .inl x_home)), (a 8, .inl (cyI, nE, .inl x_absorbed)), (a 9, .inl (cyI, nP, .inl x_place))] H := hP
  have hD : va_D A [(a 0, .inr (1, [.ref (a 1), .ref (a 2), .ref (a 3), .ref (a 4), .ref (a 5), .ref (a 6), .ref (a 7), .ref (a 8), .ref (a 9), .int x_used, .int x_places, .int x_waiting])), (a 1, .inl (cyI, nE, .inl x_root)), (a 2, .inl (cyI, nE, .inl x_fellow)), (a 3, .inl (cyI, nE, .inl x_weight)), (a 4, .inl (cyI, nE, .inl x_on)), (a 5, .inl (cyI, nE, .inl x_before)), (a 6, .inl (cyI, nE, .inl x_mate)), (a 7, .inl (cyI, nE, .inl x_home)), (a 8, .inl (cyI, nE, .inl x_absorbed)), (a 9, .inl (cyI, nP, .inl x_place))] := hD
  refine lv_if_eq (tgt := 16) hx hb dX1_makeOne_5 (by decide) (fun hc => ?_) (fun hc => ?_)
  · have hw := hw.1 hc
    exact W.vret hx hb hr (fun t ht hWm => ⟨⟨(x_root, x_fellow, x_weight, x_on, x_before, x_mate, x_home, x_absorbed, x_place, x_used, x_places, x_waiting), rfl, hw, by rw [ht]; exact hP, va_K.moved hWm.alike hK, hD⟩, hS.F ht⟩) hS.2.2 dX1_makeOne_16
  · have hw := hw.2 hc
    refine lv_aload_n hx hb dX1_makeOne_8 rfl (lv_at hl 0 rfl) ?_
    refine lv_iload_n hx hb dX1_makeOne_9 rfl (lv_at hl 2 rfl) ?_
    refine kx_Vi (S := Unit) (ci := 1) (As := [.int p2]) (rest := []) (WR := []) (WN := (fun u : Unit => [(a 0, .inr (1, [.ref (a 1), .ref (a 2), .ref (a 3), .ref (a 4), .ref (a 5), .ref (a 6), .ref (a 7), .ref (a 8), .ref (a 9), .int x_used, .int x_places, .int x_waiting])), (a 1, .inl (cyI, nE, .inl x_root)), (a 2, .inl (cyI, nE, .inl x_fellow)), (a 3, .inl (cyI, nE, .inl x_weight)), (a 4, .inl (cyI, nE, .inl x_on)), (a 5, .inl (cyI, nE, .inl x_before)), (a 6, .inl (cyI, nE, .inl x_mate)), (a 7, .inl (cyI, nE, .inl x_home)), (a 8, .inl (cyI, nE, .inl x_absorbed)), (a 9, .inl (cyI, nP, .inl x_place))])) ⟨hx, hb, hml, hown, hts⟩ (ctX1_holds l D cyI cyB cyZ cyT a nE nP F _ _ _) (cwV 1 hts (k_gV q_2fca8bf3 q_9ff0548a q_8c13951f q_944cf9c3 q_5db661e0) rfl rfl rfl (by decide +kernel) ⟨Nat.le_of_ble_eq_true rfl, Nat.le_of_ble_eq_true rfl⟩) hN hw ⟨hK, hP, hD, hS⟩ hA [0, 1, 2, 3, 4, 5, 6, 7, 8, 9] [] [0, 1, 2, 3, 4, 5, 6, 7, 8, 9] rfl (by decide) rfl (by decide) (by decide) (by decide) (fun _ => rfl) rfl 0 rfl rfl hl.1 rfl (Nat.le_of_ble_eq_true rfl) dX1_makeOne_10 ⟨Nat.zero_le _, Nat.zero_le _⟩ (fun r10 u H locs hw hW => ?_)
    obtain ⟨hK, hP, hD, hS⟩ := hW
    have hP : va_P D vwCl [(a 0, .inr (1, [.ref (a 1), .ref (a 2), .ref (a 3), .ref (a 4), .ref (a 5), .ref (a 6), .ref (a 7), .ref (a 8), .ref (a 9), .int x_used, .int x_places, .int x_waiting])), (a 1, .inl (cyI, nE, .inl x_root)), (a 2, .inl (cyI, nE, .inl x_fellow)), (a 3, .inl (cyI, nE, .inl x_weight)), (a 4, .inl (cyI, nE, .inl x_on)), (a 5, .inl (cyI, nE, .inl x_before)), (a 6, .inl (cyI, nE, .inl x_mate)), (a 7, .inl (cyI, nE, .inl x_home)), (a 8, .inl (cyI, nE, .inl x_absorbed)), (a 9, .inl (cyI, nP, .inl x_place))] H := hP
    have hD : va_D A [(a 0, .inr (1, [.ref (a 1), .ref (a 2), .ref (a 3), .ref (a 4), .ref (a 5), .ref (a 6), .ref (a 7), .ref (a 8), .ref (a 9), .int x_used, .int x_places, .int x_waiting])), (a 1, .inl (cyI, nE, .inl x_root)), (a 2, .inl (cyI, nE, .inl x_fellow)), (a 3, .inl (cyI, nE, .inl x_weight)), (a 4, .inl (cyI, nE, .inl x_on)), (a 5, .inl (cyI, nE, .inl x_before)), (a 6, .inl (cyI, nE, .inl x_mate)), (a 7, .inl (cyI, nE, .inl x_home)), (a 8, .inl (cyI, nE, .inl x_absorbed)), (a 9, .inl (cyI, nP, .inl x_place))] := hD
    refine lv_if_ne (tgt := 17) hx hb dX1_makeOne_13 (by decide) (fun hc => ?_) (fun hc => ?_)
    · have hw := hw.1 hc
      refine lv_aload_n hx hb dX1_makeOne_17 rfl (lv_at hl 0 rfl) ?_
      refine lv_iconst (v := (0 : Int32)) hx hb dX1_makeOne_18 (by decide) ?_
      refine va_put (ci := 1) (v := .int (0 : Int32)) (ty := .int) (C := RX1) (T := TX1) (N := 12) hx hb hts iw_X1 tyX1 tyX1_ok nmX1 hown hK hP hD hS 0 rfl rfl 11 (by decide) (hts (.fieldLink RX1 44 "WalkersSay$Ends" "waiting" "I") q_752eca0e) (fun _ h9 => h9) rfl (by decide +kernel) rfl rfl (Nat.le_of_ble_eq_true rfl) dX1_makeOne_19 (fun H locs hP hD hS => ?_)
      have hP : va_P D vwCl [(a 0, .inr (1, [.ref (a 1), .ref (a 2), .ref (a 3), .ref (a 4), .ref (a 5), .ref (a 6), .ref (a 7), .ref (a 8), .ref (a 9), .int x_used, .int x_places, .int (0 : Int32)])), (a 1, .inl (cyI, nE, .inl x_root)), (a 2, .inl (cyI, nE, .inl x_fellow)), (a 3, .inl (cyI, nE, .inl x_weight)), (a 4, .inl (cyI, nE, .inl x_on)), (a 5, .inl (cyI, nE, .inl x_before)), (a 6, .inl (cyI, nE, .inl x_mate)), (a 7, .inl (cyI, nE, .inl x_home)), (a 8, .inl (cyI, nE, .inl x_absorbed)), (a 9, .inl (cyI, nP, .inl x_place))] H := hP
      have hD : va_D A [(a 0, .inr (1, [.ref (a 1), .ref (a 2), .ref (a 3), .ref (a 4), .ref (a 5), .ref (a 6), .ref (a 7), .ref (a 8), .ref (a 9), .int x_used, .int x_places, .int (0 : Int32)])), (a 1, .inl (cyI, nE, .inl x_root)), (a 2, .inl (cyI, nE, .inl x_fellow)), (a 3, .inl (cyI, nE, .inl x_weight)), (a 4, .inl (cyI, nE, .inl x_on)), (a 5, .inl (cyI, nE, .inl x_before)), (a 6, .inl (cyI, nE, .inl x_mate)), (a 7, .inl (cyI, nE, .inl x_home)), (a 8, .inl (cyI, nE, .inl x_absorbed)), (a 9, .inl (cyI, nP, .inl x_place))] := hD
      refine lv_aload_n hx hb dX1_makeOne_22 rfl (lv_at hl 0 rfl) ?_
      refine lv_iload_n hx hb dX1_makeOne_23 rfl (lv_at hl 1 rfl) ?_
      refine lv_iload_n hx hb dX1_makeOne_24 rfl (lv_at hl 2 rfl) ?_
      refine kx_Vv (S := SX1) (ci := 1) (As := [.int p1, .int p2]) (rest := []) (WR := []) (WN := (fun u : SX1 => [(a 0, .inr (1, [.ref (a 1), .ref (a 2), .ref (a 3), .ref (a 4), .ref (a 5), .ref (a 6), .ref (a 7), .ref (a 8), .ref (a 9), .int u.x_used, .int u.x_places, .int u.x_waiting])), (a 1, .inl (cyI, nE, .inl u.x_root)), (a 2, .inl (cyI, nE, .inl u.x_fellow)), (a 3, .inl (cyI, nE, .inl u.x_weight)), (a 4, .inl (cyI, nE, .inl u.x_on)), (a 5, .inl (cyI, nE, .inl u.x_before)), (a 6, .inl (cyI, nE, .inl u.x_mate)), (a 7, .inl (cyI, nE, .inl u.x_home)), (a 8, .inl (cyI, nE, .inl u.x_absorbed)), (a 9, .inl (cyI, nP, .inl u.x_place))])) ⟨hx, hb, hml, hown, hts⟩ (ctX1_unite l D cyI cyB cyZ cyT a nE nP F _ _ _ _) (cwV 2 hts (k_gV q_a3224016 q_144d314a q_24da5a6b q_944cf9c3 q_bf4d4321) rfl rfl rfl (by decide +kernel) ⟨Nat.le_of_ble_eq_true rfl, Nat.le_of_ble_eq_true rfl⟩) hN hw ⟨hK, hP, hD, hS⟩ hA [0, 1, 2, 3, 4, 5, 6, 7, 8, 9] [] [0, 1, 2, 3, 4, 5, 6, 7, 8, 9] rfl (by decide) rfl (by decide) (by decide) (by decide) (fun _ => rfl) rfl 0 rfl rfl hl.1 rfl (Nat.le_of_ble_eq_true rfl) dX1_makeOne_25 ⟨Nat.zero_le _, Nat.zero_le _⟩ (fun u H locs hw hW => ?_)
      obtain ⟨x_root_25, x_fellow_25, x_weight_25, x_on_25, x_before_25, x_mate_25, x_home_25, x_absorbed_25, x_place_25, x_used_25, x_places_25, x_waiting_25⟩ := u
      obtain ⟨hK, hP, hD, hS⟩ := hW
      have hP : va_P D vwCl [(a 0, .inr (1, [.ref (a 1), .ref (a 2), .ref (a 3), .ref (a 4), .ref (a 5), .ref (a 6), .ref (a 7), .ref (a 8), .ref (a 9), .int x_used_25, .int x_places_25, .int x_waiting_25])), (a 1, .inl (cyI, nE, .inl x_root_25)), (a 2, .inl (cyI, nE, .inl x_fellow_25)), (a 3, .inl (cyI, nE, .inl x_weight_25)), (a 4, .inl (cyI, nE, .inl x_on_25)), (a 5, .inl (cyI, nE, .inl x_before_25)), (a 6, .inl (cyI, nE, .inl x_mate_25)), (a 7, .inl (cyI, nE, .inl x_home_25)), (a 8, .inl (cyI, nE, .inl x_absorbed_25)), (a 9, .inl (cyI, nP, .inl x_place_25))] H := hP
      have hD : va_D A [(a 0, .inr (1, [.ref (a 1), .ref (a 2), .ref (a 3), .ref (a 4), .ref (a 5), .ref (a 6), .ref (a 7), .ref (a 8), .ref (a 9), .int x_used_25, .int x_places_25, .int x_waiting_25])), (a 1, .inl (cyI, nE, .inl x_root_25)), (a 2, .inl (cyI, nE, .inl x_fellow_25)), (a 3, .inl (cyI, nE, .inl x_weight_25)), (a 4, .inl (cyI, nE, .inl x_on_25)), (a 5, .inl (cyI, nE, .inl x_before_25)), (a 6, .inl (cyI, nE, .inl x_mate_25)), (a 7, .inl (cyI, nE, .inl x_home_25)), (a 8, .inl (cyI, nE, .inl x_absorbed_25)), (a 9, .inl (cyI, nP, .inl x_place_25))] := hD
      refine lv_iconst (v := (0 : Int32)) hx hb dX1_makeOne_28 (by decide) ?_
      refine lv_istore_n (lv' := [(3, .int (0 : Int32)), (0, .ref (a 0)), (1, .int p1), (2, .int p2)]) hx hb dX1_makeOne_29 rfl hl (by decide) rfl (fun ls hl => ?_)
      exact ctX1_makeOne_H30 (F := F) C0 F (0 : Int32) (x_root_25, x_fellow_25, x_weight_25, x_on_25, x_before_25, x_mate_25, x_home_25, x_absorbed_25, x_place_25, x_used_25, x_places_25, x_waiting_25) _ _ _ hw ⟨hK, hP, hD, hS⟩ (lv_sub hl [1, 0] rfl)
    · have hw := hw.2 hc
      exact W.vret hx hb hr (fun t ht hWm => ⟨⟨(x_root, x_fellow, x_weight, x_on, x_before, x_mate, x_home, x_absorbed, x_place, x_used, x_places, x_waiting), rfl, hw, by rw [ht]; exact hP, va_K.moved hWm.alike hK, hD⟩, hS.F ht⟩) hS.2.2 dX1_makeOne_16
-- ===== RX1.areOne(II)Z
abbrev wdX1_areOne (cyI cyB cyZ cyT : ClassId) (a : Nat → Nat) (nE : Nat) (nP : Nat) (g : SX1) : va_W := [(a 0, .inr (1, [.ref (a 1), .ref (a 2), .ref (a 3), .ref (a 4), .ref (a 5), .ref (a 6), .ref (a 7), .ref (a 8), .ref (a 9), .int g.x_used, .int g.x_places, .int g.x_waiting])), (a 1, .inl (cyI, nE, .inl g.x_root)), (a 2, .inl (cyI, nE, .inl g.x_fellow)), (a 3, .inl (cyI, nE, .inl g.x_weight)), (a 4, .inl (cyI, nE, .inl g.x_on)), (a 5, .inl (cyI, nE, .inl g.x_before)), (a 6, .inl (cyI, nE, .inl g.x_mate)), (a 7, .inl (cyI, nE, .inl g.x_home)), (a 8, .inl (cyI, nE, .inl g.x_absorbed)), (a 9, .inl (cyI, nP, .inl g.x_place))]
abbrev rmX1_areOne : Room := { frames := 0, cells := 0, slots := 0, locals := 0 }
abbrev qX1_areOne (D : va_G) (cyI cyB cyZ cyT : ClassId) (a : Nat → Nat) (nE : Nat) (nP : Nat) (g : SX1) (Q : Int32 → Prop) (A : Nat → Prop) : Array Value → State → Outcome → State → Prop := va_Qi (S := Unit) (fun r _ => Q r) (kB D (kTy cyI cyB cyZ cyT) (fun u : Unit => (wdX1_areOne cyI cyB cyZ cyT a  nE nP g)) A) A
def wX1_areOne (nE : Nat) (nP : Nat) (F : Nat) (g : SX1) (p1 : Int32) (p2 : Int32) (Q : Int32 → Prop) : Prop := ((p1 < 0 → (Q (0 : Int32))) ∧ (¬ (p1 < 0) → ((p2 < 0 → (Q (0 : Int32))) ∧ (¬ (p2 < 0) → ((g.x_used ≤ p1 → (Q (0 : Int32))) ∧ (¬ (g.x_used ≤ p1) → ((g.x_used ≤ p2 → (Q (0 : Int32))) ∧ (¬ (g.x_used ≤ p2) → (vp_in p1 nE) ∧ (vp_in p2 nE) ∧ ((¬ (g.x_root p1.toNatClampNeg) = (g.x_root p2.toNatClampNeg) → (Q (0 : Int32))) ∧ ((g.x_root p1.toNatClampNeg) = (g.x_root p2.toNatClampNeg) → (Q (1 : Int32))))))))))))
set_option maxHeartbeats 4000000 in
set_option maxRecDepth 100000 in
theorem ctX1_areOne (l : Launch) (D : va_G) (cyI cyB cyZ cyT : ClassId) (a : Nat → Nat) (nE : Nat) (nP : Nat) (F : Nat) (g : SX1) (p1 : Int32) (p2 : Int32) (Q : Int32 → Prop) : kMi (S := Unit) l yX1_areOne (kM yX1_areOne cX1_areOne 3 (some .boolean)) rmX1_areOne D (kTy cyI cyB cyZ cyT) [.ref (a 0), .int p1, .int p2] (wdX1_areOne cyI cyB cyZ cyT a  nE nP g) (wX1_areOne nE nP F g p1 p2 Q) (fun r _ => Q r) (fun u : Unit => (wdX1_areOne cyI cyB cyZ cyT a  nE nP g)) := by
  refine kMi.of (cc := cX1_areOne) (maxL := 3) (ret := (some .boolean)) (by decide) (Nat.le_of_ble_eq_true rfl) ?_
  intro p e s m below meth c A C0 hw hW ls hl
  obtain ⟨hx, hb, hr, hts, hown, hml, hlocks, hA, hN⟩ := id C0
  have hown : s.vm.findClass RX1 = some m.cls := hown
  obtain ⟨hK, hP, hD, hS⟩ := hW
  obtain ⟨x_root, x_fellow, x_weight, x_on, x_before, x_mate, x_home, x_absorbed, x_place, x_used, x_places, x_waiting⟩ := g
  have hP : va_P D vwCl [(a 0, .inr (1, [.ref (a 1), .ref (a 2), .ref (a 3), .ref (a 4), .ref (a 5), .ref (a 6), .ref (a 7), .ref (a 8), .ref (a 9), .int x_used, .int x_places, .int x_waiting])), (a 1, .inl (cyI, nE, .inl x_root)), (a 2, .inl (cyI, nE, .inl x_fellow)), (a 3, .inl (cyI, nE, .inl x_weight)), (a 4, .inl (cyI, nE, .inl x_on)), (a 5, .inl (cyI, nE, .inl x_before)), (a 6, .inl (cyI, nE, .inl x_mate)), (a 7, .inl (cyI, nE, .inl x_home)), (a 8, .inl (cyI, nE, .inl x_absorbed)), (a 9, .inl (cyI, nP, .inl x_place))] s.heap := hP
  have hD : va_D A [(a 0, .inr (1, [.ref (a 1), .ref (a 2), .ref (a 3), .ref (a 4), .ref (a 5), .ref (a 6), .ref (a 7), .ref (a 8), .ref (a 9), .int x_used, .int x_places, .int x_waiting])), (a 1, .inl (cyI, nE, .inl x_root)), (a 2, .inl (cyI, nE, .inl x_fellow)), (a 3, .inl (cyI, nE, .inl x_weight)), (a 4, .inl (cyI, nE, .inl x_on)), (a 5, .inl (cyI, nE, .inl x_before)), (a 6, .inl (cyI, nE, .inl x_mate)), (a 7, .inl (cyI, nE, .inl x_home)), (a 8, .inl (cyI, nE, .inl x_absorbed)), (a 9, .inl (cyI, nP, .inl x_place))] := hD
  have hl : lv_has ls 3 [(0, .ref (a 0)), (1, .int p1), (2, .int p2)] := hl
  refine lv_iload_n hx hb dX1_areOne_0 rfl (lv_at hl 1 rfl) ?_
  refine lv_if_lt (tgt := 43) hx hb dX1_areOne_1 (by decide) (fun hc => ?_) (fun hc => ?_)
  · have hw := hw.1 hc
    refine lv_iconst (v := (0 : Int32)) hx hb dX1_areOne_43 (by decide) ?_
    exact W.zret (ty := .boolean) (v := (0 : Int32)) hx hb hr rfl (fun t ht hWm => ⟨⟨(0 : Int32), (), rfl, hw, by rw [ht]; exact hP, va_K.moved hWm.alike hK, hD⟩, hS.F ht⟩) hS.2.2 dX1_areOne_44
  · have hw := hw.2 hc
    refine lv_iload_n hx hb dX1_areOne_4 rfl (lv_at hl 2 rfl) ?_
    refine lv_if_lt (tgt := 43) hx hb dX1_areOne_5 (by decide) (fun hc => ?_) (fun hc => ?_)
    · have hw := hw.1 hc
      refine lv_iconst (v := (0 : Int32)) hx hb dX1_areOne_43 (by decide) ?_
      exact W.zret (ty := .boolean) (v := (0 : Int32)) hx hb hr rfl (fun t ht hWm => ⟨⟨(0 : Int32), (), rfl, hw, by rw [ht]; exact hP, va_K.moved hWm.alike hK, hD⟩, hS.F ht⟩) hS.2.2 dX1_areOne_44
    · have hw := hw.2 hc
      refine lv_iload_n hx hb dX1_areOne_8 rfl (lv_at hl 1 rfl) ?_
      refine lv_aload_n hx hb dX1_areOne_9 rfl (lv_at hl 0 rfl) ?_
      refine va_get (ci := 1) (v := .int x_used) (C := RX1) (T := TX1) (N := 12) hx hb hts iw_X1 hown hK hP 0 rfl rfl 9 (by decide) (hts (.fieldLink RX1 37 "WalkersSay$Ends" "used" "I") q_35cbe3d8) (fun _ h9 => h9) rfl dX1_areOne_10 ?_
      refine lv_icmp_ge (tgt := 43) hx hb dX1_areOne_13 (by decide) (fun hc => ?_) (fun hc => ?_)
      · have hw := hw.1 hc
        refine lv_iconst (v := (0 : Int32)) hx hb dX1_areOne_43 (by decide) ?_
        exact W.zret (ty := .boolean) (v := (0 : Int32)) hx hb hr rfl (fun t ht hWm => ⟨⟨(0 : Int32), (), rfl, hw, by rw [ht]; exact hP, va_K.moved hWm.alike hK, hD⟩, hS.F ht⟩) hS.2.2 dX1_areOne_44
      · have hw := hw.2 hc
        refine lv_iload_n hx hb dX1_areOne_16 rfl (lv_at hl 2 rfl) ?_
        refine lv_aload_n hx hb dX1_areOne_17 rfl (lv_at hl 0 rfl) ?_
        refine va_get (ci := 1) (v := .int x_used) (C := RX1) (T := TX1) (N := 12) hx hb hts iw_X1 hown hK hP 0 rfl rfl 9 (by decide) (hts (.fieldLink RX1 37 "WalkersSay$Ends" "used" "I") q_35cbe3d8) (fun _ h9 => h9) rfl dX1_areOne_18 ?_
        refine lv_icmp_ge (tgt := 43) hx hb dX1_areOne_21 (by decide) (fun hc => ?_) (fun hc => ?_)
        · have hw := hw.1 hc
          refine lv_iconst (v := (0 : Int32)) hx hb dX1_areOne_43 (by decide) ?_
          exact W.zret (ty := .boolean) (v := (0 : Int32)) hx hb hr rfl (fun t ht hWm => ⟨⟨(0 : Int32), (), rfl, hw, by rw [ht]; exact hP, va_K.moved hWm.alike hK, hD⟩, hS.F ht⟩) hS.2.2 dX1_areOne_44
        · have hw := hw.2 hc
          refine lv_aload_n hx hb dX1_areOne_24 rfl (lv_at hl 0 rfl) ?_
          refine va_get (ci := 1) (v := .ref (a 1)) (C := RX1) (T := TX1) (N := 12) hx hb hts iw_X1 hown hK hP 0 rfl rfl 0 (by decide) (hts (.fieldLink RX1 7 "WalkersSay$Ends" "root" "[I") q_8d8e92ef) (fun _ h9 => h9) rfl dX1_areOne_25 ?_
          refine lv_iload_n hx hb dX1_areOne_28 rfl (lv_at hl 1 rfl) ?_
          obtain ⟨hc0, hw⟩ := hw
          refine va_iald hx hb hK hP 1 0 rfl rfl hc0 dX1_areOne_29 ?_
          refine lv_aload_n hx hb dX1_areOne_30 rfl (lv_at hl 0 rfl) ?_
          refine va_get (ci := 1) (v := .ref (a 1)) (C := RX1) (T := TX1) (N := 12) hx hb hts iw_X1 hown hK hP 0 rfl rfl 0 (by decide) (hts (.fieldLink RX1 7 "WalkersSay$Ends" "root" "[I") q_8d8e92ef) (fun _ h9 => h9) rfl dX1_areOne_31 ?_
          refine lv_iload_n hx hb dX1_areOne_34 rfl (lv_at hl 2 rfl) ?_
          obtain ⟨hc0, hw⟩ := hw
          refine va_iald hx hb hK hP 1 0 rfl rfl hc0 dX1_areOne_35 ?_
          refine lv_icmp_ne (tgt := 43) hx hb dX1_areOne_36 (by decide) (fun hc => ?_) (fun hc => ?_)
          · have hw := hw.1 hc
            refine lv_iconst (v := (0 : Int32)) hx hb dX1_areOne_43 (by decide) ?_
            exact W.zret (ty := .boolean) (v := (0 : Int32)) hx hb hr rfl (fun t ht hWm => ⟨⟨(0 : Int32), (), rfl, hw, by rw [ht]; exact hP, va_K.moved hWm.alike hK, hD⟩, hS.F ht⟩) hS.2.2 dX1_areOne_44
          · have hw := hw.2 hc
            refine lv_iconst (v := (1 : Int32)) hx hb dX1_areOne_39 (by decide) ?_
            refine lv_goto (tgt := 44) hx hb dX1_areOne_40 (by decide) ?_
            exact W.zret (ty := .boolean) (v := (1 : Int32)) hx hb hr rfl (fun t ht hWm => ⟨⟨(1 : Int32), (), rfl, hw, by rw [ht]; exact hP, va_K.moved hWm.alike hK, hD⟩, hS.F ht⟩) hS.2.2 dX1_areOne_44
-- ===== RX1.areAtOnePlace(II)Z
abbrev wdX1_areAtOnePlace (cyI cyB cyZ cyT : ClassId) (a : Nat → Nat) (nE : Nat) (nP : Nat) (g : SX1) : va_W := [(a 0, .inr (1, [.ref (a 1), .ref (a 2), .ref (a 3), .ref (a 4), .ref (a 5), .ref (a 6), .ref (a 7), .ref (a 8), .ref (a 9), .int g.x_used, .int g.x_places, .int g.x_waiting])), (a 1, .inl (cyI, nE, .inl g.x_root)), (a 2, .inl (cyI, nE, .inl g.x_fellow)), (a 3, .inl (cyI, nE, .inl g.x_weight)), (a 4, .inl (cyI, nE, .inl g.x_on)), (a 5, .inl (cyI, nE, .inl g.x_before)), (a 6, .inl (cyI, nE, .inl g.x_mate)), (a 7, .inl (cyI, nE, .inl g.x_home)), (a 8, .inl (cyI, nE, .inl g.x_absorbed)), (a 9, .inl (cyI, nP, .inl g.x_place))]
abbrev rmX1_areAtOnePlace : Room := { frames := 0, cells := 0, slots := 0, locals := 0 }
abbrev qX1_areAtOnePlace (D : va_G) (cyI cyB cyZ cyT : ClassId) (a : Nat → Nat) (nE : Nat) (nP : Nat) (g : SX1) (Q : Int32 → Prop) (A : Nat → Prop) : Array Value → State → Outcome → State → Prop := va_Qi (S := Unit) (fun r _ => Q r) (kB D (kTy cyI cyB cyZ cyT) (fun u : Unit => (wdX1_areAtOnePlace cyI cyB cyZ cyT a  nE nP g)) A) A
def wX1_areAtOnePlace (nE : Nat) (nP : Nat) (F : Nat) (g : SX1) (p1 : Int32) (p2 : Int32) (Q : Int32 → Prop) : Prop := ((p1 < 0 → (Q (0 : Int32))) ∧ (¬ (p1 < 0) → ((p2 < 0 → (Q (0 : Int32))) ∧ (¬ (p2 < 0) → ((g.x_used ≤ p1 → (Q (0 : Int32))) ∧ (¬ (g.x_used ≤ p1) → ((g.x_used ≤ p2 → (Q (0 : Int32))) ∧ (¬ (g.x_used ≤ p2) → (vp_in p1 nE) ∧ (vp_in (g.x_home p1.toNatClampNeg) nP) ∧ (vp_in p2 nE) ∧ (vp_in (g.x_home p2.toNatClampNeg) nP) ∧ ((¬ (g.x_place (g.x_home p1.toNatClampNeg).toNatClampNeg) = (g.x_place (g.x_home p2.toNatClampNeg).toNatClampNeg) → (Q (0 : Int32))) ∧ ((g.x_place (g.x_home p1.toNatClampNeg).toNatClampNeg) = (g.x_place (g.x_home p2.toNatClampNeg).toNatClampNeg) → (Q (1 : Int32))))))))))))
set_option maxHeartbeats 4000000 in
set_option maxRecDepth 100000 in
theorem ctX1_areAtOnePlace (l : Launch) (D : va_G) (cyI cyB cyZ cyT : ClassId) (a : Nat → Nat) (nE : Nat) (nP : Nat) (F : Nat) (g : SX1) (p1 : Int32) (p2 : Int32) (Q : Int32 → Prop) : kMi (S := Unit) l yX1_areAtOnePlace (kM yX1_areAtOnePlace cX1_areAtOnePlace 3 (some .boolean)) rmX1_areAtOnePlace D (kTy cyI cyB cyZ cyT) [.ref (a 0), .int p1, .int p2] (wdX1_areAtOnePlace cyI cyB cyZ cyT a  nE nP g) (wX1_areAtOnePlace nE nP F g p1 p2 Q) (fun r _ => Q r) (fun u : Unit => (wdX1_areAtOnePlace cyI cyB cyZ cyT a  nE nP g)) := by
  refine kMi.of (cc := cX1_areAtOnePlace) (maxL := 3) (ret := (some .boolean)) (by decide) (Nat.le_of_ble_eq_true rfl) ?_
  intro p e s m below meth c A C0 hw hW ls hl
  obtain ⟨hx, hb, hr, hts, hown, hml, hlocks, hA, hN⟩ := id C0
  have hown : s.vm.findClass RX1 = some m.cls := hown
  obtain ⟨hK, hP, hD, hS⟩ := hW
  obtain ⟨x_root, x_fellow, x_weight, x_on, x_before, x_mate, x_home, x_absorbed, x_place, x_used, x_places, x_waiting⟩ := g
  have hP : va_P D vwCl [(a 0, .inr (1, [.ref (a 1), .ref (a 2), .ref (a 3), .ref (a 4), .ref (a 5), .ref (a 6), .ref (a 7), .ref (a 8), .ref (a 9), .int x_used, .int x_places, .int x_waiting])), (a 1, .inl (cyI, nE, .inl x_root)), (a 2, .inl (cyI, nE, .inl x_fellow)), (a 3, .inl (cyI, nE, .inl x_weight)), (a 4, .inl (cyI, nE, .inl x_on)), (a 5, .inl (cyI, nE, .inl x_before)), (a 6, .inl (cyI, nE, .inl x_mate)), (a 7, .inl (cyI, nE, .inl x_home)), (a 8, .inl (cyI, nE, .inl x_absorbed)), (a 9, .inl (cyI, nP, .inl x_place))] s.heap := hP
  have hD : va_D A [(a 0, .inr (1, [.ref (a 1), .ref (a 2), .ref (a 3), .ref (a 4), .ref (a 5), .ref (a 6), .ref (a 7), .ref (a 8), .ref (a 9), .int x_used, .int x_places, .int x_waiting])), (a 1, .inl (cyI, nE, .inl x_root)), (a 2, .inl (cyI, nE, .inl x_fellow)), (a 3, .inl (cyI, nE, .inl x_weight)), (a 4, .inl (cyI, nE, .inl x_on)), (a 5, .inl (cyI, nE, .inl x_before)), (a 6, .inl (cyI, nE, .inl x_mate)), (a 7, .inl (cyI, nE, .inl x_home)), (a 8, .inl (cyI, nE, .inl x_absorbed)), (a 9, .inl (cyI, nP, .inl x_place))] := hD
  have hl : lv_has ls 3 [(0, .ref (a 0)), (1, .int p1), (2, .int p2)] := hl
  refine lv_iload_n hx hb dX1_areAtOnePlace_0 rfl (lv_at hl 1 rfl) ?_
  refine lv_if_lt (tgt := 53) hx hb dX1_areAtOnePlace_1 (by decide) (fun hc => ?_) (fun hc => ?_)
  · have hw := hw.1 hc
    refine lv_iconst (v := (0 : Int32)) hx hb dX1_areAtOnePlace_53 (by decide) ?_
    exact W.zret (ty := .boolean) (v := (0 : Int32)) hx hb hr rfl (fun t ht hWm => ⟨⟨(0 : Int32), (), rfl, hw, by rw [ht]; exact hP, va_K.moved hWm.alike hK, hD⟩, hS.F ht⟩) hS.2.2 dX1_areAtOnePlace_54
  · have hw := hw.2 hc
    refine lv_iload_n hx hb dX1_areAtOnePlace_4 rfl (lv_at hl 2 rfl) ?_
    refine lv_if_lt (tgt := 53) hx hb dX1_areAtOnePlace_5 (by decide) (fun hc => ?_) (fun hc => ?_)
    · have hw := hw.1 hc
      refine lv_iconst (v := (0 : Int32)) hx hb dX1_areAtOnePlace_53 (by decide) ?_
      exact W.zret (ty := .boolean) (v := (0 : Int32)) hx hb hr rfl (fun t ht hWm => ⟨⟨(0 : Int32), (), rfl, hw, by rw [ht]; exact hP, va_K.moved hWm.alike hK, hD⟩, hS.F ht⟩) hS.2.2 dX1_areAtOnePlace_54
    · have hw := hw.2 hc
      refine lv_iload_n hx hb dX1_areAtOnePlace_8 rfl (lv_at hl 1 rfl) ?_
      refine lv_aload_n hx hb dX1_areAtOnePlace_9 rfl (lv_at hl 0 rfl) ?_
      refine va_get (ci := 1) (v := .int x_used) (C := RX1) (T := TX1) (N := 12) hx hb hts iw_X1 hown hK hP 0 rfl rfl 9 (by decide) (hts (.fieldLink RX1 37 "WalkersSay$Ends" "used" "I") q_35cbe3d8) (fun _ h9 => h9) rfl dX1_areAtOnePlace_10 ?_
      refine lv_icmp_ge (tgt := 53) hx hb dX1_areAtOnePlace_13 (by decide) (fun hc => ?_) (fun hc => ?_)
      · have hw := hw.1 hc
        refine lv_iconst (v := (0 : Int32)) hx hb dX1_areAtOnePlace_53 (by decide) ?_
        exact W.zret (ty := .boolean) (v := (0 : Int32)) hx hb hr rfl (fun t ht hWm => ⟨⟨(0 : Int32), (), rfl, hw, by rw [ht]; exact hP, va_K.moved hWm.alike hK, hD⟩, hS.F ht⟩) hS.2.2 dX1_areAtOnePlace_54
      · have hw := hw.2 hc
        refine lv_iload_n hx hb dX1_areAtOnePlace_16 rfl (lv_at hl 2 rfl) ?_
        refine lv_aload_n hx hb dX1_areAtOnePlace_17 rfl (lv_at hl 0 rfl) ?_
        refine va_get (ci := 1) (v := .int x_used) (C := RX1) (T := TX1) (N := 12) hx hb hts iw_X1 hown hK hP 0 rfl rfl 9 (by decide) (hts (.fieldLink RX1 37 "WalkersSay$Ends" "used" "I") q_35cbe3d8) (fun _ h9 => h9) rfl dX1_areAtOnePlace_18 ?_
        refine lv_icmp_ge (tgt := 53) hx hb dX1_areAtOnePlace_21 (by decide) (fun hc => ?_) (fun hc => ?_)
        · have hw := hw.1 hc
          refine lv_iconst (v := (0 : Int32)) hx hb dX1_areAtOnePlace_53 (by decide) ?_
          exact W.zret (ty := .boolean) (v := (0 : Int32)) hx hb hr rfl (fun t ht hWm => ⟨⟨(0 : Int32), (), rfl, hw, by rw [ht]; exact hP, va_K.moved hWm.alike hK, hD⟩, hS.F ht⟩) hS.2.2 dX1_areAtOnePlace_54
        · have hw := hw.2 hc
          refine lv_aload_n hx hb dX1_areAtOnePlace_24 rfl (lv_at hl 0 rfl) ?_
          refine va_get (ci := 1) (v := .ref (a 9)) (C := RX1) (T := TX1) (N := 12) hx hb hts iw_X1 hown hK hP 0 rfl rfl 8 (by decide) (hts (.fieldLink RX1 34 "WalkersSay$Ends" "place" "[I") q_8fd41dec) (fun _ h9 => h9) rfl dX1_areAtOnePlace_25 ?_
          refine lv_aload_n hx hb dX1_areAtOnePlace_28 rfl (lv_at hl 0 rfl) ?_
          refine va_get (ci := 1) (v := .ref (a 7)) (C := RX1) (T := TX1) (N := 12) hx hb hts iw_X1 hown hK hP 0 rfl rfl 6 (by decide) (hts (.fieldLink RX1 28 "WalkersSay$Ends" "home" "[I") q_3d1e39c2) (fun _ h9 => h9) rfl dX1_areAtOnePlace_29 ?_
          refine lv_iload_n hx hb dX1_areAtOnePlace_32 rfl (lv_at hl 1 rfl) ?_
          obtain ⟨hc0, hw⟩ := hw
          refine va_iald hx hb hK hP 7 0 rfl rfl hc0 dX1_areAtOnePlace_33 ?_
          obtain ⟨hc0, hw⟩ := hw
          refine va_iald hx hb hK hP 9 0 rfl rfl hc0 dX1_areAtOnePlace_34 ?_
          refine lv_aload_n hx hb dX1_areAtOnePlace_35 rfl (lv_at hl 0 rfl) ?_
          refine va_get (ci := 1) (v := .ref (a 9)) (C := RX1) (T := TX1) (N := 12) hx hb hts iw_X1 hown hK hP 0 rfl rfl 8 (by decide) (hts (.fieldLink RX1 34 "WalkersSay$Ends" "place" "[I") q_8fd41dec) (fun _ h9 => h9) rfl dX1_areAtOnePlace_36 ?_
          refine lv_aload_n hx hb dX1_areAtOnePlace_39 rfl (lv_at hl 0 rfl) ?_
          refine va_get (ci := 1) (v := .ref (a 7)) (C := RX1) (T := TX1) (N := 12) hx hb hts iw_X1 hown hK hP 0 rfl rfl 6 (by decide) (hts (.fieldLink RX1 28 "WalkersSay$Ends" "home" "[I") q_3d1e39c2) (fun _ h9 => h9) rfl dX1_areAtOnePlace_40 ?_
          refine lv_iload_n hx hb dX1_areAtOnePlace_43 rfl (lv_at hl 2 rfl) ?_
          obtain ⟨hc0, hw⟩ := hw
          refine va_iald hx hb hK hP 7 0 rfl rfl hc0 dX1_areAtOnePlace_44 ?_
          obtain ⟨hc0, hw⟩ := hw
          refine va_iald hx hb hK hP 9 0 rfl rfl hc0 dX1_areAtOnePlace_45 ?_
          refine lv_icmp_ne (tgt := 53) hx hb dX1_areAtOnePlace_46 (by decide) (fun hc => ?_) (fun hc => ?_)
          · have hw := hw.1 hc
            refine lv_iconst (v := (0 : Int32)) hx hb dX1_areAtOnePlace_53 (by decide) ?_
            exact W.zret (ty := .boolean) (v := (0 : Int32)) hx hb hr rfl (fun t ht hWm => ⟨⟨(0 : Int32), (), rfl, hw, by rw [ht]; exact hP, va_K.moved hWm.alike hK, hD⟩, hS.F ht⟩) hS.2.2 dX1_areAtOnePlace_54
          · have hw := hw.2 hc
            refine lv_iconst (v := (1 : Int32)) hx hb dX1_areAtOnePlace_49 (by decide) ?_
            refine lv_goto (tgt := 54) hx hb dX1_areAtOnePlace_50 (by decide) ?_
            exact W.zret (ty := .boolean) (v := (1 : Int32)) hx hb hr rfl (fun t ht hWm => ⟨⟨(1 : Int32), (), rfl, hw, by rw [ht]; exact hP, va_K.moved hWm.alike hK, hD⟩, hS.F ht⟩) hS.2.2 dX1_areAtOnePlace_54
-- ===== RX1.hasLaneOfOneEnd()Z
abbrev wdX1_hasLaneOfOneEnd (cyI cyB cyZ cyT : ClassId) (a : Nat → Nat) (nE : Nat) (nP : Nat) (g : SX1) : va_W := [(a 0, .inr (1, [.ref (a 1), .ref (a 2), .ref (a 3), .ref (a 4), .ref (a 5), .ref (a 6), .ref (a 7), .ref (a 8), .ref (a 9), .int g.x_used, .int g.x_places, .int g.x_waiting])), (a 1, .inl (cyI, nE, .inl g.x_root)), (a 2, .inl (cyI, nE, .inl g.x_fellow)), (a 3, .inl (cyI, nE, .inl g.x_weight)), (a 4, .inl (cyI, nE, .inl g.x_on)), (a 5, .inl (cyI, nE, .inl g.x_before)), (a 6, .inl (cyI, nE, .inl g.x_mate)), (a 7, .inl (cyI, nE, .inl g.x_home)), (a 8, .inl (cyI, nE, .inl g.x_absorbed)), (a 9, .inl (cyI, nP, .inl g.x_place))]
abbrev rmX1_hasLaneOfOneEnd : Room := { frames := 0, cells := 0, slots := 0, locals := 0 }
abbrev qX1_hasLaneOfOneEnd (D : va_G) (cyI cyB cyZ cyT : ClassId) (a : Nat → Nat) (nE : Nat) (nP : Nat) (g : SX1) (Q : Int32 → Prop) (A : Nat → Prop) : Array Value → State → Outcome → State → Prop := va_Qi (S := Unit) (fun r _ => Q r) (kB D (kTy cyI cyB cyZ cyT) (fun u : Unit => (wdX1_hasLaneOfOneEnd cyI cyB cyZ cyT a  nE nP g)) A) A
def wX1_hasLaneOfOneEnd_b2 (nE : Nat) (nP : Nat) (F : Nat) (g : SX1) (Q : Int32 → Prop)  (K_2 : Int32 → Prop) (L1 : Int32) : Prop := ((g.x_used ≤ L1 → (Q (0 : Int32))) ∧ (¬ (g.x_used ≤ L1) → (vp_in L1 nE) ∧ ((¬ (g.x_root L1.toNatClampNeg) = L1 → (K_2 (L1 + 1))) ∧ ((g.x_root L1.toNatClampNeg) = L1 → (vp_in L1 nE) ∧ (((g.x_mate L1.toNatClampNeg) < 0 → (K_2 (L1 + 1))) ∧ (¬ ((g.x_mate L1.toNatClampNeg) < 0) → (vp_in L1 nE) ∧ (vp_in (g.x_mate L1.toNatClampNeg) nE) ∧ ((¬ (g.x_root (g.x_mate L1.toNatClampNeg).toNatClampNeg) = L1 → (K_2 (L1 + 1))) ∧ ((g.x_root (g.x_mate L1.toNatClampNeg).toNatClampNeg) = L1 → (Q (1 : Int32))))))))))
def wX1_hasLaneOfOneEnd_H2 (nE : Nat) (nP : Nat) (F : Nat) (g : SX1) (Q : Int32 → Prop)  : Nat → Int32 → Prop
  | 0 => fun _ => False
  | n + 1 => fun L1 => wX1_hasLaneOfOneEnd_b2 nE nP F g Q (wX1_hasLaneOfOneEnd_H2 nE nP F g Q n) L1
def wX1_hasLaneOfOneEnd (nE : Nat) (nP : Nat) (F : Nat) (g : SX1) (Q : Int32 → Prop) : Prop := (wX1_hasLaneOfOneEnd_H2 nE nP F g Q F (0 : Int32))
set_option maxHeartbeats 4000000 in
set_option maxRecDepth 100000 in
theorem ctX1_hasLaneOfOneEnd_b2 {p : Program} {l : Launch} {e : Env} {s : State} {m : MethodId} {args : Array Value} {below : List Frame} {meth : Method} {c : Code} {A : Nat → Prop} {D : va_G} {cyI cyB cyZ cyT : ClassId} {a : Nat → Nat} {nE : Nat} {nP : Nat} {F : Nat} {g : SX1} {Q : Int32 → Prop} {K_2 : Int32 → Prop} (C0 : kCtx cX1_hasLaneOfOneEnd (some .boolean) RX1 2 p s m args meth c A) (hk_2 : ∀ (L1 : Int32) (H : Heap) (locs : List Loc) (ls : Array Slot), K_2 L1 → kWd D (kTy cyI cyB cyZ cyT) (wdX1_hasLaneOfOneEnd cyI cyB cyZ cyT a  nE nP g) A s H locs → lv_has ls 2 [(0, .ref (a 0)), (1, .int L1)] → W p l e rmX1_hasLaneOfOneEnd s m args below meth c H locs 0 0 (MQ below (qX1_hasLaneOfOneEnd D cyI cyB cyZ cyT a nE nP g Q A) args s 0 0 A) (F0 m 2 ls [])) : ∀ (L1 : Int32) (H : Heap) (locs : List Loc) (ls : Array Slot), wX1_hasLaneOfOneEnd_b2 nE nP F g Q K_2 L1 → kWd D (kTy cyI cyB cyZ cyT) (wdX1_hasLaneOfOneEnd cyI cyB cyZ cyT a  nE nP g) A s H locs → lv_has ls 2 [(0, .ref (a 0)), (1, .int L1)] → W p l e rmX1_hasLaneOfOneEnd s m args below meth c H locs 0 0 (MQ below (qX1_hasLaneOfOneEnd D cyI cyB cyZ cyT a nE nP g Q A) args s 0 0 A) (F0 m 2 ls []) := by
  intro L1 H locs ls hw hW hl
  obtain ⟨hx, hb, hr, hts, hown, hml, hlocks, hA, hN⟩ := id C0
  obtain ⟨hK, hP, hD, hS⟩ := hW
  obtain ⟨x_root, x_fellow, x_weight, x_on, x_before, x_mate, x_home, x_absorbed, x_place, x_used, x_places, x_waiting⟩ := g
  have hP : va_P D vwCl [(a 0, .inr (1, [.ref (a 1), .ref (a 2), .ref (a 3), .ref (a 4), .ref (a 5), .ref (a 6), .ref (a 7), .ref (a 8), .ref (a 9), .int x_used, .int x_places, .int x_waiting])), (a 1, .inl (cyI, nE, .inl x_root)), (a 2, .inl (cyI, nE, .inl x_fellow)), (a 3, .inl (cyI, nE, .inl x_weight)), (a 4, .inl (cyI, nE, .inl x_on)), (a 5, .inl (cyI, nE, .inl x_before)), (a 6, .inl (cyI, nE, .inl x_mate)), (a 7, .inl (cyI, nE, .inl x_home)), (a 8, .inl (cyI, nE, .inl x_absorbed)), (a 9, .inl (cyI, nP, .inl x_place))] H := hP
  have hD : va_D A [(a 0, .inr (1, [.ref (a 1), .ref (a 2), .ref (a 3), .ref (a 4), .ref (a 5), .ref (a 6), .ref (a 7), .ref (a 8), .ref (a 9), .int x_used, .int x_places, .int x_waiting])), (a 1, .inl (cyI, nE, .inl x_root)), (a 2, .inl (cyI, nE, .inl x_fellow)), (a 3, .inl (cyI, nE, .inl x_weight)), (a 4, .inl (cyI, nE, .inl x_on)), (a 5, .inl (cyI, nE, .inl x_before)), (a 6, .inl (cyI, nE, .inl x_mate)), (a 7, .inl (cyI, nE, .inl x_home)), (a 8, .inl (cyI, nE, .inl x_absorbed)), (a 9, .inl (cyI, nP, .inl x_place))] := hD
  refine lv_iload_n hx hb dX1_hasLaneOfOneEnd_2 rfl (lv_at hl 1 rfl) ?_
  refine lv_aload_n hx hb dX1_hasLaneOfOneEnd_3 rfl (lv_at hl 0 rfl) ?_
  refine va_get (ci := 1) (v := .int x_used) (C := RX1) (T := TX1) (N := 12) hx hb hts iw_X1 hown hK hP 0 rfl rfl 9 (by decide) (hts (.fieldLink RX1 37 "WalkersSay$Ends" "used" "I") q_35cbe3d8) (fun _ h9 => h9) rfl dX1_hasLaneOfOneEnd_4 ?_
  refine lv_icmp_ge (tgt := 52) hx hb dX1_hasLaneOfOneEnd_7 (by decide) (fun hc => ?_) (fun hc => ?_)
  · have hw := hw.1 hc
    refine lv_iconst (v := (0 : Int32)) hx hb dX1_hasLaneOfOneEnd_52 (by decide) ?_
    exact W.zret (ty := .boolean) (v := (0 : Int32)) hx hb hr rfl (fun t ht hWm => ⟨⟨(0 : Int32), (), rfl, hw, by rw [ht]; exact hP, va_K.moved hWm.alike hK, hD⟩, hS.F ht⟩) hS.2.2 dX1_hasLaneOfOneEnd_53
  · have hw := hw.2 hc
    refine lv_aload_n hx hb dX1_hasLaneOfOneEnd_10 rfl (lv_at hl 0 rfl) ?_
    refine va_get (ci := 1) (v := .ref (a 1)) (C := RX1) (T := TX1) (N := 12) hx hb hts iw_X1 hown hK hP 0 rfl rfl 0 (by decide) (hts (.fieldLink RX1 7 "WalkersSay$Ends" "root" "[I") q_8d8e92ef) (fun _ h9 => h9) rfl dX1_hasLaneOfOneEnd_11 ?_
    refine lv_iload_n hx hb dX1_hasLaneOfOneEnd_14 rfl (lv_at hl 1 rfl) ?_
    obtain ⟨hc0, hw⟩ := hw
    refine va_iald hx hb hK hP 1 0 rfl rfl hc0 dX1_hasLaneOfOneEnd_15 ?_
    refine lv_iload_n hx hb dX1_hasLaneOfOneEnd_16 rfl (lv_at hl 1 rfl) ?_
    refine lv_icmp_ne (tgt := 46) hx hb dX1_hasLaneOfOneEnd_17 (by decide) (fun hc => ?_) (fun hc => ?_)
    · have hw := hw.1 hc
      refine lv_iinc (v := (L1 + 1)) (lv' := [(1, .int (L1 + 1)), (0, .ref (a 0))]) hx hb dX1_hasLaneOfOneEnd_46 hl (k := 1) rfl rfl (by decide) rfl (fun ls hl => ?_)
      refine lv_goto (tgt := 2) hx hb dX1_hasLaneOfOneEnd_49 (by decide) ?_
      exact hk_2 (L1 + 1) _ _ _ hw ⟨hK, hP, hD, hS⟩ (lv_sub hl [1, 0] rfl)
    · have hw := hw.2 hc
      refine lv_aload_n hx hb dX1_hasLaneOfOneEnd_20 rfl (lv_at hl 0 rfl) ?_
      refine va_get (ci := 1) (v := .ref (a 6)) (C := RX1) (T := TX1) (N := 12) hx hb hts iw_X1 hown hK hP 0 rfl rfl 5 (by decide) (hts (.fieldLink RX1 25 "WalkersSay$Ends" "mate" "[I") q_d4c567c1) (fun _ h9 => h9) rfl dX1_hasLaneOfOneEnd_21 ?_
      refine lv_iload_n hx hb dX1_hasLaneOfOneEnd_24 rfl (lv_at hl 1 rfl) ?_
      obtain ⟨hc0, hw⟩ := hw
      refine va_iald hx hb hK hP 6 0 rfl rfl hc0 dX1_hasLaneOfOneEnd_25 ?_
      refine lv_if_lt (tgt := 46) hx hb dX1_hasLaneOfOneEnd_26 (by decide) (fun hc => ?_) (fun hc => ?_)
      · have hw := hw.1 hc
        refine lv_iinc (v := (L1 + 1)) (lv' := [(1, .int (L1 + 1)), (0, .ref (a 0))]) hx hb dX1_hasLaneOfOneEnd_46 hl (k := 1) rfl rfl (by decide) rfl (fun ls hl => ?_)
        refine lv_goto (tgt := 2) hx hb dX1_hasLaneOfOneEnd_49 (by decide) ?_
        exact hk_2 (L1 + 1) _ _ _ hw ⟨hK, hP, hD, hS⟩ (lv_sub hl [1, 0] rfl)
      · have hw := hw.2 hc
        refine lv_aload_n hx hb dX1_hasLaneOfOneEnd_29 rfl (lv_at hl 0 rfl) ?_
        refine va_get (ci := 1) (v := .ref (a 1)) (C := RX1) (T := TX1) (N := 12) hx hb hts iw_X1 hown hK hP 0 rfl rfl 0 (by decide) (hts (.fieldLink RX1 7 "WalkersSay$Ends" "root" "[I") q_8d8e92ef) (fun _ h9 => h9) rfl dX1_hasLaneOfOneEnd_30 ?_
        refine lv_aload_n hx hb dX1_hasLaneOfOneEnd_33 rfl (lv_at hl 0 rfl) ?_
        refine va_get (ci := 1) (v := .ref (a 6)) (C := RX1) (T := TX1) (N := 12) hx hb hts iw_X1 hown hK hP 0 rfl rfl 5 (by decide) (hts (.fieldLink RX1 25 "WalkersSay$Ends" "mate" "[I") q_d4c567c1) (fun _ h9 => h9) rfl dX1_hasLaneOfOneEnd_34 ?_
        refine lv_iload_n hx hb dX1_hasLaneOfOneEnd_37 rfl (lv_at hl 1 rfl) ?_
        obtain ⟨hc0, hw⟩ := hw
        refine va_iald hx hb hK hP 6 0 rfl rfl hc0 dX1_hasLaneOfOneEnd_38 ?_
        obtain ⟨hc0, hw⟩ := hw
        refine va_iald hx hb hK hP 1 0 rfl rfl hc0 dX1_hasLaneOfOneEnd_39 ?_
        refine lv_iload_n hx hb dX1_hasLaneOfOneEnd_40 rfl (lv_at hl 1 rfl) ?_
        refine lv_icmp_ne (tgt := 46) hx hb dX1_hasLaneOfOneEnd_41 (by decide) (fun hc => ?_) (fun hc => ?_)
        · have hw := hw.1 hc
          refine lv_iinc (v := (L1 + 1)) (lv' := [(1, .int (L1 + 1)), (0, .ref (a 0))]) hx hb dX1_hasLaneOfOneEnd_46 hl (k := 1) rfl rfl (by decide) rfl (fun ls hl => ?_)
          refine lv_goto (tgt := 2) hx hb dX1_hasLaneOfOneEnd_49 (by decide) ?_
          exact hk_2 (L1 + 1) _ _ _ hw ⟨hK, hP, hD, hS⟩ (lv_sub hl [1, 0] rfl)
        · have hw := hw.2 hc
          refine lv_iconst (v := (1 : Int32)) hx hb dX1_hasLaneOfOneEnd_44 (by decide) ?_
          exact W.zret (ty := .boolean) (v := (1 : Int32)) hx hb hr rfl (fun t ht hWm => ⟨⟨(1 : Int32), (), rfl, hw, by rw [ht]; exact hP, va_K.moved hWm.alike hK, hD⟩, hS.F ht⟩) hS.2.2 dX1_hasLaneOfOneEnd_45
theorem ctX1_hasLaneOfOneEnd_H2 {p : Program} {l : Launch} {e : Env} {s : State} {m : MethodId} {args : Array Value} {below : List Frame} {meth : Method} {c : Code} {A : Nat → Prop} {D : va_G} {cyI cyB cyZ cyT : ClassId} {a : Nat → Nat} {nE : Nat} {nP : Nat} {F : Nat} {g : SX1} {Q : Int32 → Prop} (C0 : kCtx cX1_hasLaneOfOneEnd (some .boolean) RX1 2 p s m args meth c A) : ∀ n : Nat, ∀ (L1 : Int32) (H : Heap) (locs : List Loc) (ls : Array Slot), wX1_hasLaneOfOneEnd_H2 nE nP F g Q n L1 → kWd D (kTy cyI cyB cyZ cyT) (wdX1_hasLaneOfOneEnd cyI cyB cyZ cyT a  nE nP g) A s H locs → lv_has ls 2 [(0, .ref (a 0)), (1, .int L1)] → W p l e rmX1_hasLaneOfOneEnd s m args below meth c H locs 0 0 (MQ below (qX1_hasLaneOfOneEnd D cyI cyB cyZ cyT a nE nP g Q A) args s 0 0 A) (F0 m 2 ls []) := by
  intro n
  induction n with
  | zero => intro L1 H locs ls hw hW hl; exact hw.elim
  | succ n ih => intro L1 H locs ls hw hW hl; exact ctX1_hasLaneOfOneEnd_b2 (F := F) C0 ih L1 H locs ls hw hW hl
set_option maxHeartbeats 4000000 in
set_option maxRecDepth 100000 in
theorem ctX1_hasLaneOfOneEnd (l : Launch) (D : va_G) (cyI cyB cyZ cyT : ClassId) (a : Nat → Nat) (nE : Nat) (nP : Nat) (F : Nat) (g : SX1) (Q : Int32 → Prop) : kMi (S := Unit) l yX1_hasLaneOfOneEnd (kM yX1_hasLaneOfOneEnd cX1_hasLaneOfOneEnd 2 (some .boolean)) rmX1_hasLaneOfOneEnd D (kTy cyI cyB cyZ cyT) [.ref (a 0)] (wdX1_hasLaneOfOneEnd cyI cyB cyZ cyT a  nE nP g) (wX1_hasLaneOfOneEnd nE nP F g Q) (fun r _ => Q r) (fun u : Unit => (wdX1_hasLaneOfOneEnd cyI cyB cyZ cyT a  nE nP g)) := by
  refine kMi.of (cc := cX1_hasLaneOfOneEnd) (maxL := 2) (ret := (some .boolean)) (by decide) (Nat.le_of_ble_eq_true rfl) ?_
  intro p e s m below meth c A C0 hw hW ls hl
  obtain ⟨hx, hb, hr, hts, hown, hml, hlocks, hA, hN⟩ := id C0
  have hown : s.vm.findClass RX1 = some m.cls := hown
  obtain ⟨hK, hP, hD, hS⟩ := hW
  obtain ⟨x_root, x_fellow, x_weight, x_on, x_before, x_mate, x_home, x_absorbed, x_place, x_used, x_places, x_waiting⟩ := g
  have hP : va_P D vwCl [(a 0, .inr (1, [.ref (a 1), .ref (a 2), .ref (a 3), .ref (a 4), .ref (a 5), .ref (a 6), .ref (a 7), .ref (a 8), .ref (a 9), .int x_used, .int x_places, .int x_waiting])), (a 1, .inl (cyI, nE, .inl x_root)), (a 2, .inl (cyI, nE, .inl x_fellow)), (a 3, .inl (cyI, nE, .inl x_weight)), (a 4, .inl (cyI, nE, .inl x_on)), (a 5, .inl (cyI, nE, .inl x_before)), (a 6, .inl (cyI, nE, .inl x_mate)), (a 7, .inl (cyI, nE, .inl x_home)), (a 8, .inl (cyI, nE, .inl x_absorbed)), (a 9, .inl (cyI, nP, .inl x_place))] s.heap := hP
  have hD : va_D A [(a 0, .inr (1, [.ref (a 1), .ref (a 2), .ref (a 3), .ref (a 4), .ref (a 5), .ref (a 6), .ref (a 7), .ref (a 8), .ref (a 9), .int x_used, .int x_places, .int x_waiting])), (a 1, .inl (cyI, nE, .inl x_root)), (a 2, .inl (cyI, nE, .inl x_fellow)), (a 3, .inl (cyI, nE, .inl x_weight)), (a 4, .inl (cyI, nE, .inl x_on)), (a 5, .inl (cyI, nE, .inl x_before)), (a 6, .inl (cyI, nE, .inl x_mate)), (a 7, .inl (cyI, nE, .inl x_home)), (a 8, .inl (cyI, nE, .inl x_absorbed)), (a 9, .inl (cyI, nP, .inl x_place))] := hD
  have hl : lv_has ls 2 [(0, .ref (a 0))] := hl
  refine lv_iconst (v := (0 : Int32)) hx hb dX1_hasLaneOfOneEnd_0 (by decide) ?_
  refine lv_istore_n (lv' := [(1, .int (0 : Int32)), (0, .ref (a 0))]) hx hb dX1_hasLaneOfOneEnd_1 rfl hl (by decide) rfl (fun ls hl => ?_)
  exact ctX1_hasLaneOfOneEnd_H2 (F := F) C0 F (0 : Int32) _ _ _ hw ⟨hK, hP, hD, hS⟩ (lv_sub hl [1, 0] rfl)
-- ===== RX1.goesRoundIn(II)Z
abbrev wdX1_goesRoundIn (cyI cyB cyZ cyT : ClassId) (a : Nat → Nat) (nE : Nat) (nP : Nat) (g : SX1) : va_W := [(a 0, .inr (1, [.ref (a 1), .ref (a 2), .ref (a 3), .ref (a 4), .ref (a 5), .ref (a 6), .ref (a 7), .ref (a 8), .ref (a 9), .int g.x_used, .int g.x_places, .int g.x_waiting])), (a 1, .inl (cyI, nE, .inl g.x_root)), (a 2, .inl (cyI, nE, .inl g.x_fellow)), (a 3, .inl (cyI, nE, .inl g.x_weight)), (a 4, .inl (cyI, nE, .inl g.x_on)), (a 5, .inl (cyI, nE, .inl g.x_before)), (a 6, .inl (cyI, nE, .inl g.x_mate)), (a 7, .inl (cyI, nE, .inl g.x_home)), (a 8, .inl (cyI, nE, .inl g.x_absorbed)), (a 9, .inl (cyI, nP, .inl g.x_place))]
abbrev rmX1_goesRoundIn : Room := { frames := 1, cells := 0, slots := 0, locals := 21 }
abbrev qX1_goesRoundIn (D : va_G) (cyI cyB cyZ cyT : ClassId) (a : Nat → Nat) (nE : Nat) (nP : Nat) (g : SX1) (Q : Int32 → Prop) (A : Nat → Prop) : Array Value → State → Outcome → State → Prop := va_Qi (S := Unit) (fun r _ => Q r) (kB D (kTy cyI cyB cyZ cyT) (fun u : Unit => (wdX1_goesRoundIn cyI cyB cyZ cyT a  nE nP g)) A) A
def wX1_goesRoundIn_b20 (nE : Nat) (nP : Nat) (F : Nat) (g : SX1) (Q : Int32 → Prop)  (K_20 : Int32 → Int32 → Int32 → Int32 → Prop) (L1 : Int32) (L2 : Int32) (L3 : Int32) (L4 : Int32) : Prop := ((L2 < L4 → (Q (0 : Int32))) ∧ (¬ (L2 < L4) → (vp_in L3 nE) ∧ ((0 ≤ (g.x_on L3.toNatClampNeg) → (vp_in L3 nE) ∧ (vp_in (g.x_on L3.toNatClampNeg) nE) ∧ (vp_in L1 nE) ∧ ((¬ (g.x_root (g.x_on L3.toNatClampNeg).toNatClampNeg) = (g.x_root L1.toNatClampNeg) → (K_20 L1 L2 (g.x_root (g.x_on L3.toNatClampNeg).toNatClampNeg) (L4 + 1))) ∧ ((g.x_root (g.x_on L3.toNatClampNeg).toNatClampNeg) = (g.x_root L1.toNatClampNeg) → ((¬ L4 = L2 → (Q (0 : Int32))) ∧ (L4 = L2 → (Q (1 : Int32))))))) ∧ (¬ (0 ≤ (g.x_on L3.toNatClampNeg)) → (Q (0 : Int32))))))
def wX1_goesRoundIn_H20 (nE : Nat) (nP : Nat) (F : Nat) (g : SX1) (Q : Int32 → Prop)  : Nat → Int32 → Int32 → Int32 → Int32 → Prop
  | 0 => fun _ _ _ _ => False
  | n + 1 => fun L1 L2 L3 L4 => wX1_goesRoundIn_b20 nE nP F g Q (wX1_goesRoundIn_H20 nE nP F g Q n) L1 L2 L3 L4
def wX1_goesRoundIn (nE : Nat) (nP : Nat) (F : Nat) (g : SX1) (p1 : Int32) (p2 : Int32) (Q : Int32 → Prop) : Prop := (wX1_holds nE nP F g p1 (fun r2 => ((¬ r2 = 0 → (vp_in p1 nE) ∧ (wX1_goesRoundIn_H20 nE nP F g Q F p1 p2 (g.x_root p1.toNatClampNeg) (1 : Int32))) ∧ (r2 = 0 → (Q (0 : Int32))))))
set_option maxHeartbeats 4000000 in
set_option maxRecDepth 100000 in
theorem ctX1_goesRoundIn_b20 {p : Program} {l : Launch} {e : Env} {s : State} {m : MethodId} {args : Array Value} {below : List Frame} {meth : Method} {c : Code} {A : Nat → Prop} {D : va_G} {cyI cyB cyZ cyT : ClassId} {a : Nat → Nat} {nE : Nat} {nP : Nat} {F : Nat} {g : SX1} {Q : Int32 → Prop} {K_20 : Int32 → Int32 → Int32 → Int32 → Prop} (C0 : kCtx cX1_goesRoundIn (some .boolean) RX1 5 p s m args meth c A) (hk_20 : ∀ (L1 : Int32) (L2 : Int32) (L3 : Int32) (L4 : Int32) (H : Heap) (locs : List Loc) (ls : Array Slot), K_20 L1 L2 L3 L4 → kWd D (kTy cyI cyB cyZ cyT) (wdX1_goesRoundIn cyI cyB cyZ cyT a  nE nP g) A s H locs → lv_has ls 5 [(0, .ref (a 0)), (1, .int L1), (2, .int L2), (3, .int L3), (4, .int L4)] → W p l e rmX1_goesRoundIn s m args below meth c H locs 0 0 (MQ below (qX1_goesRoundIn D cyI cyB cyZ cyT a nE nP g Q A) args s 0 0 A) (F0 m 20 ls [])) : ∀ (L1 : Int32) (L2 : Int32) (L3 : Int32) (L4 : Int32) (H : Heap) (locs : List Loc) (ls : Array Slot), wX1_goesRoundIn_b20 nE nP F g Q K_20 L1 L2 L3 L4 → kWd D (kTy cyI cyB cyZ cyT) (wdX1_goesRoundIn cyI cyB cyZ cyT a  nE nP g) A s H locs → lv_has ls 5 [(0, .ref (a 0)), (1, .int L1), (2, .int L2), (3, .int L3), (4, .int L4)] → W p l e rmX1_goesRoundIn s m args below meth c H locs 0 0 (MQ below (qX1_goesRoundIn D cyI cyB cyZ cyT a nE nP g Q A) args s 0 0 A) (F0 m 20 ls []) := by
  intro L1 L2 L3 L4 H locs ls hw hW hl
  obtain ⟨hx, hb, hr, hts, hown, hml, hlocks, hA, hN⟩ := id C0
  obtain ⟨hK, hP, hD, hS⟩ := hW
  obtain ⟨x_root, x_fellow, x_weight, x_on, x_before, x_mate, x_home, x_absorbed, x_place, x_used, x_places, x_waiting⟩ := g
  have hP : va_P D vwCl [(a 0, .inr (1, [.ref (a 1), .ref (a 2), .ref (a 3), .ref (a 4), .ref (a 5), .ref (a 6), .ref (a 7), .ref (a 8), .ref (a 9), .int x_used, .int x_places, .int x_waiting])), (a 1, .inl (cyI, nE, .inl x_root)), (a 2, .inl (cyI, nE, .inl x_fellow)), (a 3, .inl (cyI, nE, .inl x_weight)), (a 4, .inl (cyI, nE, .inl x_on)), (a 5, .inl (cyI, nE, .inl x_before)), (a 6, .inl (cyI, nE, .inl x_mate)), (a 7, .inl (cyI, nE, .inl x_home)), (a 8, .inl (cyI, nE, .inl x_absorbed)), (a 9, .inl (cyI, nP, .inl x_place))] H := hP
  have hD : va_D A [(a 0, .inr (1, [.ref (a 1), .ref (a 2), .ref (a 3), .ref (a 4), .ref (a 5), .ref (a 6), .ref (a 7), .ref (a 8), .ref (a 9), .int x_used, .int x_places, .int x_waiting])), (a 1, .inl (cyI, nE, .inl x_root)), (a 2, .inl (cyI, nE, .inl x_fellow)), (a 3, .inl (cyI, nE, .inl x_weight)), (a 4, .inl (cyI, nE, .inl x_on)), (a 5, .inl (cyI, nE, .inl x_before)), (a 6, .inl (cyI, nE, .inl x_mate)), (a 7, .inl (cyI, nE, .inl x_home)), (a 8, .inl (cyI, nE, .inl x_absorbed)), (a 9, .inl (cyI, nP, .inl x_place))] := hD
  refine lv_iload hx hb dX1_goesRoundIn_20 (lv_at hl 4 rfl) ?_
  refine lv_iload_n hx hb dX1_goesRoundIn_22 rfl (lv_at hl 2 rfl) ?_
  refine lv_icmp_gt (tgt := 77) hx hb dX1_goesRoundIn_23 (by decide) (fun hc => ?_) (fun hc => ?_)
  · have hw := hw.1 hc
    refine lv_iconst (v := (0 : Int32)) hx hb dX1_goesRoundIn_77 (by decide) ?_
    exact W.zret (ty := .boolean) (v := (0 : Int32)) hx hb hr rfl (fun t ht hWm => ⟨⟨(0 : Int32), (), rfl, hw, by rw [ht]; exact hP, va_K.moved hWm.alike hK, hD⟩, hS.F ht⟩) hS.2.2 dX1_goesRoundIn_78
  · have hw := hw.2 hc
    refine lv_aload_n hx hb dX1_goesRoundIn_26 rfl (lv_at hl 0 rfl) ?_
    refine va_get (ci := 1) (v := .ref (a 4)) (C := RX1) (T := TX1) (N := 12) hx hb hts iw_X1 hown hK hP 0 rfl rfl 3 (by decide) (hts (.fieldLink RX1 19 "WalkersSay$Ends" "on" "[I") q_862f7c36) (fun _ h9 => h9) rfl dX1_goesRoundIn_27 ?_
    refine lv_iload_n hx hb dX1_goesRoundIn_30 rfl (lv_at hl 3 rfl) ?_
    obtain ⟨hc0, hw⟩ := hw
    refine va_iald hx hb hK hP 4 0 rfl rfl hc0 dX1_goesRoundIn_31 ?_
    refine lv_if_ge (tgt := 37) hx hb dX1_goesRoundIn_32 (by decide) (fun hc => ?_) (fun hc => ?_)
    · have hw := hw.1 hc
      refine lv_aload_n hx hb dX1_goesRoundIn_37 rfl (lv_at hl 0 rfl) ?_
      refine va_get (ci := 1) (v := .ref (a 1)) (C := RX1) (T := TX1) (N := 12) hx hb hts iw_X1 hown hK hP 0 rfl rfl 0 (by decide) (hts (.fieldLink RX1 7 "WalkersSay$Ends" "root" "[I") q_8d8e92ef) (fun _ h9 => h9) rfl dX1_goesRoundIn_38 ?_
      refine lv_aload_n hx hb dX1_goesRoundIn_41 rfl (lv_at hl 0 rfl) ?_
      refine va_get (ci := 1) (v := .ref (a 4)) (C := RX1) (T := TX1) (N := 12) hx hb hts iw_X1 hown hK hP 0 rfl rfl 3 (by decide) (hts (.fieldLink RX1 19 "WalkersSay$Ends" "on" "[I") q_862f7c36) (fun _ h9 => h9) rfl dX1_goesRoundIn_42 ?_
      refine lv_iload_n hx hb dX1_goesRoundIn_45 rfl (lv_at hl 3 rfl) ?_
      obtain ⟨hc0, hw⟩ := hw
      refine va_iald hx hb hK hP 4 0 rfl rfl hc0 dX1_goesRoundIn_46 ?_
      obtain ⟨hc0, hw⟩ := hw
      refine va_iald hx hb hK hP 1 0 rfl rfl hc0 dX1_goesRoundIn_47 ?_
      refine lv_istore_n (lv' := [(3, .int (x_root (x_on L3.toNatClampNeg).toNatClampNeg)), (0, .ref (a 0)), (1, .int L1), (2, .int L2), (4, .int L4)]) hx hb dX1_goesRoundIn_48 rfl hl (by decide) rfl (fun ls hl => ?_)
      refine lv_iload_n hx hb dX1_goesRoundIn_49 rfl (lv_at hl 0 rfl) ?_
      refine lv_aload_n hx hb dX1_goesRoundIn_50 rfl (lv_at hl 1 rfl) ?_
      refine va_get (ci := 1) (v := .ref (a 1)) (C := RX1) (T := TX1) (N := 12) hx hb hts iw_X1 hown hK hP 0 rfl rfl 0 (by decide) (hts (.fieldLink RX1 7 "WalkersSay$Ends" "root" "[I") q_8d8e92ef) (fun _ h9 => h9) rfl dX1_goesRoundIn_51 ?_
      refine lv_iload_n hx hb dX1_goesRoundIn_54 rfl (lv_at hl 2 rfl) ?_
      obtain ⟨hc0, hw⟩ := hw
      refine va_iald hx hb hK hP 1 0 rfl rfl hc0 dX1_goesRoundIn_55 ?_
      refine lv_icmp_ne (tgt := 71) hx hb dX1_goesRoundIn_56 (by decide) (fun hc => ?_) (fun hc => ?_)
      · have hw := hw.1 hc
        refine lv_iinc (v := (L4 + 1)) (lv' := [(4, .int (L4 + 1)), (3, .int (x_root (x_on L3.toNatClampNeg).toNatClampNeg)), (0, .ref (a 0)), (1, .int L1), (2, .int L2)]) hx hb dX1_goesRoundIn_71 hl (k := 4) rfl rfl (by decide) rfl (fun ls hl => ?_)
        refine lv_goto (tgt := 20) hx hb dX1_goesRoundIn_74 (by decide) ?_
        exact hk_20 L1 L2 (x_root (x_on L3.toNatClampNeg).toNatClampNeg) (L4 + 1) _ _ _ hw ⟨hK, hP, hD, hS⟩ (lv_sub hl [2, 3, 4, 1, 0] rfl)
      · have hw := hw.2 hc
        refine lv_iload hx hb dX1_goesRoundIn_59 (lv_at hl 4 rfl) ?_
        refine lv_iload_n hx hb dX1_goesRoundIn_61 rfl (lv_at hl 3 rfl) ?_
        refine lv_icmp_ne (tgt := 69) hx hb dX1_goesRoundIn_62 (by decide) (fun hc => ?_) (fun hc => ?_)
        · have hw := hw.1 hc
          refine lv_iconst (v := (0 : Int32)) hx hb dX1_goesRoundIn_69 (by decide) ?_
          exact W.zret (ty := .boolean) (v := (0 : Int32)) hx hb hr rfl (fun t ht hWm => ⟨⟨(0 : Int32), (), rfl, hw, by rw [ht]; exact hP, va_K.moved hWm.alike hK, hD⟩, hS.F ht⟩) hS.2.2 dX1_goesRoundIn_70
        · have hw := hw.2 hc
          refine lv_iconst (v := (1 : Int32)) hx hb dX1_goesRoundIn_65 (by decide) ?_
          refine lv_goto (tgt := 70) hx hb dX1_goesRoundIn_66 (by decide) ?_
          exact W.zret (ty := .boolean) (v := (1 : Int32)) hx hb hr rfl (fun t ht hWm => ⟨⟨(1 : Int32), (), rfl, hw, by rw [ht]; exact hP, va_K.moved hWm.alike hK, hD⟩, hS.F ht⟩) hS.2.2 dX1_goesRoundIn_70
    · have hw := hw.2 hc
      refine lv_iconst (v := (0 : Int32)) hx hb dX1_goesRoundIn_35 (by decide) ?_
      exact W.zret (ty := .boolean) (v := (0 : Int32)) hx hb hr rfl (fun t ht hWm => ⟨⟨(0 : Int32), (), rfl, hw, by rw [ht]; exact hP, va_K.moved hWm.alike hK, hD⟩, hS.F ht⟩) hS.2.2 dX1_goesRoundIn_36
theorem ctX1_goesRoundIn_H20 {p : Program} {l : Launch} {e : Env} {s : State} {m : MethodId} {args : Array Value} {below : List Frame} {meth : Method} {c : Code} {A : Nat → Prop} {D : va_G} {cyI cyB cyZ cyT : ClassId} {a : Nat → Nat} {nE : Nat} {nP : Nat} {F : Nat} {g : SX1} {Q : Int32 → Prop} (C0 : kCtx cX1_goesRoundIn (some .boolean) RX1 5 p s m args meth c A) : ∀ n : Nat, ∀ (L1 : Int32) (L2 : Int32) (L3 : Int32) (L4 : Int32) (H : Heap) (locs : List Loc) (ls : Array Slot), wX1_goesRoundIn_H20 nE nP F g Q n L1 L2 L3 L4 → kWd D (kTy cyI cyB cyZ cyT) (wdX1_goesRoundIn cyI cyB cyZ cyT a  nE nP g) A s H locs → lv_has ls 5 [(0, .ref (a 0)), (1, .int L1), (2, .int L2), (3, .int L3), (4, .int L4)] → W p l e rmX1_goesRoundIn s m args below meth c H locs 0 0 (MQ below (qX1_goesRoundIn D cyI cyB cyZ cyT a nE nP g Q A) args s 0 0 A) (F0 m 20 ls []) := by
  intro n
  induction n with
  | zero => intro L1 L2 L3 L4 H locs ls hw hW hl; exact hw.elim
  | succ n ih => intro L1 L2 L3 L4 H locs ls hw hW hl; exact ctX1_goesRoundIn_b20 (F := F) C0 ih L1 L2 L3 L4 H locs ls hw hW hl
set_option maxHeartbeats 4000000 in
set_option maxRecDepth 100000 in
theorem ctX1_goesRoundIn (l : Launch) (D : va_G) (cyI cyB cyZ cyT : ClassId) (a : Nat → Nat) (nE : Nat) (nP : Nat) (F : Nat) (g : SX1) (p1 : Int32) (p2 : Int32) (Q : Int32 → Prop) : kMi (S := Unit) l yX1_goesRoundIn (kM yX1_goesRoundIn cX1_goesRoundIn 5 (some .boolean)) rmX1_goesRoundIn D (kTy cyI cyB cyZ cyT) [.ref (a 0), .int p1, .int p2] (wdX1_goesRoundIn cyI cyB cyZ cyT a  nE nP g) (wX1_goesRoundIn nE nP F g p1 p2 Q) (fun r _ => Q r) (fun u : Unit => (wdX1_goesRoundIn cyI cyB cyZ cyT a  nE nP g)) := by
  refine kMi.of (cc := cX1_goesRoundIn) (maxL := 5) (ret := (some .boolean)) (by decide) (Nat.le_of_ble_eq_true rfl) ?_
  intro p e s m below meth c A C0 hw hW ls hl
  obtain ⟨hx, hb, hr, hts, hown, hml, hlocks, hA, hN⟩ := id C0
  have hown : s.vm.findClass RX1 = some m.cls := hown
  obtain ⟨hK, hP, hD, hS⟩ := hW
  obtain ⟨x_root, x_fellow, x_weight, x_on, x_before, x_mate, x_home, x_absorbed, x_place, x_used, x_places, x_waiting⟩ := g
  have hP : va_P D vwCl [(a 0, .inr (1, [.ref (a 1), .ref (a 2), .ref (a 3), .ref (a 4), .ref (a 5), .ref (a 6), .ref (a 7), .ref (a 8), .ref (a 9), .int x_used, .int x_places, .int x_waiting])), (a 1, .inl (cyI, nE, .inl x_root)), (a 2, .inl (cyI, nE, .inl x_fellow)), (a 3, .inl (cyI, nE, .inl x_weight)), (a 4, .inl (cyI, nE, .inl x_on)), (a 5, .inl (cyI, nE, .inl x_before)), (a 6, .inl (cyI, nE, .inl x_mate)), (a 7, .inl (cyI, nE, .inl x_home)), (a 8, .inl (cyI, nE, .inl x_absorbed)), (a 9, .inl (cyI, nP, .inl x_place))] s.heap := hP
  have hD : va_D A [(a 0, .inr (1, [.ref (a 1), .ref (a 2), .ref (a 3), .ref (a 4), .ref (a 5), .ref (a 6), .ref (a 7), .ref (a 8), .ref (a 9), .int x_used, .int x_places, .int x_waiting])), (a 1, .inl (cyI, nE, .inl x_root)), (a 2, .inl (cyI, nE, .inl x_fellow)), (a 3, .inl (cyI, nE, .inl x_weight)), (a 4, .inl (cyI, nE, .inl x_on)), (a 5, .inl (cyI, nE, .inl x_before)), (a 6, .inl (cyI, nE, .inl x_mate)), (a 7, .inl (cyI, nE, .inl x_home)), (a 8, .inl (cyI, nE, .inl x_absorbed)), (a 9, .inl (cyI, nP, .inl x_place))] := hD
  have hl : lv_has ls 5 [(0, .ref (a 0)), (1, .int p1), (2, .int p2)] := hl
  refine lv_aload_n hx hb dX1_goesRoundIn_0 rfl (lv_at hl 0 rfl) ?_
  refine lv_iload_n hx hb dX1_goesRoundIn_1 rfl (lv_at hl 1 rfl) ?_
  refine kx_Vi (S := Unit) (ci := 1) (As := [.int p1]) (rest := []) (WR := []) (WN := (fun u : Unit => [(a 0, .inr (1, [.ref (a 1), .ref (a 2), .ref (a 3), .ref (a 4), .ref (a 5), .ref (a 6), .ref (a 7), .ref (a 8), .ref (a 9), .int x_used, .int x_places, .int x_waiting])), (a 1, .inl (cyI, nE, .inl x_root)), (a 2, .inl (cyI, nE, .inl x_fellow)), (a 3, .inl (cyI, nE, .inl x_weight)), (a 4, .inl (cyI, nE, .inl x_on)), (a 5, .inl (cyI, nE, .inl x_before)), (a 6, .inl (cyI, nE, .inl x_mate)), (a 7, .inl (cyI, nE, .inl x_home)), (a 8, .inl (cyI, nE, .inl x_absorbed)), (a 9, .inl (cyI, nP, .inl x_place))])) ⟨hx, hb, hml, hown, hts⟩ (ctX1_holds l D cyI cyB cyZ cyT a nE nP F _ _ _) (cwV 1 hts (k_gV q_2fca8bf3 q_9ff0548a q_8c13951f q_944cf9c3 q_5db661e0) rfl rfl rfl (by decide +kernel) ⟨Nat.le_of_ble_eq_true rfl, Nat.le_of_ble_eq_true rfl⟩) hN hw ⟨hK, hP, hD, hS⟩ hA [0, 1, 2, 3, 4, 5, 6, 7, 8, 9] [] [0, 1, 2, 3, 4, 5, 6, 7, 8, 9] rfl (by decide) rfl (by decide) (by decide) (by decide) (fun _ => rfl) rfl 0 rfl rfl hl.1 rfl (Nat.le_of_ble_eq_true rfl) dX1_goesRoundIn_2 ⟨Nat.zero_le _, Nat.zero_le _⟩ (fun r2 u H locs hw hW => ?_)
  obtain ⟨hK, hP, hD, hS⟩ := hW
  have hP : va_P D vwCl [(a 0, .inr (1, [.ref (a 1), .ref (a 2), .ref (a 3), .ref (a 4), .ref (a 5), .ref (a 6), .ref (a 7), .ref (a 8), .ref (a 9), .int x_used, .int x_places, .int x_waiting])), (a 1, .inl (cyI, nE, .inl x_root)), (a 2, .inl (cyI, nE, .inl x_fellow)), (a 3, .inl (cyI, nE, .inl x_weight)), (a 4, .inl (cyI, nE, .inl x_on)), (a 5, .inl (cyI, nE, .inl x_before)), (a 6, .inl (cyI, nE, .inl x_mate)), (a 7, .inl (cyI, nE, .inl x_home)), (a 8, .inl (cyI, nE, .inl x_absorbed)), (a 9, .inl (cyI, nP, .inl x_place))] H := hP
  have hD : va_D A [(a 0, .inr (1, [.ref (a 1), .ref (a 2), .ref (a 3), .ref (a 4), .ref (a 5), .ref (a 6), .ref (a 7), .ref (a 8), .ref (a 9), .int x_used, .int x_places, .int x_waiting])), (a 1, .inl (cyI, nE, .inl x_root)), (a 2, .inl (cyI, nE, .inl x_fellow)), (a 3, .inl (cyI, nE, .inl x_weight)), (a 4, .inl (cyI, nE, .inl x_on)), (a 5, .inl (cyI, nE, .inl x_before)), (a 6, .inl (cyI, nE, .inl x_mate)), (a 7, .inl (cyI, nE, .inl x_home)), (a 8, .inl (cyI, nE, .inl x_absorbed)), (a 9, .inl (cyI, nP, .inl x_place))] := hD
  refine lv_if_ne (tgt := 10) hx hb dX1_goesRoundIn_5 (by decide) (fun hc => ?_) (fun hc => ?_)
  · have hw := hw.1 hc
    refine lv_aload_n hx hb dX1_goesRoundIn_10 rfl (lv_at hl 0 rfl) ?_
    refine va_get (ci := 1) (v := .ref (a 1)) (C := RX1) (T := TX1) (N := 12) hx hb hts iw_X1 hown hK hP 0 rfl rfl 0 (by decide) (hts (.fieldLink RX1 7 "WalkersSay$Ends" "root" "[I") q_8d8e92ef) (fun _ h9 => h9) rfl dX1_goesRoundIn_11 ?_
    refine lv_iload_n hx hb dX1_goesRoundIn_14 rfl (lv_at hl 1 rfl) ?_
    obtain ⟨hc0, hw⟩ := hw
    refine va_iald hx hb hK hP 1 0 rfl rfl hc0 dX1_goesRoundIn_15 ?_
    refine lv_istore_n (lv' := [(3, .int (x_root p1.toNatClampNeg)), (0, .ref (a 0)), (1, .int p1), (2, .int p2)]) hx hb dX1_goesRoundIn_16 rfl hl (by decide) rfl (fun ls hl => ?_)
    refine lv_iconst (v := (1 : Int32)) hx hb dX1_goesRoundIn_17 (by decide) ?_
    refine lv_istore (lv' := [(4, .int (1 : Int32)), (3, .int (x_root p1.toNatClampNeg)), (0, .ref (a 0)), (1, .int p1), (2, .int p2)]) hx hb dX1_goesRoundIn_18 hl (by decide) rfl (fun ls hl => ?_)
    exact ctX1_goesRoundIn_H20 (F := F) C0 F p1 p2 (x_root p1.toNatClampNeg) (1 : Int32) _ _ _ hw ⟨hK, hP, hD, hS⟩ (lv_sub hl [2, 3, 4, 1, 0] rfl)
  · have hw := hw.2 hc
    refine lv_iconst (v := (0 : Int32)) hx hb dX1_goesRoundIn_8 (by decide) ?_
    exact W.zret (ty := .boolean) (v := (0 : Int32)) hx hb hr rfl (fun t ht hWm => ⟨⟨(0 : Int32), (), rfl, hw, by rw [ht]; exact hP, va_K.moved hWm.alike hK, hD⟩, hS.F ht⟩) hS.2.2 dX1_goesRoundIn_9
