-- ===== RJ7.fill([II)V
abbrev wdJ7_fill_53178 (cyI cyB cyZ cyT : ClassId) (a_p0 : Nat) (n_p0 : Nat) (g_p0 : (Nat → Int32)) : va_W := [(a_p0, .inl (cyI, n_p0, .inl g_p0))]
abbrev rmJ7_fill_53178 : Room := { frames := 0, cells := 0, slots := 0, locals := 0 }
abbrev qJ7_fill_53178 (D : va_G) (cyI cyB cyZ cyT : ClassId) (a_p0 : Nat) (n_p0 : Nat) (Q : (Nat → Int32) → Prop) (A : Nat → Prop) : Array Value → State → Outcome → State → Prop := va_Qv (S := (Nat → Int32)) (fun u => Q u) (kB D (kTy cyI cyB cyZ cyT) (fun u : (Nat → Int32) => (wdJ7_fill_53178 cyI cyB cyZ cyT a_p0  n_p0 u)) A) A
def wJ7_fill_53178_b5 (n_p0 : Nat) (F : Nat) (Q : (Nat → Int32) → Prop)  (K_5 : Int32 → Int32 → Int32 → (Nat → Int32) → Prop) (L1 : Int32) (L2 : Int32) (L3 : Int32) (g_p0 : (Nat → Int32)) : Prop := ((L3 ≤ L2 → (Q g_p0)) ∧ (¬ (L3 ≤ L2) → (vp_in L2 n_p0) ∧ (K_5 L1 (L2 + 1) L3 (upd g_p0 L2.toNatClampNeg L1))))
def wJ7_fill_53178_H5 (n_p0 : Nat) (F : Nat) (Q : (Nat → Int32) → Prop)  : Nat → Int32 → Int32 → Int32 → (Nat → Int32) → Prop
  | 0 => fun _ _ _ _ => False
  | n + 1 => fun L1 L2 L3 g_p0 => wJ7_fill_53178_b5 n_p0 F Q (wJ7_fill_53178_H5 n_p0 F Q n) L1 L2 L3 g_p0
def wJ7_fill_53178 (n_p0 : Nat) (F : Nat) (g_p0 : (Nat → Int32)) (p1 : Int32) (Q : (Nat → Int32) → Prop) : Prop := (wJ7_fill_53178_H5 n_p0 F Q F p1 (0 : Int32) (Int32.ofNat n_p0) g_p0)
set_option maxHeartbeats 4000000 in
set_option maxRecDepth 100000 in
theorem ctJ7_fill_53178_b5 {p : Program} {l : Launch} {e : Env} {s : State} {m : MethodId} {args : Array Value} {below : List Frame} {meth : Method} {c : Code} {A : Nat → Prop} {D : va_G} {cyI cyB cyZ cyT : ClassId} {a_p0 : Nat} {n_p0 : Nat} {F : Nat} {Q : (Nat → Int32) → Prop} {K_5 : Int32 → Int32 → Int32 → (Nat → Int32) → Prop} (C0 : kCtx cJ7_fill_53178 none RJ7 4 p s m args meth c A) (hk_5 : ∀ (L1 : Int32) (L2 : Int32) (L3 : Int32) (g_p0 : (Nat → Int32)) (H : Heap) (locs : List Loc) (ls : Array Slot), K_5 L1 L2 L3 g_p0 → kWd D (kTy cyI cyB cyZ cyT) (wdJ7_fill_53178 cyI cyB cyZ cyT a_p0  n_p0 g_p0) A s H locs → lv_has ls 4 [(0, .ref (a_p0)), (1, .int L1), (2, .int L2), (3, .int L3)] → W p l e rmJ7_fill_53178 s m args below meth c H locs 0 0 (MQ below (qJ7_fill_53178 D cyI cyB cyZ cyT a_p0 n_p0 Q A) args s 0 0 A) (F0 m 5 ls [])) : ∀ (L1 : Int32) (L2 : Int32) (L3 : Int32) (g_p0 : (Nat → Int32)) (H : Heap) (locs : List Loc) (ls : Array Slot), wJ7_fill_53178_b5 n_p0 F Q K_5 L1 L2 L3 g_p0 → kWd D (kTy cyI cyB cyZ cyT) (wdJ7_fill_53178 cyI cyB cyZ cyT a_p0  n_p0 g_p0) A s H locs → lv_has ls 4 [(0, .ref (a_p0)), (1, .int L1), (2, .int L2), (3, .int L3)] → W p l e rmJ7_fill_53178 s m args below meth c H locs 0 0 (MQ below (qJ7_fill_53178 D cyI cyB cyZ cyT a_p0 n_p0 Q A) args s 0 0 A) (F0 m 5 ls []) := by
  intro L1 L2 L3 g_p0 H locs ls hw hW hl
  obtain ⟨hx, hb, hr, hts, hown, hml, hlocks, hA, hN⟩ := id C0
  obtain ⟨hK, hP, hD, hS⟩ := hW
  obtain ⟨x_arr_p0, rfl⟩ : ∃ z, z = g_p0 := ⟨_, rfl⟩
  have hP : va_P D vwCl [(a_p0, .inl (cyI, n_p0, .inl x_arr_p0))] H := hP
  have hD : va_D A [(a_p0, .inl (cyI, n_p0, .inl x_arr_p0))] := hD
  refine lv_iload_n hx hb dJ7_fill_53178_5 rfl (lv_at hl 2 rfl) ?_
  refine lv_iload_n hx hb dJ7_fill_53178_6 rfl (lv_at hl 3 rfl) ?_
  refine lv_icmp_ge (tgt := 20) hx hb dJ7_fill_53178_7 (by decide) (fun hc => ?_) (fun hc => ?_)
  · have hw := hw.1 hc
    exact W.vret hx hb hr (fun t ht hWm => ⟨⟨x_arr_p0, rfl, hw, by rw [ht]; exact hP, va_K.moved hWm.alike hK, hD⟩, hS.F ht⟩) hS.2.2 dJ7_fill_53178_20
  · have hw := hw.2 hc
    refine lv_aload_n hx hb dJ7_fill_53178_10 rfl (lv_at hl 0 rfl) ?_
    refine lv_iload_n hx hb dJ7_fill_53178_11 rfl (lv_at hl 2 rfl) ?_
    refine lv_iload_n hx hb dJ7_fill_53178_12 rfl (lv_at hl 1 rfl) ?_
    obtain ⟨hc0, hw⟩ := hw
    refine va_iast hx hb hK hP hD hS 0 0 rfl rfl hc0 dJ7_fill_53178_13 (fun H locs hP hD hS => ?_)
    have hP : va_P D vwCl [(a_p0, .inl (cyI, n_p0, .inl (upd x_arr_p0 L2.toNatClampNeg L1)))] H := hP
    have hD : va_D A [(a_p0, .inl (cyI, n_p0, .inl (upd x_arr_p0 L2.toNatClampNeg L1)))] := hD
    refine lv_iinc (v := (L2 + 1)) (lv' := [(2, .int (L2 + 1)), (0, .ref (a_p0)), (1, .int L1), (3, .int L3)]) hx hb dJ7_fill_53178_14 hl (k := 2) rfl rfl (by decide) rfl (fun ls hl => ?_)
    refine lv_goto (tgt := 5) hx hb dJ7_fill_53178_17 (by decide) ?_
    exact hk_5 L1 (L2 + 1) L3 (upd x_arr_p0 L2.toNatClampNeg L1) _ _ _ hw ⟨hK, hP, hD, hS⟩ (lv_sub hl [1, 2, 0, 3] rfl)
theorem ctJ7_fill_53178_H5 {p : Program} {l : Launch} {e : Env} {s : State} {m : MethodId} {args : Array Value} {below : List Frame} {meth : Method} {c : Code} {A : Nat → Prop} {D : va_G} {cyI cyB cyZ cyT : ClassId} {a_p0 : Nat} {n_p0 : Nat} {F : Nat} {Q : (Nat → Int32) → Prop} (C0 : kCtx cJ7_fill_53178 none RJ7 4 p s m args meth c A) : ∀ n : Nat, ∀ (L1 : Int32) (L2 : Int32) (L3 : Int32) (g_p0 : (Nat → Int32)) (H : Heap) (locs : List Loc) (ls : Array Slot), wJ7_fill_53178_H5 n_p0 F Q n L1 L2 L3 g_p0 → kWd D (kTy cyI cyB cyZ cyT) (wdJ7_fill_53178 cyI cyB cyZ cyT a_p0  n_p0 g_p0) A s H locs → lv_has ls 4 [(0, .ref (a_p0)), (1, .int L1), (2, .int L2), (3, .int L3)] → W p l e rmJ7_fill_53178 s m args below meth c H locs 0 0 (MQ below (qJ7_fill_53178 D cyI cyB cyZ cyT a_p0 n_p0 Q A) args s 0 0 A) (F0 m 5 ls []) := by
  intro n
  induction n with
  | zero => intro L1 L2 L3 g_p0 H locs ls hw hW hl; exact hw.elim
  | succ n ih => intro L1 L2 L3 g_p0 H locs ls hw hW hl; exact ctJ7_fill_53178_b5 (F := F) C0 ih L1 L2 L3 g_p0 H locs ls hw hW hl
set_option maxHeartbeats 4000000 in
set_option maxRecDepth 100000 in
theorem ctJ7_fill_53178 (l : Launch) (D : va_G) (cyI cyB cyZ cyT : ClassId) (a_p0 : Nat) (n_p0 : Nat) (F : Nat) (g_p0 : (Nat → Int32)) (p1 : Int32) (Q : (Nat → Int32) → Prop) : kMv (S := (Nat → Int32)) l yJ7_fill_53178 (kM yJ7_fill_53178 cJ7_fill_53178 4 none) rmJ7_fill_53178 D (kTy cyI cyB cyZ cyT) [.ref (a_p0), .int p1] (wdJ7_fill_53178 cyI cyB cyZ cyT a_p0  n_p0 g_p0) (wJ7_fill_53178 n_p0 F g_p0 p1 Q) (fun u => Q u) (fun u : (Nat → Int32) => (wdJ7_fill_53178 cyI cyB cyZ cyT a_p0  n_p0 u)) := by
  refine kMv.of (cc := cJ7_fill_53178) (maxL := 4) (ret := none) (by decide) (Nat.le_of_ble_eq_true rfl) ?_
  intro p e s m below meth c A C0 hw hW ls hl
  obtain ⟨hx, hb, hr, hts, hown, hml, hlocks, hA, hN⟩ := id C0
  have hown : s.vm.findClass RJ7 = some m.cls := hown
  obtain ⟨hK, hP, hD, hS⟩ := hW
  obtain ⟨x_arr_p0, rfl⟩ : ∃ z, z = g_p0 := ⟨_, rfl⟩
  have hP : va_P D vwCl [(a_p0, .inl (cyI, n_p0, .inl x_arr_p0))] s.heap := hP
  have hD : va_D A [(a_p0, .inl (cyI, n_p0, .inl x_arr_p0))] := hD
  have hl : lv_has ls 4 [(0, .ref (a_p0)), (1, .int p1)] := hl
  refine lv_iconst (v := (0 : Int32)) hx hb dJ7_fill_53178_0 (by decide) ?_
  refine lv_istore_n (lv' := [(2, .int (0 : Int32)), (0, .ref (a_p0)), (1, .int p1)]) hx hb dJ7_fill_53178_1 rfl hl (by decide) rfl (fun ls hl => ?_)
  refine lv_aload_n hx hb dJ7_fill_53178_2 rfl (lv_at hl 1 rfl) ?_
  refine va_alen hx hb hK hP 0 0 rfl rfl rfl dJ7_fill_53178_3 ?_
  refine lv_istore_n (lv' := [(3, .int (Int32.ofNat n_p0)), (2, .int (0 : Int32)), (0, .ref (a_p0)), (1, .int p1)]) hx hb dJ7_fill_53178_4 rfl hl (by decide) rfl (fun ls hl => ?_)
  exact ctJ7_fill_53178_H5 (F := F) C0 F p1 (0 : Int32) (Int32.ofNat n_p0) x_arr_p0 _ _ _ hw ⟨hK, hP, hD, hS⟩ (lv_sub hl [2, 3, 1, 0] rfl)
-- ===== RJ7.rangeCheck(III)V
abbrev wdJ7_rangeCheck_23922 (cyI cyB cyZ cyT : ClassId) : va_W := []
abbrev rmJ7_rangeCheck_23922 : Room := { frames := 0, cells := 0, slots := 0, locals := 0 }
abbrev qJ7_rangeCheck_23922 (D : va_G) (cyI cyB cyZ cyT : ClassId) (Q : Prop) (A : Nat → Prop) : Array Value → State → Outcome → State → Prop := va_Qv (S := Unit) (fun _ => Q) (kB D (kTy cyI cyB cyZ cyT) (fun u : Unit => (wdJ7_rangeCheck_23922 cyI cyB cyZ cyT    )) A) A
def wJ7_rangeCheck_23922 (F : Nat) (p0 : Int32) (p1 : Int32) (p2 : Int32) (Q : Prop) : Prop := ((p1 ≤ p2 → ((0 ≤ p1 → ((p2 ≤ p0 → (Q)) ∧ (¬ (p2 ≤ p0) → False))) ∧ (¬ (0 ≤ p1) → False))) ∧ (¬ (p1 ≤ p2) → False))
set_option maxHeartbeats 4000000 in
set_option maxRecDepth 100000 in
theorem ctJ7_rangeCheck_23922 (l : Launch) (D : va_G) (cyI cyB cyZ cyT : ClassId) (F : Nat) (p0 : Int32) (p1 : Int32) (p2 : Int32) (Q : Prop) : kMv (S := Unit) l yJ7_rangeCheck_23922 (kM yJ7_rangeCheck_23922 cJ7_rangeCheck_23922 3 none) rmJ7_rangeCheck_23922 D (kTy cyI cyB cyZ cyT) [.int p0, .int p1, .int p2] (wdJ7_rangeCheck_23922 cyI cyB cyZ cyT    ) (wJ7_rangeCheck_23922 F p0 p1 p2 Q) (fun _ => Q) (fun u : Unit => (wdJ7_rangeCheck_23922 cyI cyB cyZ cyT    )) := by
  refine kMv.of (cc := cJ7_rangeCheck_23922) (maxL := 3) (ret := none) (by decide) (Nat.le_of_ble_eq_true rfl) ?_
  intro p e s m below meth c A C0 hw hW ls hl
  obtain ⟨hx, hb, hr, hts, hown, hml, hlocks, hA, hN⟩ := id C0
  have hown : s.vm.findClass RJ7 = some m.cls := hown
  obtain ⟨hK, hP, hD, hS⟩ := hW
  have hP : va_P D vwCl [] s.heap := hP
  have hD : va_D A [] := hD
  have hl : lv_has ls 3 [(0, .int p0), (1, .int p1), (2, .int p2)] := hl
  refine lv_iload_n hx hb dJ7_rangeCheck_23922_0 rfl (lv_at hl 1 rfl) ?_
  refine lv_iload_n hx hb dJ7_rangeCheck_23922_1 rfl (lv_at hl 2 rfl) ?_
  refine lv_icmp_le (tgt := 46) hx hb dJ7_rangeCheck_23922_2 (by decide) (fun hc => ?_) (fun hc => ?_)
  · have hw := hw.1 hc
    refine lv_iload_n hx hb dJ7_rangeCheck_23922_46 rfl (lv_at hl 1 rfl) ?_
    refine lv_if_ge (tgt := 59) hx hb dJ7_rangeCheck_23922_47 (by decide) (fun hc => ?_) (fun hc => ?_)
    · have hw := hw.1 hc
      refine lv_iload_n hx hb dJ7_rangeCheck_23922_59 rfl (lv_at hl 2 rfl) ?_
      refine lv_iload_n hx hb dJ7_rangeCheck_23922_60 rfl (lv_at hl 0 rfl) ?_
      refine lv_icmp_le (tgt := 73) hx hb dJ7_rangeCheck_23922_61 (by decide) (fun hc => ?_) (fun hc => ?_)
      · have hw := hw.1 hc
        exact W.vret hx hb hr (fun t ht hWm => ⟨⟨(), rfl, hw, by rw [ht]; exact hP, va_K.moved hWm.alike hK, hD⟩, hS.F ht⟩) hS.2.2 dJ7_rangeCheck_23922_73
      · have hw := hw.2 hc
        exact hw.elim
    · have hw := hw.2 hc
      exact hw.elim
  · have hw := hw.2 hc
    exact hw.elim
-- ===== RJ7.fill([IIII)V
abbrev wdJ7_fill_fda19 (cyI cyB cyZ cyT : ClassId) (a_p0 : Nat) (n_p0 : Nat) (g_p0 : (Nat → Int32)) : va_W := [(a_p0, .inl (cyI, n_p0, .inl g_p0))]
abbrev rmJ7_fill_fda19 : Room := { frames := 1, cells := 0, slots := 0, locals := 22 }
abbrev qJ7_fill_fda19 (D : va_G) (cyI cyB cyZ cyT : ClassId) (a_p0 : Nat) (n_p0 : Nat) (Q : (Nat → Int32) → Prop) (A : Nat → Prop) : Array Value → State → Outcome → State → Prop := va_Qv (S := (Nat → Int32)) (fun u => Q u) (kB D (kTy cyI cyB cyZ cyT) (fun u : (Nat → Int32) => (wdJ7_fill_fda19 cyI cyB cyZ cyT a_p0  n_p0 u)) A) A
def wJ7_fill_fda19_b10 (n_p0 : Nat) (F : Nat) (Q : (Nat → Int32) → Prop)  (K_10 : Int32 → Int32 → Int32 → (Nat → Int32) → Prop) (L2 : Int32) (L3 : Int32) (L4 : Int32) (g_p0 : (Nat → Int32)) : Prop := ((L2 ≤ L4 → (Q g_p0)) ∧ (¬ (L2 ≤ L4) → (vp_in L4 n_p0) ∧ (K_10 L2 L3 (L4 + 1) (upd g_p0 L4.toNatClampNeg L3))))
def wJ7_fill_fda19_H10 (n_p0 : Nat) (F : Nat) (Q : (Nat → Int32) → Prop)  : Nat → Int32 → Int32 → Int32 → (Nat → Int32) → Prop
  | 0 => fun _ _ _ _ => False
  | n + 1 => fun L2 L3 L4 g_p0 => wJ7_fill_fda19_b10 n_p0 F Q (wJ7_fill_fda19_H10 n_p0 F Q n) L2 L3 L4 g_p0
def wJ7_fill_fda19 (n_p0 : Nat) (F : Nat) (g_p0 : (Nat → Int32)) (p1 : Int32) (p2 : Int32) (p3 : Int32) (Q : (Nat → Int32) → Prop) : Prop := (wJ7_rangeCheck_23922 F (Int32.ofNat n_p0) p1 p2 ((wJ7_fill_fda19_H10 n_p0 F Q F p2 p3 p1 g_p0)))
set_option maxHeartbeats 4000000 in
set_option maxRecDepth 100000 in
theorem ctJ7_fill_fda19_b10 {p : Program} {l : Launch} {e : Env} {s : State} {m : MethodId} {args : Array Value} {below : List Frame} {meth : Method} {c : Code} {A : Nat → Prop} {D : va_G} {cyI cyB cyZ cyT : ClassId} {a_p0 : Nat} {n_p0 : Nat} {F : Nat} {Q : (Nat → Int32) → Prop} {K_10 : Int32 → Int32 → Int32 → (Nat → Int32) → Prop} (C0 : kCtx cJ7_fill_fda19 none RJ7 5 p s m args meth c A) (hk_10 : ∀ (L2 : Int32) (L3 : Int32) (L4 : Int32) (g_p0 : (Nat → Int32)) (H : Heap) (locs : List Loc) (ls : Array Slot), K_10 L2 L3 L4 g_p0 → kWd D (kTy cyI cyB cyZ cyT) (wdJ7_fill_fda19 cyI cyB cyZ cyT a_p0  n_p0 g_p0) A s H locs → lv_has ls 5 [(0, .ref (a_p0)), (2, .int L2), (3, .int L3), (4, .int L4)] → W p l e rmJ7_fill_fda19 s m args below meth c H locs 0 0 (MQ below (qJ7_fill_fda19 D cyI cyB cyZ cyT a_p0 n_p0 Q A) args s 0 0 A) (F0 m 10 ls [])) : ∀ (L2 : Int32) (L3 : Int32) (L4 : Int32) (g_p0 : (Nat → Int32)) (H : Heap) (locs : List Loc) (ls : Array Slot), wJ7_fill_fda19_b10 n_p0 F Q K_10 L2 L3 L4 g_p0 → kWd D (kTy cyI cyB cyZ cyT) (wdJ7_fill_fda19 cyI cyB cyZ cyT a_p0  n_p0 g_p0) A s H locs → lv_has ls 5 [(0, .ref (a_p0)), (2, .int L2), (3, .int L3), (4, .int L4)] → W p l e rmJ7_fill_fda19 s m args below meth c H locs 0 0 (MQ below (qJ7_fill_fda19 D cyI cyB cyZ cyT a_p0 n_p0 Q A) args s 0 0 A) (F0 m 10 ls []) := by
  intro L2 L3 L4 g_p0 H locs ls hw hW hl
  obtain ⟨hx, hb, hr, hts, hown, hml, hlocks, hA, hN⟩ := id C0
  obtain ⟨hK, hP, hD, hS⟩ := hW
  obtain ⟨x_arr_p0, rfl⟩ : ∃ z, z = g_p0 := ⟨_, rfl⟩
  have hP : va_P D vwCl [(a_p0, .inl (cyI, n_p0, .inl x_arr_p0))] H := hP
  have hD : va_D A [(a_p0, .inl (cyI, n_p0, .inl x_arr_p0))] := hD
  refine lv_iload hx hb dJ7_fill_fda19_10 (lv_at hl 3 rfl) ?_
  refine lv_iload_n hx hb dJ7_fill_fda19_12 rfl (lv_at hl 1 rfl) ?_
  refine lv_icmp_ge (tgt := 27) hx hb dJ7_fill_fda19_13 (by decide) (fun hc => ?_) (fun hc => ?_)
  · have hw := hw.1 hc
    exact W.vret hx hb hr (fun t ht hWm => ⟨⟨x_arr_p0, rfl, hw, by rw [ht]; exact hP, va_K.moved hWm.alike hK, hD⟩, hS.F ht⟩) hS.2.2 dJ7_fill_fda19_27
  · have hw := hw.2 hc
    refine lv_aload_n hx hb dJ7_fill_fda19_16 rfl (lv_at hl 0 rfl) ?_
    refine lv_iload hx hb dJ7_fill_fda19_17 (lv_at hl 3 rfl) ?_
    refine lv_iload_n hx hb dJ7_fill_fda19_19 rfl (lv_at hl 2 rfl) ?_
    obtain ⟨hc0, hw⟩ := hw
    refine va_iast hx hb hK hP hD hS 0 0 rfl rfl hc0 dJ7_fill_fda19_20 (fun H locs hP hD hS => ?_)
    have hP : va_P D vwCl [(a_p0, .inl (cyI, n_p0, .inl (upd x_arr_p0 L4.toNatClampNeg L3)))] H := hP
    have hD : va_D A [(a_p0, .inl (cyI, n_p0, .inl (upd x_arr_p0 L4.toNatClampNeg L3)))] := hD
    refine lv_iinc (v := (L4 + 1)) (lv' := [(4, .int (L4 + 1)), (0, .ref (a_p0)), (2, .int L2), (3, .int L3)]) hx hb dJ7_fill_fda19_21 hl (k := 3) rfl rfl (by decide) rfl (fun ls hl => ?_)
    refine lv_goto (tgt := 10) hx hb dJ7_fill_fda19_24 (by decide) ?_
    exact hk_10 L2 L3 (L4 + 1) (upd x_arr_p0 L4.toNatClampNeg L3) _ _ _ hw ⟨hK, hP, hD, hS⟩ (lv_sub hl [1, 2, 3, 0] rfl)
theorem ctJ7_fill_fda19_H10 {p : Program} {l : Launch} {e : Env} {s : State} {m : MethodId} {args : Array Value} {below : List Frame} {meth : Method} {c : Code} {A : Nat → Prop} {D : va_G} {cyI cyB cyZ cyT : ClassId} {a_p0 : Nat} {n_p0 : Nat} {F : Nat} {Q : (Nat → Int32) → Prop} (C0 : kCtx cJ7_fill_fda19 none RJ7 5 p s m args meth c A) : ∀ n : Nat, ∀ (L2 : Int32) (L3 : Int32) (L4 : Int32) (g_p0 : (Nat → Int32)) (H : Heap) (locs : List Loc) (ls : Array Slot), wJ7_fill_fda19_H10 n_p0 F Q n L2 L3 L4 g_p0 → kWd D (kTy cyI cyB cyZ cyT) (wdJ7_fill_fda19 cyI cyB cyZ cyT a_p0  n_p0 g_p0) A s H locs → lv_has ls 5 [(0, .ref (a_p0)), (2, .int L2), (3, .int L3), (4, .int L4)] → W p l e rmJ7_fill_fda19 s m args below meth c H locs 0 0 (MQ below (qJ7_fill_fda19 D cyI cyB cyZ cyT a_p0 n_p0 Q A) args s 0 0 A) (F0 m 10 ls []) := by
  intro n
  induction n with
  | zero => intro L2 L3 L4 g_p0 H locs ls hw hW hl; exact hw.elim
  | succ n ih => intro L2 L3 L4 g_p0 H locs ls hw hW hl; exact ctJ7_fill_fda19_b10 (F := F) C0 ih L2 L3 L4 g_p0 H locs ls hw hW hl
set_option maxHeartbeats 4000000 in
set_option maxRecDepth 100000 in
theorem ctJ7_fill_fda19 (l : Launch) (D : va_G) (cyI cyB cyZ cyT : ClassId) (a_p0 : Nat) (n_p0 : Nat) (F : Nat) (g_p0 : (Nat → Int32)) (p1 : Int32) (p2 : Int32) (p3 : Int32) (Q : (Nat → Int32) → Prop) : kMv (S := (Nat → Int32)) l yJ7_fill_fda19 (kM yJ7_fill_fda19 cJ7_fill_fda19 5 none) rmJ7_fill_fda19 D (kTy cyI cyB cyZ cyT) [.ref (a_p0), .int p1, .int p2, .int p3] (wdJ7_fill_fda19 cyI cyB cyZ cyT a_p0  n_p0 g_p0) (wJ7_fill_fda19 n_p0 F g_p0 p1 p2 p3 Q) (fun u => Q u) (fun u : (Nat → Int32) => (wdJ7_fill_fda19 cyI cyB cyZ cyT a_p0  n_p0 u)) := by
  refine kMv.of (cc := cJ7_fill_fda19) (maxL := 5) (ret := none) (by decide) (Nat.le_of_ble_eq_true rfl) ?_
  intro p e s m below meth c A C0 hw hW ls hl
  obtain ⟨hx, hb, hr, hts, hown, hml, hlocks, hA, hN⟩ := id C0
  have hown : s.vm.findClass RJ7 = some m.cls := hown
  obtain ⟨hK, hP, hD, hS⟩ := hW
  obtain ⟨x_arr_p0, rfl⟩ : ∃ z, z = g_p0 := ⟨_, rfl⟩
  have hP : va_P D vwCl [(a_p0, .inl (cyI, n_p0, .inl x_arr_p0))] s.heap := hP
  have hD : va_D A [(a_p0, .inl (cyI, n_p0, .inl x_arr_p0))] := hD
  have hl : lv_has ls 5 [(0, .ref (a_p0)), (1, .int p1), (2, .int p2), (3, .int p3)] := hl
  refine lv_aload_n hx hb dJ7_fill_fda19_0 rfl (lv_at hl 0 rfl) ?_
  refine va_alen hx hb hK hP 0 0 rfl rfl rfl dJ7_fill_fda19_1 ?_
  refine lv_iload_n hx hb dJ7_fill_fda19_2 rfl (lv_at hl 1 rfl) ?_
  refine lv_iload_n hx hb dJ7_fill_fda19_3 rfl (lv_at hl 2 rfl) ?_
  refine kx_Sv (S := Unit) (As := [.int (Int32.ofNat n_p0), .int p1, .int p2]) (rest := []) (WR := [(a_p0, .inl (cyI, n_p0, .inl x_arr_p0))]) (WN := (fun u : Unit => [(a_p0, .inl (cyI, n_p0, .inl x_arr_p0))])) ⟨hx, hb, hml, hown, hts⟩ (ctJ7_rangeCheck_23922 l D cyI cyB cyZ cyT F _ _ _ _) (va_cwS 3 hts (k_gS q_603b3272 q_e07f50be q_9502f3c3 q_70fe1ca5) rfl rfl rfl (by decide +kernel) ⟨Nat.le_of_ble_eq_true rfl, Nat.le_of_ble_eq_true rfl⟩) hN hw ⟨hK, hP, hD, hS⟩ hA [] [0] [0] rfl (by decide) rfl (by decide) (by decide) (by decide) (fun _ => rfl) rfl hl.1 rfl (Nat.le_of_ble_eq_true rfl) dJ7_fill_fda19_4 ⟨Nat.zero_le _, Nat.zero_le _⟩ (fun u H locs hw hW => ?_)
  obtain ⟨hK, hP, hD, hS⟩ := hW
  have hP : va_P D vwCl [(a_p0, .inl (cyI, n_p0, .inl x_arr_p0))] H := hP
  have hD : va_D A [(a_p0, .inl (cyI, n_p0, .inl x_arr_p0))] := hD
  refine lv_iload_n hx hb dJ7_fill_fda19_7 rfl (lv_at hl 1 rfl) ?_
  refine lv_istore (lv' := [(4, .int p1), (0, .ref (a_p0)), (1, .int p1), (2, .int p2), (3, .int p3)]) hx hb dJ7_fill_fda19_8 hl (by decide) rfl (fun ls hl => ?_)
  exact ctJ7_fill_fda19_H10 (F := F) C0 F p2 p3 p1 x_arr_p0 _ _ _ hw ⟨hK, hP, hD, hS⟩ (lv_sub hl [1, 3, 4, 0] rfl)
-- ===== RJ6.bitCount(I)I
abbrev wdJ6_bitCount_0f7a4 (cyI cyB cyZ cyT : ClassId) : va_W := []
abbrev rmJ6_bitCount_0f7a4 : Room := { frames := 0, cells := 0, slots := 0, locals := 0 }
abbrev qJ6_bitCount_0f7a4 (D : va_G) (cyI cyB cyZ cyT : ClassId) (Q : Int32 → Prop) (A : Nat → Prop) : Array Value → State → Outcome → State → Prop := va_Qi (S := Unit) (fun r _ => Q r) (kB D (kTy cyI cyB cyZ cyT) (fun u : Unit => (wdJ6_bitCount_0f7a4 cyI cyB cyZ cyT    )) A) A
def wJ6_bitCount_0f7a4 (F : Nat) (p0 : Int32) (Q : Int32 → Prop) : Prop := (Q ((((((((p0 - (((p0.toUInt32 >>> ((1 : Int32).toUInt32 &&& Int32.toUInt32 31)).toInt32) &&& (1431655765 : Int32))) &&& (858993459 : Int32)) + ((((p0 - (((p0.toUInt32 >>> ((1 : Int32).toUInt32 &&& Int32.toUInt32 31)).toInt32) &&& (1431655765 : Int32))).toUInt32 >>> ((2 : Int32).toUInt32 &&& Int32.toUInt32 31)).toInt32) &&& (858993459 : Int32))) + (((((p0 - (((p0.toUInt32 >>> ((1 : Int32).toUInt32 &&& Int32.toUInt32 31)).toInt32) &&& (1431655765 : Int32))) &&& (858993459 : Int32)) + ((((p0 - (((p0.toUInt32 >>> ((1 : Int32).toUInt32 &&& Int32.toUInt32 31)).toInt32) &&& (1431655765 : Int32))).toUInt32 >>> ((2 : Int32).toUInt32 &&& Int32.toUInt32 31)).toInt32) &&& (858993459 : Int32))).toUInt32 >>> ((4 : Int32).toUInt32 &&& Int32.toUInt32 31)).toInt32)) &&& (252645135 : Int32)) + (((((((p0 - (((p0.toUInt32 >>> ((1 : Int32).toUInt32 &&& Int32.toUInt32 31)).toInt32) &&& (1431655765 : Int32))) &&& (858993459 : Int32)) + ((((p0 - (((p0.toUInt32 >>> ((1 : Int32).toUInt32 &&& Int32.toUInt32 31)).toInt32) &&& (1431655765 : Int32))).toUInt32 >>> ((2 : Int32).toUInt32 &&& Int32.toUInt32 31)).toInt32) &&& (858993459 : Int32))) + (((((p0 - (((p0.toUInt32 >>> ((1 : Int32).toUInt32 &&& Int32.toUInt32 31)).toInt32) &&& (1431655765 : Int32))) &&& (858993459 : Int32)) + ((((p0 - (((p0.toUInt32 >>> ((1 : Int32).toUInt32 &&& Int32.toUInt32 31)).toInt32) &&& (1431655765 : Int32))).toUInt32 >>> ((2 : Int32).toUInt32 &&& Int32.toUInt32 31)).toInt32) &&& (858993459 : Int32))).toUInt32 >>> ((4 : Int32).toUInt32 &&& Int32.toUInt32 31)).toInt32)) &&& (252645135 : Int32)).toUInt32 >>> ((8 : Int32).toUInt32 &&& Int32.toUInt32 31)).toInt32)) + ((((((((p0 - (((p0.toUInt32 >>> ((1 : Int32).toUInt32 &&& Int32.toUInt32 31)).toInt32) &&& (1431655765 : Int32))) &&& (858993459 : Int32)) + ((((p0 - (((p0.toUInt32 >>> ((1 : Int32).toUInt32 &&& Int32.toUInt32 31)).toInt32) &&& (1431655765 : Int32))).toUInt32 >>> ((2 : Int32).toUInt32 &&& Int32.toUInt32 31)).toInt32) &&& (858993459 : Int32))) + (((((p0 - (((p0.toUInt32 >>> ((1 : Int32).toUInt32 &&& Int32.toUInt32 31)).toInt32) &&& (1431655765 : Int32))) &&& (858993459 : Int32)) + ((((p0 - (((p0.toUInt32 >>> ((1 : Int32).toUInt32 &&& Int32.toUInt32 31)).toInt32) &&& (1431655765 : Int32))).toUInt32 >>> ((2 : Int32).toUInt32 &&& Int32.toUInt32 31)).toInt32) &&& (858993459 : Int32))).toUInt32 >>> ((4 : Int32).toUInt32 &&& Int32.toUInt32 31)).toInt32)) &&& (252645135 : Int32)) + (((((((p0 - (((p0.toUInt32 >>> ((1 : Int32).toUInt32 &&& Int32.toUInt32 31)).toInt32) &&& (1431655765 : Int32))) &&& (858993459 : Int32)) + ((((p0 - (((p0.toUInt32 >>> ((1 : Int32).toUInt32 &&& Int32.toUInt32 31)).toInt32) &&& (1431655765 : Int32))).toUInt32 >>> ((2 : Int32).toUInt32 &&& Int32.toUInt32 31)).toInt32) &&& (858993459 : Int32))) + (((((p0 - (((p0.toUInt32 >>> ((1 : Int32).toUInt32 &&& Int32.toUInt32 31)).toInt32) &&& (1431655765 : Int32))) &&& (858993459 : Int32)) + ((((p0 - (((p0.toUInt32 >>> ((1 : Int32).toUInt32 &&& Int32.toUInt32 31)).toInt32) &&& (1431655765 : Int32))).toUInt32 >>> ((2 : Int32).toUInt32 &&& Int32.toUInt32 31)).toInt32) &&& (858993459 : Int32))).toUInt32 >>> ((4 : Int32).toUInt32 &&& Int32.toUInt32 31)).toInt32)) &&& (252645135 : Int32)).toUInt32 >>> ((8 : Int32).toUInt32 &&& Int32.toUInt32 31)).toInt32)).toUInt32 >>> ((16 : Int32).toUInt32 &&& Int32.toUInt32 31)).toInt32)) &&& (63 : Int32)))
set_option maxHeartbeats 4000000 in
set_option maxRecDepth 100000 in
theorem ctJ6_bitCount_0f7a4 (l : Launch) (D : va_G) (cyI cyB cyZ cyT : ClassId) (F : Nat) (p0 : Int32) (Q : Int32 → Prop) : kMi (S := Unit) l yJ6_bitCount_0f7a4 (kM yJ6_bitCount_0f7a4 cJ6_bitCount_0f7a4 1 (some .int)) rmJ6_bitCount_0f7a4 D (kTy cyI cyB cyZ cyT) [.int p0] (wdJ6_bitCount_0f7a4 cyI cyB cyZ cyT    ) (wJ6_bitCount_0f7a4 F p0 Q) (fun r _ => Q r) (fun u : Unit => (wdJ6_bitCount_0f7a4 cyI cyB cyZ cyT    )) := by
  refine kMi.of (cc := cJ6_bitCount_0f7a4) (maxL := 1) (ret := (some .int)) (by decide) (Nat.le_of_ble_eq_true rfl) ?_
  intro p e s m below meth c A C0 hw hW ls hl
  obtain ⟨hx, hb, hr, hts, hown, hml, hlocks, hA, hN⟩ := id C0
  have hown : s.vm.findClass RJ6 = some m.cls := hown
  obtain ⟨hK, hP, hD, hS⟩ := hW
  have hP : va_P D vwCl [] s.heap := hP
  have hD : va_D A [] := hD
  have hl : lv_has ls 1 [(0, .int p0)] := hl
  refine lv_iload_n hx hb dJ6_bitCount_0f7a4_0 rfl (lv_at hl 0 rfl) ?_
  refine lv_iload_n hx hb dJ6_bitCount_0f7a4_1 rfl (lv_at hl 0 rfl) ?_
  refine lv_iconst (v := (1 : Int32)) hx hb dJ6_bitCount_0f7a4_2 (by decide) ?_
  refine lv_iushr hx hb dJ6_bitCount_0f7a4_3 rfl ?_
  refine lv_ldcw (v := (1431655765 : Int32)) hx hb hown (hts (.constant RJ6 265 (1431655765)) q_839e152c) dJ6_bitCount_0f7a4_4 ?_
  refine lv_iand hx hb dJ6_bitCount_0f7a4_7 ?_
  refine lv_isub hx hb dJ6_bitCount_0f7a4_8 ?_
  refine lv_istore_n (lv' := [(0, .int (p0 - (((p0.toUInt32 >>> ((1 : Int32).toUInt32 &&& Int32.toUInt32 31)).toInt32) &&& (1431655765 : Int32))))]) hx hb dJ6_bitCount_0f7a4_9 rfl hl (by decide) rfl (fun ls hl => ?_)
  refine lv_iload_n hx hb dJ6_bitCount_0f7a4_10 rfl (lv_at hl 0 rfl) ?_
  refine lv_ldcw (v := (858993459 : Int32)) hx hb hown (hts (.constant RJ6 266 (858993459)) q_2294e270) dJ6_bitCount_0f7a4_11 ?_
  refine lv_iand hx hb dJ6_bitCount_0f7a4_14 ?_
  refine lv_iload_n hx hb dJ6_bitCount_0f7a4_15 rfl (lv_at hl 0 rfl) ?_
  refine lv_iconst (v := (2 : Int32)) hx hb dJ6_bitCount_0f7a4_16 (by decide) ?_
  refine lv_iushr hx hb dJ6_bitCount_0f7a4_17 rfl ?_
  refine lv_ldcw (v := (858993459 : Int32)) hx hb hown (hts (.constant RJ6 266 (858993459)) q_2294e270) dJ6_bitCount_0f7a4_18 ?_
  refine lv_iand hx hb dJ6_bitCount_0f7a4_21 ?_
  refine lv_iadd hx hb dJ6_bitCount_0f7a4_22 ?_
  refine lv_istore_n (lv' := [(0, .int (((p0 - (((p0.toUInt32 >>> ((1 : Int32).toUInt32 &&& Int32.toUInt32 31)).toInt32) &&& (1431655765 : Int32))) &&& (858993459 : Int32)) + ((((p0 - (((p0.toUInt32 >>> ((1 : Int32).toUInt32 &&& Int32.toUInt32 31)).toInt32) &&& (1431655765 : Int32))).toUInt32 >>> ((2 : Int32).toUInt32 &&& Int32.toUInt32 31)).toInt32) &&& (858993459 : Int32))))]) hx hb dJ6_bitCount_0f7a4_23 rfl hl (by decide) rfl (fun ls hl => ?_)
  refine lv_iload_n hx hb dJ6_bitCount_0f7a4_24 rfl (lv_at hl 0 rfl) ?_
  refine lv_iload_n hx hb dJ6_bitCount_0f7a4_25 rfl (lv_at hl 0 rfl) ?_
  refine lv_iconst (v := (4 : Int32)) hx hb dJ6_bitCount_0f7a4_26 (by decide) ?_
  refine lv_iushr hx hb dJ6_bitCount_0f7a4_27 rfl ?_
  refine lv_iadd hx hb dJ6_bitCount_0f7a4_28 ?_
  refine lv_ldcw (v := (252645135 : Int32)) hx hb hown (hts (.constant RJ6 267 (252645135)) q_7eaa9846) dJ6_bitCount_0f7a4_29 ?_
  refine lv_iand hx hb dJ6_bitCount_0f7a4_32 ?_
  refine lv_istore_n (lv' := [(0, .int (((((p0 - (((p0.toUInt32 >>> ((1 : Int32).toUInt32 &&& Int32.toUInt32 31)).toInt32) &&& (1431655765 : Int32))) &&& (858993459 : Int32)) + ((((p0 - (((p0.toUInt32 >>> ((1 : Int32).toUInt32 &&& Int32.toUInt32 31)).toInt32) &&& (1431655765 : Int32))).toUInt32 >>> ((2 : Int32).toUInt32 &&& Int32.toUInt32 31)).toInt32) &&& (858993459 : Int32))) + (((((p0 - (((p0.toUInt32 >>> ((1 : Int32).toUInt32 &&& Int32.toUInt32 31)).toInt32) &&& (1431655765 : Int32))) &&& (858993459 : Int32)) + ((((p0 - (((p0.toUInt32 >>> ((1 : Int32).toUInt32 &&& Int32.toUInt32 31)).toInt32) &&& (1431655765 : Int32))).toUInt32 >>> ((2 : Int32).toUInt32 &&& Int32.toUInt32 31)).toInt32) &&& (858993459 : Int32))).toUInt32 >>> ((4 : Int32).toUInt32 &&& Int32.toUInt32 31)).toInt32)) &&& (252645135 : Int32)))]) hx hb dJ6_bitCount_0f7a4_33 rfl hl (by decide) rfl (fun ls hl => ?_)
  refine lv_iload_n hx hb dJ6_bitCount_0f7a4_34 rfl (lv_at hl 0 rfl) ?_
  refine lv_iload_n hx hb dJ6_bitCount_0f7a4_35 rfl (lv_at hl 0 rfl) ?_
  refine lv_bipush (v := (8 : Int32)) hx hb dJ6_bitCount_0f7a4_36 (by decide) ?_
  refine lv_iushr hx hb dJ6_bitCount_0f7a4_38 rfl ?_
  refine lv_iadd hx hb dJ6_bitCount_0f7a4_39 ?_
  refine lv_istore_n (lv' := [(0, .int ((((((p0 - (((p0.toUInt32 >>> ((1 : Int32).toUInt32 &&& Int32.toUInt32 31)).toInt32) &&& (1431655765 : Int32))) &&& (858993459 : Int32)) + ((((p0 - (((p0.toUInt32 >>> ((1 : Int32).toUInt32 &&& Int32.toUInt32 31)).toInt32) &&& (1431655765 : Int32))).toUInt32 >>> ((2 : Int32).toUInt32 &&& Int32.toUInt32 31)).toInt32) &&& (858993459 : Int32))) + (((((p0 - (((p0.toUInt32 >>> ((1 : Int32).toUInt32 &&& Int32.toUInt32 31)).toInt32) &&& (1431655765 : Int32))) &&& (858993459 : Int32)) + ((((p0 - (((p0.toUInt32 >>> ((1 : Int32).toUInt32 &&& Int32.toUInt32 31)).toInt32) &&& (1431655765 : Int32))).toUInt32 >>> ((2 : Int32).toUInt32 &&& Int32.toUInt32 31)).toInt32) &&& (858993459 : Int32))).toUInt32 >>> ((4 : Int32).toUInt32 &&& Int32.toUInt32 31)).toInt32)) &&& (252645135 : Int32)) + (((((((p0 - (((p0.toUInt32 >>> ((1 : Int32).toUInt32 &&& Int32.toUInt32 31)).toInt32) &&& (1431655765 : Int32))) &&& (858993459 : Int32)) + ((((p0 - (((p0.toUInt32 >>> ((1 : Int32).toUInt32 &&& Int32.toUInt32 31)).toInt32) &&& (1431655765 : Int32))).toUInt32 >>> ((2 : Int32).toUInt32 &&& Int32.toUInt32 31)).toInt32) &&& (858993459 : Int32))) + (((((p0 - (((p0.toUInt32 >>> ((1 : Int32).toUInt32 &&& Int32.toUInt32 31)).toInt32) &&& (1431655765 : Int32))) &&& (858993459 : Int32)) + ((((p0 - (((p0.toUInt32 >>> ((1 : Int32).toUInt32 &&& Int32.toUInt32 31)).toInt32) &&& (1431655765 : Int32))).toUInt32 >>> ((2 : Int32).toUInt32 &&& Int32.toUInt32 31)).toInt32) &&& (858993459 : Int32))).toUInt32 >>> ((4 : Int32).toUInt32 &&& Int32.toUInt32 31)).toInt32)) &&& (252645135 : Int32)).toUInt32 >>> ((8 : Int32).toUInt32 &&& Int32.toUInt32 31)).toInt32)))]) hx hb dJ6_bitCount_0f7a4_40 rfl hl (by decide) rfl (fun ls hl => ?_)
  refine lv_iload_n hx hb dJ6_bitCount_0f7a4_41 rfl (lv_at hl 0 rfl) ?_
  refine lv_iload_n hx hb dJ6_bitCount_0f7a4_42 rfl (lv_at hl 0 rfl) ?_
  refine lv_bipush (v := (16 : Int32)) hx hb dJ6_bitCount_0f7a4_43 (by decide) ?_
  refine lv_iushr hx hb dJ6_bitCount_0f7a4_45 rfl ?_
  refine lv_iadd hx hb dJ6_bitCount_0f7a4_46 ?_
  refine lv_istore_n (lv' := [(0, .int (((((((p0 - (((p0.toUInt32 >>> ((1 : Int32).toUInt32 &&& Int32.toUInt32 31)).toInt32) &&& (1431655765 : Int32))) &&& (858993459 : Int32)) + ((((p0 - (((p0.toUInt32 >>> ((1 : Int32).toUInt32 &&& Int32.toUInt32 31)).toInt32) &&& (1431655765 : Int32))).toUInt32 >>> ((2 : Int32).toUInt32 &&& Int32.toUInt32 31)).toInt32) &&& (858993459 : Int32))) + (((((p0 - (((p0.toUInt32 >>> ((1 : Int32).toUInt32 &&& Int32.toUInt32 31)).toInt32) &&& (1431655765 : Int32))) &&& (858993459 : Int32)) + ((((p0 - (((p0.toUInt32 >>> ((1 : Int32).toUInt32 &&& Int32.toUInt32 31)).toInt32) &&& (1431655765 : Int32))).toUInt32 >>> ((2 : Int32).toUInt32 &&& Int32.toUInt32 31)).toInt32) &&& (858993459 : Int32))).toUInt32 >>> ((4 : Int32).toUInt32 &&& Int32.toUInt32 31)).toInt32)) &&& (252645135 : Int32)) + (((((((p0 - (((p0.toUInt32 >>> ((1 : Int32).toUInt32 &&& Int32.toUInt32 31)).toInt32) &&& (1431655765 : Int32))) &&& (858993459 : Int32)) + ((((p0 - (((p0.toUInt32 >>> ((1 : Int32).toUInt32 &&& Int32.toUInt32 31)).toInt32) &&& (1431655765 : Int32))).toUInt32 >>> ((2 : Int32).toUInt32 &&& Int32.toUInt32 31)).toInt32) &&& (858993459 : Int32))) + (((((p0 - (((p0.toUInt32 >>> ((1 : Int32).toUInt32 &&& Int32.toUInt32 31)).toInt32) &&& (1431655765 : Int32))) &&& (858993459 : Int32)) + ((((p0 - (((p0.toUInt32 >>> ((1 : Int32).toUInt32 &&& Int32.toUInt32 31)).toInt32) &&& (1431655765 : Int32))).toUInt32 >>> ((2 : Int32).toUInt32 &&& Int32.toUInt32 31)).toInt32) &&& (858993459 : Int32))).toUInt32 >>> ((4 : Int32).toUInt32 &&& Int32.toUInt32 31)).toInt32)) &&& (252645135 : Int32)).toUInt32 >>> ((8 : Int32).toUInt32 &&& Int32.toUInt32 31)).toInt32)) + ((((((((p0 - (((p0.toUInt32 >>> ((1 : Int32).toUInt32 &&& Int32.toUInt32 31)).toInt32) &&& (1431655765 : Int32))) &&& (858993459 : Int32)) + ((((p0 - (((p0.toUInt32 >>> ((1 : Int32).toUInt32 &&& Int32.toUInt32 31)).toInt32) &&& (1431655765 : Int32))).toUInt32 >>> ((2 : Int32).toUInt32 &&& Int32.toUInt32 31)).toInt32) &&& (858993459 : Int32))) + (((((p0 - (((p0.toUInt32 >>> ((1 : Int32).toUInt32 &&& Int32.toUInt32 31)).toInt32) &&& (1431655765 : Int32))) &&& (858993459 : Int32)) + ((((p0 - (((p0.toUInt32 >>> ((1 : Int32).toUInt32 &&& Int32.toUInt32 31)).toInt32) &&& (1431655765 : Int32))).toUInt32 >>> ((2 : Int32).toUInt32 &&& Int32.toUInt32 31)).toInt32) &&& (858993459 : Int32))).toUInt32 >>> ((4 : Int32).toUInt32 &&& Int32.toUInt32 31)).toInt32)) &&& (252645135 : Int32)) + (((((((p0 - (((p0.toUInt32 >>> ((1 : Int32).toUInt32 &&& Int32.toUInt32 31)).toInt32) &&& (1431655765 : Int32))) &&& (858993459 : Int32)) + ((((p0 - (((p0.toUInt32 >>> ((1 : Int32).toUInt32 &&& Int32.toUInt32 31)).toInt32) &&& (1431655765 : Int32))).toUInt32 >>> ((2 : Int32).toUInt32 &&& Int32.toUInt32 31)).toInt32) &&& (858993459 : Int32))) + (((((p0 - (((p0.toUInt32 >>> ((1 : Int32).toUInt32 &&& Int32.toUInt32 31)).toInt32) &&& (1431655765 : Int32))) &&& (858993459 : Int32)) + ((((p0 - (((p0.toUInt32 >>> ((1 : Int32).toUInt32 &&& Int32.toUInt32 31)).toInt32) &&& (1431655765 : Int32))).toUInt32 >>> ((2 : Int32).toUInt32 &&& Int32.toUInt32 31)).toInt32) &&& (858993459 : Int32))).toUInt32 >>> ((4 : Int32).toUInt32 &&& Int32.toUInt32 31)).toInt32)) &&& (252645135 : Int32)).toUInt32 >>> ((8 : Int32).toUInt32 &&& Int32.toUInt32 31)).toInt32)).toUInt32 >>> ((16 : Int32).toUInt32 &&& Int32.toUInt32 31)).toInt32)))]) hx hb dJ6_bitCount_0f7a4_47 rfl hl (by decide) rfl (fun ls hl => ?_)
  refine lv_iload_n hx hb dJ6_bitCount_0f7a4_48 rfl (lv_at hl 0 rfl) ?_
  refine lv_bipush (v := (63 : Int32)) hx hb dJ6_bitCount_0f7a4_49 (by decide) ?_
  refine lv_iand hx hb dJ6_bitCount_0f7a4_51 ?_
  exact W.iret (v := ((((((((p0 - (((p0.toUInt32 >>> ((1 : Int32).toUInt32 &&& Int32.toUInt32 31)).toInt32) &&& (1431655765 : Int32))) &&& (858993459 : Int32)) + ((((p0 - (((p0.toUInt32 >>> ((1 : Int32).toUInt32 &&& Int32.toUInt32 31)).toInt32) &&& (1431655765 : Int32))).toUInt32 >>> ((2 : Int32).toUInt32 &&& Int32.toUInt32 31)).toInt32) &&& (858993459 : Int32))) + (((((p0 - (((p0.toUInt32 >>> ((1 : Int32).toUInt32 &&& Int32.toUInt32 31)).toInt32) &&& (1431655765 : Int32))) &&& (858993459 : Int32)) + ((((p0 - (((p0.toUInt32 >>> ((1 : Int32).toUInt32 &&& Int32.toUInt32 31)).toInt32) &&& (1431655765 : Int32))).toUInt32 >>> ((2 : Int32).toUInt32 &&& Int32.toUInt32 31)).toInt32) &&& (858993459 : Int32))).toUInt32 >>> ((4 : Int32).toUInt32 &&& Int32.toUInt32 31)).toInt32)) &&& (252645135 : Int32)) + (((((((p0 - (((p0.toUInt32 >>> ((1 : Int32).toUInt32 &&& Int32.toUInt32 31)).toInt32) &&& (1431655765 : Int32))) &&& (858993459 : Int32)) + ((((p0 - (((p0.toUInt32 >>> ((1 : Int32).toUInt32 &&& Int32.toUInt32 31)).toInt32) &&& (1431655765 : Int32))).toUInt32 >>> ((2 : Int32).toUInt32 &&& Int32.toUInt32 31)).toInt32) &&& (858993459 : Int32))) + (((((p0 - (((p0.toUInt32 >>> ((1 : Int32).toUInt32 &&& Int32.toUInt32 31)).toInt32) &&& (1431655765 : Int32))) &&& (858993459 : Int32)) + ((((p0 - (((p0.toUInt32 >>> ((1 : Int32).toUInt32 &&& Int32.toUInt32 31)).toInt32) &&& (1431655765 : Int32))).toUInt32 >>> ((2 : Int32).toUInt32 &&& Int32.toUInt32 31)).toInt32) &&& (858993459 : Int32))).toUInt32 >>> ((4 : Int32).toUInt32 &&& Int32.toUInt32 31)).toInt32)) &&& (252645135 : Int32)).toUInt32 >>> ((8 : Int32).toUInt32 &&& Int32.toUInt32 31)).toInt32)) + ((((((((p0 - (((p0.toUInt32 >>> ((1 : Int32).toUInt32 &&& Int32.toUInt32 31)).toInt32) &&& (1431655765 : Int32))) &&& (858993459 : Int32)) + ((((p0 - (((p0.toUInt32 >>> ((1 : Int32).toUInt32 &&& Int32.toUInt32 31)).toInt32) &&& (1431655765 : Int32))).toUInt32 >>> ((2 : Int32).toUInt32 &&& Int32.toUInt32 31)).toInt32) &&& (858993459 : Int32))) + (((((p0 - (((p0.toUInt32 >>> ((1 : Int32).toUInt32 &&& Int32.toUInt32 31)).toInt32) &&& (1431655765 : Int32))) &&& (858993459 : Int32)) + ((((p0 - (((p0.toUInt32 >>> ((1 : Int32).toUInt32 &&& Int32.toUInt32 31)).toInt32) &&& (1431655765 : Int32))).toUInt32 >>> ((2 : Int32).toUInt32 &&& Int32.toUInt32 31)).toInt32) &&& (858993459 : Int32))).toUInt32 >>> ((4 : Int32).toUInt32 &&& Int32.toUInt32 31)).toInt32)) &&& (252645135 : Int32)) + (((((((p0 - (((p0.toUInt32 >>> ((1 : Int32).toUInt32 &&& Int32.toUInt32 31)).toInt32) &&& (1431655765 : Int32))) &&& (858993459 : Int32)) + ((((p0 - (((p0.toUInt32 >>> ((1 : Int32).toUInt32 &&& Int32.toUInt32 31)).toInt32) &&& (1431655765 : Int32))).toUInt32 >>> ((2 : Int32).toUInt32 &&& Int32.toUInt32 31)).toInt32) &&& (858993459 : Int32))) + (((((p0 - (((p0.toUInt32 >>> ((1 : Int32).toUInt32 &&& Int32.toUInt32 31)).toInt32) &&& (1431655765 : Int32))) &&& (858993459 : Int32)) + ((((p0 - (((p0.toUInt32 >>> ((1 : Int32).toUInt32 &&& Int32.toUInt32 31)).toInt32) &&& (1431655765 : Int32))).toUInt32 >>> ((2 : Int32).toUInt32 &&& Int32.toUInt32 31)).toInt32) &&& (858993459 : Int32))).toUInt32 >>> ((4 : Int32).toUInt32 &&& Int32.toUInt32 31)).toInt32)) &&& (252645135 : Int32)).toUInt32 >>> ((8 : Int32).toUInt32 &&& Int32.toUInt32 31)).toInt32)).toUInt32 >>> ((16 : Int32).toUInt32 &&& Int32.toUInt32 31)).toInt32)) &&& (63 : Int32))) hx hb hr (fun t ht hWm => ⟨⟨((((((((p0 - (((p0.toUInt32 >>> ((1 : Int32).toUInt32 &&& Int32.toUInt32 31)).toInt32) &&& (1431655765 : Int32))) &&& (858993459 : Int32)) + ((((p0 - (((p0.toUInt32 >>> ((1 : Int32).toUInt32 &&& Int32.toUInt32 31)).toInt32) &&& (1431655765 : Int32))).toUInt32 >>> ((2 : Int32).toUInt32 &&& Int32.toUInt32 31)).toInt32) &&& (858993459 : Int32))) + (((((p0 - (((p0.toUInt32 >>> ((1 : Int32).toUInt32 &&& Int32.toUInt32 31)).toInt32) &&& (1431655765 : Int32))) &&& (858993459 : Int32)) + ((((p0 - (((p0.toUInt32 >>> ((1 : Int32).toUInt32 &&& Int32.toUInt32 31)).toInt32) &&& (1431655765 : Int32))).toUInt32 >>> ((2 : Int32).toUInt32 &&& Int32.toUInt32 31)).toInt32) &&& (858993459 : Int32))).toUInt32 >>> ((4 : Int32).toUInt32 &&& Int32.toUInt32 31)).toInt32)) &&& (252645135 : Int32)) + (((((((p0 - (((p0.toUInt32 >>> ((1 : Int32).toUInt32 &&& Int32.toUInt32 31)).toInt32) &&& (1431655765 : Int32))) &&& (858993459 : Int32)) + ((((p0 - (((p0.toUInt32 >>> ((1 : Int32).toUInt32 &&& Int32.toUInt32 31)).toInt32) &&& (1431655765 : Int32))).toUInt32 >>> ((2 : Int32).toUInt32 &&& Int32.toUInt32 31)).toInt32) &&& (858993459 : Int32))) + (((((p0 - (((p0.toUInt32 >>> ((1 : Int32).toUInt32 &&& Int32.toUInt32 31)).toInt32) &&& (1431655765 : Int32))) &&& (858993459 : Int32)) + ((((p0 - (((p0.toUInt32 >>> ((1 : Int32).toUInt32 &&& Int32.toUInt32 31)).toInt32) &&& (1431655765 : Int32))).toUInt32 >>> ((2 : Int32).toUInt32 &&& Int32.toUInt32 31)).toInt32) &&& (858993459 : Int32))).toUInt32 >>> ((4 : Int32).toUInt32 &&& Int32.toUInt32 31)).toInt32)) &&& (252645135 : Int32)).toUInt32 >>> ((8 : Int32).toUInt32 &&& Int32.toUInt32 31)).toInt32)) + ((((((((p0 - (((p0.toUInt32 >>> ((1 : Int32).toUInt32 &&& Int32.toUInt32 31)).toInt32) &&& (1431655765 : Int32))) &&& (858993459 : Int32)) + ((((p0 - (((p0.toUInt32 >>> ((1 : Int32).toUInt32 &&& Int32.toUInt32 31)).toInt32) &&& (1431655765 : Int32))).toUInt32 >>> ((2 : Int32).toUInt32 &&& Int32.toUInt32 31)).toInt32) &&& (858993459 : Int32))) + (((((p0 - (((p0.toUInt32 >>> ((1 : Int32).toUInt32 &&& Int32.toUInt32 31)).toInt32) &&& (1431655765 : Int32))) &&& (858993459 : Int32)) + ((((p0 - (((p0.toUInt32 >>> ((1 : Int32).toUInt32 &&& Int32.toUInt32 31)).toInt32) &&& (1431655765 : Int32))).toUInt32 >>> ((2 : Int32).toUInt32 &&& Int32.toUInt32 31)).toInt32) &&& (858993459 : Int32))).toUInt32 >>> ((4 : Int32).toUInt32 &&& Int32.toUInt32 31)).toInt32)) &&& (252645135 : Int32)) + (((((((p0 - (((p0.toUInt32 >>> ((1 : Int32).toUInt32 &&& Int32.toUInt32 31)).toInt32) &&& (1431655765 : Int32))) &&& (858993459 : Int32)) + ((((p0 - (((p0.toUInt32 >>> ((1 : Int32).toUInt32 &&& Int32.toUInt32 31)).toInt32) &&& (1431655765 : Int32))).toUInt32 >>> ((2 : Int32).toUInt32 &&& Int32.toUInt32 31)).toInt32) &&& (858993459 : Int32))) + (((((p0 - (((p0.toUInt32 >>> ((1 : Int32).toUInt32 &&& Int32.toUInt32 31)).toInt32) &&& (1431655765 : Int32))) &&& (858993459 : Int32)) + ((((p0 - (((p0.toUInt32 >>> ((1 : Int32).toUInt32 &&& Int32.toUInt32 31)).toInt32) &&& (1431655765 : Int32))).toUInt32 >>> ((2 : Int32).toUInt32 &&& Int32.toUInt32 31)).toInt32) &&& (858993459 : Int32))).toUInt32 >>> ((4 : Int32).toUInt32 &&& Int32.toUInt32 31)).toInt32)) &&& (252645135 : Int32)).toUInt32 >>> ((8 : Int32).toUInt32 &&& Int32.toUInt32 31)).toInt32)).toUInt32 >>> ((16 : Int32).toUInt32 &&& Int32.toUInt32 31)).toInt32)) &&& (63 : Int32)), (), rfl, hw, by rw [ht]; exact hP, va_K.moved hWm.alike hK, hD⟩, hS.F ht⟩) hS.2.2 dJ6_bitCount_0f7a4_52
-- ===== RX6.isThing(I)Z
abbrev wdX6_isThing (cyI cyB cyZ cyT : ClassId) : va_W := []
abbrev rmX6_isThing : Room := { frames := 0, cells := 0, slots := 0, locals := 0 }
abbrev qX6_isThing (D : va_G) (cyI cyB cyZ cyT : ClassId) (Q : Int32 → Prop) (A : Nat → Prop) : Array Value → State → Outcome → State → Prop := va_Qi (S := Unit) (fun r _ => Q r) (kB D (kTy cyI cyB cyZ cyT) (fun u : Unit => (wdX6_isThing cyI cyB cyZ cyT    )) A) A
def wX6_isThing (F : Nat) (p0 : Int32) (Q : Int32 → Prop) : Prop := ((p0 < 0 → (Q (0 : Int32))) ∧ (¬ (p0 < 0) → (((8 : Int32) ≤ p0 → (Q (0 : Int32))) ∧ (¬ ((8 : Int32) ≤ p0) → (Q (1 : Int32))))))
set_option maxHeartbeats 4000000 in
set_option maxRecDepth 100000 in
theorem ctX6_isThing (l : Launch) (D : va_G) (cyI cyB cyZ cyT : ClassId) (F : Nat) (p0 : Int32) (Q : Int32 → Prop) : kMi (S := Unit) l yX6_isThing (kM yX6_isThing cX6_isThing 1 (some .boolean)) rmX6_isThing D (kTy cyI cyB cyZ cyT) [.int p0] (wdX6_isThing cyI cyB cyZ cyT    ) (wX6_isThing F p0 Q) (fun r _ => Q r) (fun u : Unit => (wdX6_isThing cyI cyB cyZ cyT    )) := by
  refine kMi.of (cc := cX6_isThing) (maxL := 1) (ret := (some .boolean)) (by decide) (Nat.le_of_ble_eq_true rfl) ?_
  intro p e s m below meth c A C0 hw hW ls hl
  obtain ⟨hx, hb, hr, hts, hown, hml, hlocks, hA, hN⟩ := id C0
  have hown : s.vm.findClass RX6 = some m.cls := hown
  obtain ⟨hK, hP, hD, hS⟩ := hW
  have hP : va_P D vwCl [] s.heap := hP
  have hD : va_D A [] := hD
  have hl : lv_has ls 1 [(0, .int p0)] := hl
  refine lv_iload_n hx hb dX6_isThing_0 rfl (lv_at hl 0 rfl) ?_
  refine lv_if_lt (tgt := 14) hx hb dX6_isThing_1 (by decide) (fun hc => ?_) (fun hc => ?_)
  · have hw := hw.1 hc
    refine lv_iconst (v := (0 : Int32)) hx hb dX6_isThing_14 (by decide) ?_
    exact W.zret (ty := .boolean) (v := (0 : Int32)) hx hb hr rfl (fun t ht hWm => ⟨⟨(0 : Int32), (), rfl, hw, by rw [ht]; exact hP, va_K.moved hWm.alike hK, hD⟩, hS.F ht⟩) hS.2.2 dX6_isThing_15
  · have hw := hw.2 hc
    refine lv_iload_n hx hb dX6_isThing_4 rfl (lv_at hl 0 rfl) ?_
    refine lv_bipush (v := (8 : Int32)) hx hb dX6_isThing_5 (by decide) ?_
    refine lv_icmp_ge (tgt := 14) hx hb dX6_isThing_7 (by decide) (fun hc => ?_) (fun hc => ?_)
    · have hw := hw.1 hc
      refine lv_iconst (v := (0 : Int32)) hx hb dX6_isThing_14 (by decide) ?_
      exact W.zret (ty := .boolean) (v := (0 : Int32)) hx hb hr rfl (fun t ht hWm => ⟨⟨(0 : Int32), (), rfl, hw, by rw [ht]; exact hP, va_K.moved hWm.alike hK, hD⟩, hS.F ht⟩) hS.2.2 dX6_isThing_15
    · have hw := hw.2 hc
      refine lv_iconst (v := (1 : Int32)) hx hb dX6_isThing_10 (by decide) ?_
      refine lv_goto (tgt := 15) hx hb dX6_isThing_11 (by decide) ?_
      exact W.zret (ty := .boolean) (v := (1 : Int32)) hx hb hr rfl (fun t ht hWm => ⟨⟨(1 : Int32), (), rfl, hw, by rw [ht]; exact hP, va_K.moved hWm.alike hK, hD⟩, hS.F ht⟩) hS.2.2 dX6_isThing_15
-- ===== RX6.turningIn(JI)I
abbrev wdX6_turningIn (cyI cyB cyZ cyT : ClassId) : va_W := []
abbrev rmX6_turningIn : Room := { frames := 0, cells := 0, slots := 0, locals := 0 }
abbrev qX6_turningIn (D : va_G) (cyI cyB cyZ cyT : ClassId) (Q : Int32 → Prop) (A : Nat → Prop) : Array Value → State → Outcome → State → Prop := va_Qi (S := Unit) (fun r _ => Q r) (kB D (kTy cyI cyB cyZ cyT) (fun u : Unit => (wdX6_turningIn cyI cyB cyZ cyT    )) A) A
def wX6_turningIn (F : Nat) (p0 : Int64) (p2 : Int32) (Q : Int32 → Prop) : Prop := (Q (((p0 >>> (((4 : Int32) * p2).toInt64 &&& 63)).toInt32) &&& (15 : Int32)))
set_option maxHeartbeats 4000000 in
set_option maxRecDepth 100000 in
theorem ctX6_turningIn (l : Launch) (D : va_G) (cyI cyB cyZ cyT : ClassId) (F : Nat) (p0 : Int64) (p2 : Int32) (Q : Int32 → Prop) : kMi (S := Unit) l yX6_turningIn (kM yX6_turningIn cX6_turningIn 3 (some .int)) rmX6_turningIn D (kTy cyI cyB cyZ cyT) [.long p0, .int p2] (wdX6_turningIn cyI cyB cyZ cyT    ) (wX6_turningIn F p0 p2 Q) (fun r _ => Q r) (fun u : Unit => (wdX6_turningIn cyI cyB cyZ cyT    )) := by
  refine kMi.of (cc := cX6_turningIn) (maxL := 3) (ret := (some .int)) (by decide) (Nat.le_of_ble_eq_true rfl) ?_
  intro p e s m below meth c A C0 hw hW ls hl
  obtain ⟨hx, hb, hr, hts, hown, hml, hlocks, hA, hN⟩ := id C0
  have hown : s.vm.findClass RX6 = some m.cls := hown
  obtain ⟨hK, hP, hD, hS⟩ := hW
  have hP : va_P D vwCl [] s.heap := hP
  have hD : va_D A [] := hD
  have hl : lv_has ls 3 [(0, .long p0), (2, .int p2)] := hl
  refine lv_lload_n hx hb dX6_turningIn_0 rfl (lv_at hl 0 rfl) ?_
  refine lv_iconst (v := (4 : Int32)) hx hb dX6_turningIn_1 (by decide) ?_
  refine lv_iload_n hx hb dX6_turningIn_2 rfl (lv_at hl 1 rfl) ?_
  refine lv_imul hx hb dX6_turningIn_3 ?_
  refine lv_lshr hx hb dX6_turningIn_4 rfl ?_
  refine lv_l2i hx hb dX6_turningIn_5 rfl ?_
  refine lv_bipush (v := (15 : Int32)) hx hb dX6_turningIn_6 (by decide) ?_
  refine lv_iand hx hb dX6_turningIn_8 ?_
  exact W.iret (v := (((p0 >>> (((4 : Int32) * p2).toInt64 &&& 63)).toInt32) &&& (15 : Int32))) hx hb hr (fun t ht hWm => ⟨⟨(((p0 >>> (((4 : Int32) * p2).toInt64 &&& 63)).toInt32) &&& (15 : Int32)), (), rfl, hw, by rw [ht]; exact hP, va_K.moved hWm.alike hK, hD⟩, hS.F ht⟩) hS.2.2 dX6_turningIn_9
-- ===== RX6.isTurnings(JI)Z
abbrev wdX6_isTurnings (cyI cyB cyZ cyT : ClassId) : va_W := []
abbrev rmX6_isTurnings : Room := { frames := 1, cells := 0, slots := 0, locals := 22 }
abbrev qX6_isTurnings (D : va_G) (cyI cyB cyZ cyT : ClassId) (Q : Int32 → Prop) (A : Nat → Prop) : Array Value → State → Outcome → State → Prop := va_Qi (S := Unit) (fun r _ => Q r) (kB D (kTy cyI cyB cyZ cyT) (fun u : Unit => (wdX6_isTurnings cyI cyB cyZ cyT    )) A) A
def wX6_isTurnings_b2 (F : Nat) (Q : Int32 → Prop)  (K_2 : Int64 → Int32 → Int32 → Prop) (L0 : Int64) (L2 : Int32) (L3 : Int32) : Prop := ((L2 ≤ L3 → ((¬ (lg_cmp ((L0.toUInt64 >>> (((4 : Int32) * L2).toInt64.toUInt64 &&& Int64.toUInt64 63)).toInt64) (0 : Int64)) = 0 → (Q (0 : Int32))) ∧ ((lg_cmp ((L0.toUInt64 >>> (((4 : Int32) * L2).toInt64.toUInt64 &&& Int64.toUInt64 63)).toInt64) (0 : Int64)) = 0 → (Q (1 : Int32))))) ∧ (¬ (L2 ≤ L3) → (wX6_turningIn F L0 L3 (fun r9 => ((r9 ≤ (5 : Int32) → (K_2 L0 L2 (L3 + 1))) ∧ (¬ (r9 ≤ (5 : Int32)) → (Q (0 : Int32))))))))
def wX6_isTurnings_H2 (F : Nat) (Q : Int32 → Prop)  : Nat → Int64 → Int32 → Int32 → Prop
  | 0 => fun _ _ _ => False
  | n + 1 => fun L0 L2 L3 => wX6_isTurnings_b2 F Q (wX6_isTurnings_H2 F Q n) L0 L2 L3
def wX6_isTurnings (F : Nat) (p0 : Int64) (p2 : Int32) (Q : Int32 → Prop) : Prop := (wX6_isTurnings_H2 F Q F p0 p2 (0 : Int32))
set_option maxHeartbeats 4000000 in
set_option maxRecDepth 100000 in
theorem ctX6_isTurnings_b2 {p : Program} {l : Launch} {e : Env} {s : State} {m : MethodId} {args : Array Value} {below : List Frame} {meth : Method} {c : Code} {A : Nat → Prop} {D : va_G} {cyI cyB cyZ cyT : ClassId} {F : Nat} {Q : Int32 → Prop} {K_2 : Int64 → Int32 → Int32 → Prop} (C0 : kCtx cX6_isTurnings (some .boolean) RX6 4 p s m args meth c A) (hk_2 : ∀ (L0 : Int64) (L2 : Int32) (L3 : Int32) (H : Heap) (locs : List Loc) (ls : Array Slot), K_2 L0 L2 L3 → kWd D (kTy cyI cyB cyZ cyT) (wdX6_isTurnings cyI cyB cyZ cyT    ) A s H locs → lv_has ls 4 [(0, .long L0), (2, .int L2), (3, .int L3)] → W p l e rmX6_isTurnings s m args below meth c H locs 0 0 (MQ below (qX6_isTurnings D cyI cyB cyZ cyT Q A) args s 0 0 A) (F0 m 2 ls [])) : ∀ (L0 : Int64) (L2 : Int32) (L3 : Int32) (H : Heap) (locs : List Loc) (ls : Array Slot), wX6_isTurnings_b2 F Q K_2 L0 L2 L3 → kWd D (kTy cyI cyB cyZ cyT) (wdX6_isTurnings cyI cyB cyZ cyT    ) A s H locs → lv_has ls 4 [(0, .long L0), (2, .int L2), (3, .int L3)] → W p l e rmX6_isTurnings s m args below meth c H locs 0 0 (MQ below (qX6_isTurnings D cyI cyB cyZ cyT Q A) args s 0 0 A) (F0 m 2 ls []) := by
  intro L0 L2 L3 H locs ls hw hW hl
  obtain ⟨hx, hb, hr, hts, hown, hml, hlocks, hA, hN⟩ := id C0
  obtain ⟨hK, hP, hD, hS⟩ := hW
  have hP : va_P D vwCl [] H := hP
  have hD : va_D A [] := hD
  refine lv_iload_n hx hb dX6_isTurnings_2 rfl (lv_at hl 2 rfl) ?_
  refine lv_iload_n hx hb dX6_isTurnings_3 rfl (lv_at hl 1 rfl) ?_
  refine lv_icmp_ge (tgt := 24) hx hb dX6_isTurnings_4 (by decide) (fun hc => ?_) (fun hc => ?_)
  · have hw := hw.1 hc
    refine lv_lload_n hx hb dX6_isTurnings_24 rfl (lv_at hl 0 rfl) ?_
    refine lv_iconst (v := (4 : Int32)) hx hb dX6_isTurnings_25 (by decide) ?_
    refine lv_iload_n hx hb dX6_isTurnings_26 rfl (lv_at hl 1 rfl) ?_
    refine lv_imul hx hb dX6_isTurnings_27 ?_
    refine lv_lushr hx hb dX6_isTurnings_28 rfl ?_
    refine lv_lconst (v := (0 : Int64)) hx hb dX6_isTurnings_29 (by decide) ?_
    refine W.lcmp hx hb dX6_isTurnings_30 ?_
    refine lv_if_ne (tgt := 38) hx hb dX6_isTurnings_31 (by decide) (fun hc => ?_) (fun hc => ?_)
    · have hw := hw.1 hc
      refine lv_iconst (v := (0 : Int32)) hx hb dX6_isTurnings_38 (by decide) ?_
      exact W.zret (ty := .boolean) (v := (0 : Int32)) hx hb hr rfl (fun t ht hWm => ⟨⟨(0 : Int32), (), rfl, hw, by rw [ht]; exact hP, va_K.moved hWm.alike hK, hD⟩, hS.F ht⟩) hS.2.2 dX6_isTurnings_39
    · have hw := hw.2 hc
      refine lv_iconst (v := (1 : Int32)) hx hb dX6_isTurnings_34 (by decide) ?_
      refine lv_goto (tgt := 39) hx hb dX6_isTurnings_35 (by decide) ?_
      exact W.zret (ty := .boolean) (v := (1 : Int32)) hx hb hr rfl (fun t ht hWm => ⟨⟨(1 : Int32), (), rfl, hw, by rw [ht]; exact hP, va_K.moved hWm.alike hK, hD⟩, hS.F ht⟩) hS.2.2 dX6_isTurnings_39
  · have hw := hw.2 hc
    refine lv_lload_n hx hb dX6_isTurnings_7 rfl (lv_at hl 0 rfl) ?_
    refine lv_iload_n hx hb dX6_isTurnings_8 rfl (lv_at hl 2 rfl) ?_
    refine kx_Si (S := Unit) (As := [.long L0, .int L3]) (rest := []) (WR := []) (WN := (fun u : Unit => [])) ⟨hx, hb, hml, hown, hts⟩ (ctX6_turningIn l D cyI cyB cyZ cyT F _ _ _) (va_cwS 2 hts (k_gS q_0ee87eae q_f719a3c2 q_37718511 q_6d7637b5) rfl rfl rfl (by decide +kernel) ⟨Nat.le_of_ble_eq_true rfl, Nat.le_of_ble_eq_true rfl⟩) hN hw ⟨hK, hP, hD, hS⟩ hA [] [] [] rfl (by decide) rfl (by decide) (by decide) (by decide) (fun _ => rfl) rfl hl.1 rfl (Nat.le_of_ble_eq_true rfl) dX6_isTurnings_9 ⟨Nat.zero_le _, Nat.zero_le _⟩ (fun r9 u H locs hw hW => ?_)
    obtain ⟨hK, hP, hD, hS⟩ := hW
    have hP : va_P D vwCl [] H := hP
    have hD : va_D A [] := hD
    refine lv_iconst (v := (5 : Int32)) hx hb dX6_isTurnings_12 (by decide) ?_
    refine lv_icmp_le (tgt := 18) hx hb dX6_isTurnings_13 (by decide) (fun hc => ?_) (fun hc => ?_)
    · have hw := hw.1 hc
      refine lv_iinc (v := (L3 + 1)) (lv' := [(3, .int (L3 + 1)), (0, .long L0), (2, .int L2)]) hx hb dX6_isTurnings_18 hl (k := 2) rfl rfl (by decide) rfl (fun ls hl => ?_)
      refine lv_goto (tgt := 2) hx hb dX6_isTurnings_21 (by decide) ?_
      exact hk_2 L0 L2 (L3 + 1) _ _ _ hw ⟨hK, hP, hD, hS⟩ (lv_sub hl [1, 2, 0] rfl)
    · have hw := hw.2 hc
      refine lv_iconst (v := (0 : Int32)) hx hb dX6_isTurnings_16 (by decide) ?_
      exact W.zret (ty := .boolean) (v := (0 : Int32)) hx hb hr rfl (fun t ht hWm => ⟨⟨(0 : Int32), (), rfl, hw, by rw [ht]; exact hP, va_K.moved hWm.alike hK, hD⟩, hS.F ht⟩) hS.2.2 dX6_isTurnings_17
theorem ctX6_isTurnings_H2 {p : Program} {l : Launch} {e : Env} {s : State} {m : MethodId} {args : Array Value} {below : List Frame} {meth : Method} {c : Code} {A : Nat → Prop} {D : va_G} {cyI cyB cyZ cyT : ClassId} {F : Nat} {Q : Int32 → Prop} (C0 : kCtx cX6_isTurnings (some .boolean) RX6 4 p s m args meth c A) : ∀ n : Nat, ∀ (L0 : Int64) (L2 : Int32) (L3 : Int32) (H : Heap) (locs : List Loc) (ls : Array Slot), wX6_isTurnings_H2 F Q n L0 L2 L3 → kWd D (kTy cyI cyB cyZ cyT) (wdX6_isTurnings cyI cyB cyZ cyT    ) A s H locs → lv_has ls 4 [(0, .long L0), (2, .int L2), (3, .int L3)] → W p l e rmX6_isTurnings s m args below meth c H locs 0 0 (MQ below (qX6_isTurnings D cyI cyB cyZ cyT Q A) args s 0 0 A) (F0 m 2 ls []) := by
  intro n
  induction n with
  | zero => intro L0 L2 L3 H locs ls hw hW hl; exact hw.elim
  | succ n ih => intro L0 L2 L3 H locs ls hw hW hl; exact ctX6_isTurnings_b2 (F := F) C0 ih L0 L2 L3 H locs ls hw hW hl
set_option maxHeartbeats 4000000 in
set_option maxRecDepth 100000 in
theorem ctX6_isTurnings (l : Launch) (D : va_G) (cyI cyB cyZ cyT : ClassId) (F : Nat) (p0 : Int64) (p2 : Int32) (Q : Int32 → Prop) : kMi (S := Unit) l yX6_isTurnings (kM yX6_isTurnings cX6_isTurnings 4 (some .boolean)) rmX6_isTurnings D (kTy cyI cyB cyZ cyT) [.long p0, .int p2] (wdX6_isTurnings cyI cyB cyZ cyT    ) (wX6_isTurnings F p0 p2 Q) (fun r _ => Q r) (fun u : Unit => (wdX6_isTurnings cyI cyB cyZ cyT    )) := by
  refine kMi.of (cc := cX6_isTurnings) (maxL := 4) (ret := (some .boolean)) (by decide) (Nat.le_of_ble_eq_true rfl) ?_
  intro p e s m below meth c A C0 hw hW ls hl
  obtain ⟨hx, hb, hr, hts, hown, hml, hlocks, hA, hN⟩ := id C0
  have hown : s.vm.findClass RX6 = some m.cls := hown
  obtain ⟨hK, hP, hD, hS⟩ := hW
  have hP : va_P D vwCl [] s.heap := hP
  have hD : va_D A [] := hD
  have hl : lv_has ls 4 [(0, .long p0), (2, .int p2)] := hl
  refine lv_iconst (v := (0 : Int32)) hx hb dX6_isTurnings_0 (by decide) ?_
  refine lv_istore_n (lv' := [(3, .int (0 : Int32)), (0, .long p0), (2, .int p2)]) hx hb dX6_isTurnings_1 rfl hl (by decide) rfl (fun ls hl => ?_)
  exact ctX6_isTurnings_H2 (F := F) C0 F p0 p2 (0 : Int32) _ _ _ hw ⟨hK, hP, hD, hS⟩ (lv_sub hl [1, 2, 0] rfl)
-- ===== RX4.append(B)V
abbrev wdX4_append (cyI cyB cyZ cyT : ClassId) (a : Nat → Nat) (g : SX4) : va_W := [(a 0, .inr (4, [.ref (a 1), .ref (a 2), .ref (a 3), .int g.x_length, .int g.x_walks])), (a 1, .inl (cyB, 300, .inl g.x_bytes)), (a 2, .inl (cyI, 10, .inl g.x_start)), (a 3, .inl (cyI, 9, .inl g.x_turnings))]
abbrev rmX4_append : Room := { frames := 0, cells := 0, slots := 0, locals := 0 }
abbrev qX4_append (D : va_G) (cyI cyB cyZ cyT : ClassId) (a : Nat → Nat) (Q : SX4 → Prop) (A : Nat → Prop) : Array Value → State → Outcome → State → Prop := va_Qv (S := SX4) (fun u => Q u) (kB D (kTy cyI cyB cyZ cyT) (fun u : SX4 => (wdX4_append cyI cyB cyZ cyT a   u)) A) A
def wX4_append (F : Nat) (g : SX4) (p1 : Int32) (Q : SX4 → Prop) : Prop := (((300 : Int32) ≤ g.x_length → (Q g)) ∧ (¬ ((300 : Int32) ≤ g.x_length) → (vp_in g.x_length 300) ∧ (Q ((upd g.x_bytes g.x_length.toNatClampNeg (vp_nar .byte p1)), g.x_start, g.x_turnings, (g.x_length + (1 : Int32)), g.x_walks))))
set_option maxHeartbeats 4000000 in
set_option maxRecDepth 100000 in
theorem ctX4_append (l : Launch) (D : va_G) (cyI cyB cyZ cyT : ClassId) (a : Nat → Nat) (F : Nat) (g : SX4) (p1 : Int32) (Q : SX4 → Prop) : kMv (S := SX4) l yX4_append (kM yX4_append cX4_append 2 none) rmX4_append D (kTy cyI cyB cyZ cyT) [.ref (a 0), .int p1] (wdX4_append cyI cyB cyZ cyT a   g) (wX4_append F g p1 Q) (fun u => Q u) (fun u : SX4 => (wdX4_append cyI cyB cyZ cyT a   u)) := by
  refine kMv.of (cc := cX4_append) (maxL := 2) (ret := none) (by decide) (Nat.le_of_ble_eq_true rfl) ?_
  intro p e s m below meth c A C0 hw hW ls hl
  obtain ⟨hx, hb, hr, hts, hown, hml, hlocks, hA, hN⟩ := id C0
  have hown : s.vm.findClass RX4 = some m.cls := hown
  obtain ⟨hK, hP, hD, hS⟩ := hW
  obtain ⟨x_bytes, x_start, x_turnings, x_length, x_walks⟩ := g
  have hP : va_P D vwCl [(a 0, .inr (4, [.ref (a 1), .ref (a 2), .ref (a 3), .int x_length, .int x_walks])), (a 1, .inl (cyB, 300, .inl x_bytes)), (a 2, .inl (cyI, 10, .inl x_start)), (a 3, .inl (cyI, 9, .inl x_turnings))] s.heap := hP
  have hD : va_D A [(a 0, .inr (4, [.ref (a 1), .ref (a 2), .ref (a 3), .int x_length, .int x_walks])), (a 1, .inl (cyB, 300, .inl x_bytes)), (a 2, .inl (cyI, 10, .inl x_start)), (a 3, .inl (cyI, 9, .inl x_turnings))] := hD
  have hl : lv_has ls 2 [(0, .ref (a 0)), (1, .int p1)] := hl
  refine lv_aload_n hx hb dX4_append_0 rfl (lv_at hl 0 rfl) ?_
  refine va_get (ci := 4) (v := .int x_length) (C := RX4) (T := TX4) (N := 5) hx hb hts iw_X4 hown hK hP 0 rfl rfl 3 (by decide) (hts (.fieldLink RX4 22 "WalkersSay$Text" "length" "I") q_e163904f) (fun _ h9 => h9) rfl dX4_append_1 ?_
  refine lv_sipush (v := (300 : Int32)) hx hb dX4_append_4 (by decide) ?_
  refine lv_icmp_ge (tgt := 30) hx hb dX4_append_7 (by decide) (fun hc => ?_) (fun hc => ?_)
  · have hw := hw.1 hc
    exact W.vret hx hb hr (fun t ht hWm => ⟨⟨(x_bytes, x_start, x_turnings, x_length, x_walks), rfl, hw, by rw [ht]; exact hP, va_K.moved hWm.alike hK, hD⟩, hS.F ht⟩) hS.2.2 dX4_append_30
  · have hw := hw.2 hc
    refine lv_aload_n hx hb dX4_append_10 rfl (lv_at hl 0 rfl) ?_
    refine va_get (ci := 4) (v := .ref (a 1)) (C := RX4) (T := TX4) (N := 5) hx hb hts iw_X4 hown hK hP 0 rfl rfl 0 (by decide) (hts (.fieldLink RX4 9 "WalkersSay$Text" "bytes" "[B") q_7bb64ea3) (fun _ h9 => h9) rfl dX4_append_11 ?_
    refine lv_aload_n hx hb dX4_append_14 rfl (lv_at hl 0 rfl) ?_
    refine va_get (ci := 4) (v := .int x_length) (C := RX4) (T := TX4) (N := 5) hx hb hts iw_X4 hown hK hP 0 rfl rfl 3 (by decide) (hts (.fieldLink RX4 22 "WalkersSay$Text" "length" "I") q_e163904f) (fun _ h9 => h9) rfl dX4_append_15 ?_
    refine lv_iload_n hx hb dX4_append_18 rfl (lv_at hl 1 rfl) ?_
    obtain ⟨hc0, hw⟩ := hw
    refine va_bast hx hb hK hP hD hS 1 1 rfl rfl hc0 dX4_append_19 (fun H locs hP hD hS => ?_)
    have hP : va_P D vwCl [(a 0, .inr (4, [.ref (a 1), .ref (a 2), .ref (a 3), .int x_length, .int x_walks])), (a 1, .inl (cyB, 300, .inl (upd x_bytes x_length.toNatClampNeg (vp_nar .byte p1)))), (a 2, .inl (cyI, 10, .inl x_start)), (a 3, .inl (cyI, 9, .inl x_turnings))] H := hP
    have hD : va_D A [(a 0, .inr (4, [.ref (a 1), .ref (a 2), .ref (a 3), .int x_length, .int x_walks])), (a 1, .inl (cyB, 300, .inl (upd x_bytes x_length.toNatClampNeg (vp_nar .byte p1)))), (a 2, .inl (cyI, 10, .inl x_start)), (a 3, .inl (cyI, 9, .inl x_turnings))] := hD
    refine lv_aload_n hx hb dX4_append_20 rfl (lv_at hl 0 rfl) ?_
    refine lv_dup hx hb dX4_append_21 rfl ?_
    refine va_get (ci := 4) (v := .int x_length) (C := RX4) (T := TX4) (N := 5) hx hb hts iw_X4 hown hK hP 0 rfl rfl 3 (by decide) (hts (.fieldLink RX4 22 "WalkersSay$Text" "length" "I") q_e163904f) (fun _ h9 => h9) rfl dX4_append_22 ?_
    refine lv_iconst (v := (1 : Int32)) hx hb dX4_append_25 (by decide) ?_
    refine lv_iadd hx hb dX4_append_26 ?_
    refine va_put (ci := 4) (v := .int (x_length + (1 : Int32))) (ty := .int) (C := RX4) (T := TX4) (N := 5) hx hb hts iw_X4 tyX4 tyX4_ok nmX4 hown hK hP hD hS 0 rfl rfl 3 (by decide) (hts (.fieldLink RX4 22 "WalkersSay$Text" "length" "I") q_e163904f) (fun _ h9 => h9) rfl (by decide +kernel) rfl rfl (Nat.le_of_ble_eq_true rfl) dX4_append_27 (fun H locs hP hD hS => ?_)
    have hP : va_P D vwCl [(a 0, .inr (4, [.ref (a 1), .ref (a 2), .ref (a 3), .int (x_length + (1 : Int32)), .int x_walks])), (a 1, .inl (cyB, 300, .inl (upd x_bytes x_length.toNatClampNeg (vp_nar .byte p1)))), (a 2, .inl (cyI, 10, .inl x_start)), (a 3, .inl (cyI, 9, .inl x_turnings))] H := hP
    have hD : va_D A [(a 0, .inr (4, [.ref (a 1), .ref (a 2), .ref (a 3), .int (x_length + (1 : Int32)), .int x_walks])), (a 1, .inl (cyB, 300, .inl (upd x_bytes x_length.toNatClampNeg (vp_nar .byte p1)))), (a 2, .inl (cyI, 10, .inl x_start)), (a 3, .inl (cyI, 9, .inl x_turnings))] := hD
    exact W.vret hx hb hr (fun t ht hWm => ⟨⟨((upd x_bytes x_length.toNatClampNeg (vp_nar .byte p1)), x_start, x_turnings, (x_length + (1 : Int32)), x_walks), rfl, hw, by rw [ht]; exact hP, va_K.moved hWm.alike hK, hD⟩, hS.F ht⟩) hS.2.2 dX4_append_30
-- ===== RX4.takeOver(LWalkersSay$Text;)V
abbrev wdX4_takeOver (cyI cyB cyZ cyT : ClassId) (a : Nat → Nat) (a_p1 : Nat → Nat) (g : SX4) (g_p1 : SX4) : va_W := [(a 0, .inr (4, [.ref (a 1), .ref (a 2), .ref (a 3), .int g.x_length, .int g.x_walks])), (a 1, .inl (cyB, 300, .inl g.x_bytes)), (a 2, .inl (cyI, 10, .inl g.x_start)), (a 3, .inl (cyI, 9, .inl g.x_turnings)), (a_p1 0, .inr (4, [.ref (a_p1 1), .ref (a_p1 2), .ref (a_p1 3), .int g_p1.x_length, .int g_p1.x_walks])), (a_p1 1, .inl (cyB, 300, .inl g_p1.x_bytes)), (a_p1 2, .inl (cyI, 10, .inl g_p1.x_start)), (a_p1 3, .inl (cyI, 9, .inl g_p1.x_turnings))]
abbrev rmX4_takeOver : Room := { frames := 1, cells := 0, slots := 0, locals := 80 }
abbrev qX4_takeOver (D : va_G) (cyI cyB cyZ cyT : ClassId) (a : Nat → Nat) (a_p1 : Nat → Nat) (g_p1 : SX4) (Q : SX4 → Prop) (A : Nat → Prop) : Array Value → State → Outcome → State → Prop := va_Qv (S := SX4) (fun u => Q u) (kB D (kTy cyI cyB cyZ cyT) (fun u : SX4 => (wdX4_takeOver cyI cyB cyZ cyT a a_p1   u g_p1)) A) A
def wX4_takeOver (F : Nat) (g : SX4) (g_p1 : SX4) (Q : SX4 → Prop) : Prop := (¬ g_p1.x_length < 0) ∧ ((0 : Int32).toNatClampNeg + g_p1.x_length.toNatClampNeg ≤ 300) ∧ ((0 : Int32).toNatClampNeg + g_p1.x_length.toNatClampNeg ≤ 300) ∧ ((∀ i, i < g_p1.x_length.toNatClampNeg → fits .byte (.int (g_p1.x_bytes ((0 : Int32).toNatClampNeg + i))) = true)) ∧ (Q ((va_cpy g_p1.x_bytes g.x_bytes (0 : Int32).toNatClampNeg (0 : Int32).toNatClampNeg g_p1.x_length.toNatClampNeg), g.x_start, g.x_turnings, g_p1.x_length, g.x_walks))
set_option maxHeartbeats 4000000 in
set_option maxRecDepth 100000 in
theorem ctX4_takeOver (l : Launch) (D : va_G) (cyI cyB cyZ cyT : ClassId) (a : Nat → Nat) (a_p1 : Nat → Nat) (F : Nat) (g : SX4) (g_p1 : SX4) (Q : SX4 → Prop) : kMv (S := SX4) l yX4_takeOver (kM yX4_takeOver cX4_takeOver 2 none) rmX4_takeOver D (kTy cyI cyB cyZ cyT) [.ref (a 0), .ref (a_p1 0)] (wdX4_takeOver cyI cyB cyZ cyT a a_p1   g g_p1) (wX4_takeOver F g g_p1 Q) (fun u => Q u) (fun u : SX4 => (wdX4_takeOver cyI cyB cyZ cyT a a_p1   u g_p1)) := by
  refine kMv.of (cc := cX4_takeOver) (maxL := 2) (ret := none) (by decide) (Nat.le_of_ble_eq_true rfl) ?_
  intro p e s m below meth c A C0 hw hW ls hl
  obtain ⟨hx, hb, hr, hts, hown, hml, hlocks, hA, hN⟩ := id C0
  have hown : s.vm.findClass RX4 = some m.cls := hown
  obtain ⟨hK, hP, hD, hS⟩ := hW
  obtain ⟨x_bytes, x_start, x_turnings, x_length, x_walks⟩ := g
  obtain ⟨x_bytes_p1, x_start_p1, x_turnings_p1, x_length_p1, x_walks_p1⟩ := g_p1
  have hP : va_P D vwCl [(a 0, .inr (4, [.ref (a 1), .ref (a 2), .ref (a 3), .int x_length, .int x_walks])), (a 1, .inl (cyB, 300, .inl x_bytes)), (a 2, .inl (cyI, 10, .inl x_start)), (a 3, .inl (cyI, 9, .inl x_turnings)), (a_p1 0, .inr (4, [.ref (a_p1 1), .ref (a_p1 2), .ref (a_p1 3), .int x_length_p1, .int x_walks_p1])), (a_p1 1, .inl (cyB, 300, .inl x_bytes_p1)), (a_p1 2, .inl (cyI, 10, .inl x_start_p1)), (a_p1 3, .inl (cyI, 9, .inl x_turnings_p1))] s.heap := hP
  have hD : va_D A [(a 0, .inr (4, [.ref (a 1), .ref (a 2), .ref (a 3), .int x_length, .int x_walks])), (a 1, .inl (cyB, 300, .inl x_bytes)), (a 2, .inl (cyI, 10, .inl x_start)), (a 3, .inl (cyI, 9, .inl x_turnings)), (a_p1 0, .inr (4, [.ref (a_p1 1), .ref (a_p1 2), .ref (a_p1 3), .int x_length_p1, .int x_walks_p1])), (a_p1 1, .inl (cyB, 300, .inl x_bytes_p1)), (a_p1 2, .inl (cyI, 10, .inl x_start_p1)), (a_p1 3, .inl (cyI, 9, .inl x_turnings_p1))] := hD
  have hl : lv_has ls 2 [(0, .ref (a 0)), (1, .ref (a_p1 0))] := hl
  refine lv_aload_n hx hb dX4_takeOver_0 rfl (lv_at hl 1 rfl) ?_
  refine va_get (ci := 4) (v := .ref (a_p1 1)) (C := RX4) (T := TX4) (N := 5) hx hb hts iw_X4 hown hK hP 4 rfl rfl 0 (by decide) (hts (.fieldLink RX4 9 "WalkersSay$Text" "bytes" "[B") q_7bb64ea3) (fun _ h9 => h9) rfl dX4_takeOver_1 ?_
  refine lv_iconst (v := (0 : Int32)) hx hb dX4_takeOver_4 (by decide) ?_
  refine lv_aload_n hx hb dX4_takeOver_5 rfl (lv_at hl 0 rfl) ?_
  refine va_get (ci := 4) (v := .ref (a 1)) (C := RX4) (T := TX4) (N := 5) hx hb hts iw_X4 hown hK hP 0 rfl rfl 0 (by decide) (hts (.fieldLink RX4 9 "WalkersSay$Text" "bytes" "[B") q_7bb64ea3) (fun _ h9 => h9) rfl dX4_takeOver_6 ?_
  refine lv_iconst (v := (0 : Int32)) hx hb dX4_takeOver_9 (by decide) ?_
  refine lv_aload_n hx hb dX4_takeOver_10 rfl (lv_at hl 1 rfl) ?_
  refine va_get (ci := 4) (v := .int x_length_p1) (C := RX4) (T := TX4) (N := 5) hx hb hts iw_X4 hown hK hP 4 rfl rfl 3 (by decide) (hts (.fieldLink RX4 22 "WalkersSay$Text" "length" "I") q_e163904f) (fun _ h9 => h9) rfl dX4_takeOver_11 ?_
  obtain ⟨hc0, hw⟩ := hw
  obtain ⟨hc1, hw⟩ := hw
  obtain ⟨hc2, hw⟩ := hw
  obtain ⟨hc3, hw⟩ := hw
  refine va_copyi hx hb (hml.trans hl.1.symm) hown (hts (.methodLink RX4 26 arraycopyName) q_43ac3536) (hts (.native arraycopyName) q_b8e2a615) (hts (.static arraycopyName) q_0f5f9aba) (hts (.initialized "java/lang/System") q_4e16621c) hK hP hD hS 5 1 1 1 rfl rfl rfl rfl rfl (by decide) (by decide) hc0 hc1 hc2 hc3 (Nat.le_of_ble_eq_true rfl) (Nat.le_of_ble_eq_true rfl) dX4_takeOver_14 (fun H locs hP hD hS => ?_)
  have hP : va_P D vwCl [(a 0, .inr (4, [.ref (a 1), .ref (a 2), .ref (a 3), .int x_length, .int x_walks])), (a 1, .inl (cyB, 300, .inl (va_cpy x_bytes_p1 x_bytes (0 : Int32).toNatClampNeg (0 : Int32).toNatClampNeg x_length_p1.toNatClampNeg))), (a 2, .inl (cyI, 10, .inl x_start)), (a 3, .inl (cyI, 9, .inl x_turnings)), (a_p1 0, .inr (4, [.ref (a_p1 1), .ref (a_p1 2), .ref (a_p1 3), .int x_length_p1, .int x_walks_p1])), (a_p1 1, .inl (cyB, 300, .inl x_bytes_p1)), (a_p1 2, .inl (cyI, 10, .inl x_start_p1)), (a_p1 3, .inl (cyI, 9, .inl x_turnings_p1))] H := hP
  have hD : va_D A [(a 0, .inr (4, [.ref (a 1), .ref (a 2), .ref (a 3), .int x_length, .int x_walks])), (a 1, .inl (cyB, 300, .inl (va_cpy x_bytes_p1 x_bytes (0 : Int32).toNatClampNeg (0 : Int32).toNatClampNeg x_length_p1.toNatClampNeg))), (a 2, .inl (cyI, 10, .inl x_start)), (a 3, .inl (cyI, 9, .inl x_turnings)), (a_p1 0, .inr (4, [.ref (a_p1 1), .ref (a_p1 2), .ref (a_p1 3), .int x_length_p1, .int x_walks_p1])), (a_p1 1, .inl (cyB, 300, .inl x_bytes_p1)), (a_p1 2, .inl (cyI, 10, .inl x_start_p1)), (a_p1 3, .inl (cyI, 9, .inl x_turnings_p1))] := hD
  refine lv_aload_n hx hb dX4_takeOver_17 rfl (lv_at hl 0 rfl) ?_
  refine lv_aload_n hx hb dX4_takeOver_18 rfl (lv_at hl 1 rfl) ?_
  refine va_get (ci := 4) (v := .int x_length_p1) (C := RX4) (T := TX4) (N := 5) hx hb hts iw_X4 hown hK hP 4 rfl rfl 3 (by decide) (hts (.fieldLink RX4 22 "WalkersSay$Text" "length" "I") q_e163904f) (fun _ h9 => h9) rfl dX4_takeOver_19 ?_
  refine va_put (ci := 4) (v := .int x_length_p1) (ty := .int) (C := RX4) (T := TX4) (N := 5) hx hb hts iw_X4 tyX4 tyX4_ok nmX4 hown hK hP hD hS 0 rfl rfl 3 (by decide) (hts (.fieldLink RX4 22 "WalkersSay$Text" "length" "I") q_e163904f) (fun _ h9 => h9) rfl (by decide +kernel) rfl rfl (Nat.le_of_ble_eq_true rfl) dX4_takeOver_22 (fun H locs hP hD hS => ?_)
  have hP : va_P D vwCl [(a 0, .inr (4, [.ref (a 1), .ref (a 2), .ref (a 3), .int x_length_p1, .int x_walks])), (a 1, .inl (cyB, 300, .inl (va_cpy x_bytes_p1 x_bytes (0 : Int32).toNatClampNeg (0 : Int32).toNatClampNeg x_length_p1.toNatClampNeg))), (a 2, .inl (cyI, 10, .inl x_start)), (a 3, .inl (cyI, 9, .inl x_turnings)), (a_p1 0, .inr (4, [.ref (a_p1 1), .ref (a_p1 2), .ref (a_p1 3), .int x_length_p1, .int x_walks_p1])), (a_p1 1, .inl (cyB, 300, .inl x_bytes_p1)), (a_p1 2, .inl (cyI, 10, .inl x_start_p1)), (a_p1 3, .inl (cyI, 9, .inl x_turnings_p1))] H := hP
  have hD : va_D A [(a 0, .inr (4, [.ref (a 1), .ref (a 2), .ref (a 3), .int x_length_p1, .int x_walks])), (a 1, .inl (cyB, 300, .inl (va_cpy x_bytes_p1 x_bytes (0 : Int32).toNatClampNeg (0 : Int32).toNatClampNeg x_length_p1.toNatClampNeg))), (a 2, .inl (cyI, 10, .inl x_start)), (a 3, .inl (cyI, 9, .inl x_turnings)), (a_p1 0, .inr (4, [.ref (a_p1 1), .ref (a_p1 2), .ref (a_p1 3), .int x_length_p1, .int x_walks_p1])), (a_p1 1, .inl (cyB, 300, .inl x_bytes_p1)), (a_p1 2, .inl (cyI, 10, .inl x_start_p1)), (a_p1 3, .inl (cyI, 9, .inl x_turnings_p1))] := hD
  exact W.vret hx hb hr (fun t ht hWm => ⟨⟨((va_cpy x_bytes_p1 x_bytes (0 : Int32).toNatClampNeg (0 : Int32).toNatClampNeg x_length_p1.toNatClampNeg), x_start, x_turnings, x_length_p1, x_walks), rfl, hw, by rw [ht]; exact hP, va_K.moved hWm.alike hK, hD⟩, hS.F ht⟩) hS.2.2 dX4_takeOver_25
-- ===== RX4.isBetween(ICC)Z
abbrev wdX4_isBetween (cyI cyB cyZ cyT : ClassId) : va_W := []
abbrev rmX4_isBetween : Room := { frames := 0, cells := 0, slots := 0, locals := 0 }
abbrev qX4_isBetween (D : va_G) (cyI cyB cyZ cyT : ClassId) (Q : Int32 → Prop) (A : Nat → Prop) : Array Value → State → Outcome → State → Prop := va_Qi (S := Unit) (fun r _ => Q r) (kB D (kTy cyI cyB cyZ cyT) (fun u : Unit => (wdX4_isBetween cyI cyB cyZ cyT    )) A) A
def wX4_isBetween (F : Nat) (p0 : Int32) (p1 : Int32) (p2 : Int32) (Q : Int32 → Prop) : Prop := ((p0 < p1 → (Q (0 : Int32))) ∧ (¬ (p0 < p1) → ((p2 < p0 → (Q (0 : Int32))) ∧ (¬ (p2 < p0) → (Q (1 : Int32))))))
set_option maxHeartbeats 4000000 in
set_option maxRecDepth 100000 in
theorem ctX4_isBetween (l : Launch) (D : va_G) (cyI cyB cyZ cyT : ClassId) (F : Nat) (p0 : Int32) (p1 : Int32) (p2 : Int32) (Q : Int32 → Prop) : kMi (S := Unit) l yX4_isBetween (kM yX4_isBetween cX4_isBetween 3 (some .boolean)) rmX4_isBetween D (kTy cyI cyB cyZ cyT) [.int p0, .int p1, .int p2] (wdX4_isBetween cyI cyB cyZ cyT    ) (wX4_isBetween F p0 p1 p2 Q) (fun r _ => Q r) (fun u : Unit => (wdX4_isBetween cyI cyB cyZ cyT    )) := by
  refine kMi.of (cc := cX4_isBetween) (maxL := 3) (ret := (some .boolean)) (by decide) (Nat.le_of_ble_eq_true rfl) ?_
  intro p e s m below meth c A C0 hw hW ls hl
  obtain ⟨hx, hb, hr, hts, hown, hml, hlocks, hA, hN⟩ := id C0
  have hown : s.vm.findClass RX4 = some m.cls := hown
  obtain ⟨hK, hP, hD, hS⟩ := hW
  have hP : va_P D vwCl [] s.heap := hP
  have hD : va_D A [] := hD
  have hl : lv_has ls 3 [(0, .int p0), (1, .int p1), (2, .int p2)] := hl
  refine lv_iload_n hx hb dX4_isBetween_0 rfl (lv_at hl 0 rfl) ?_
  refine lv_iload_n hx hb dX4_isBetween_1 rfl (lv_at hl 1 rfl) ?_
  refine lv_icmp_lt (tgt := 14) hx hb dX4_isBetween_2 (by decide) (fun hc => ?_) (fun hc => ?_)
  · have hw := hw.1 hc
    refine lv_iconst (v := (0 : Int32)) hx hb dX4_isBetween_14 (by decide) ?_
    exact W.zret (ty := .boolean) (v := (0 : Int32)) hx hb hr rfl (fun t ht hWm => ⟨⟨(0 : Int32), (), rfl, hw, by rw [ht]; exact hP, va_K.moved hWm.alike hK, hD⟩, hS.F ht⟩) hS.2.2 dX4_isBetween_15
  · have hw := hw.2 hc
    refine lv_iload_n hx hb dX4_isBetween_5 rfl (lv_at hl 0 rfl) ?_
    refine lv_iload_n hx hb dX4_isBetween_6 rfl (lv_at hl 2 rfl) ?_
    refine lv_icmp_gt (tgt := 14) hx hb dX4_isBetween_7 (by decide) (fun hc => ?_) (fun hc => ?_)
    · have hw := hw.1 hc
      refine lv_iconst (v := (0 : Int32)) hx hb dX4_isBetween_14 (by decide) ?_
      exact W.zret (ty := .boolean) (v := (0 : Int32)) hx hb hr rfl (fun t ht hWm => ⟨⟨(0 : Int32), (), rfl, hw, by rw [ht]; exact hP, va_K.moved hWm.alike hK, hD⟩, hS.F ht⟩) hS.2.2 dX4_isBetween_15
    · have hw := hw.2 hc
      refine lv_iconst (v := (1 : Int32)) hx hb dX4_isBetween_10 (by decide) ?_
      refine lv_goto (tgt := 15) hx hb dX4_isBetween_11 (by decide) ?_
      exact W.zret (ty := .boolean) (v := (1 : Int32)) hx hb hr rfl (fun t ht hWm => ⟨⟨(1 : Int32), (), rfl, hw, by rw [ht]; exact hP, va_K.moved hWm.alike hK, hD⟩, hS.F ht⟩) hS.2.2 dX4_isBetween_15
-- ===== RX4.canStand(III)Z
abbrev wdX4_canStand (cyI cyB cyZ cyT : ClassId) : va_W := []
abbrev rmX4_canStand : Room := { frames := 1, cells := 0, slots := 0, locals := 22 }
abbrev qX4_canStand (D : va_G) (cyI cyB cyZ cyT : ClassId) (Q : Int32 → Prop) (A : Nat → Prop) : Array Value → State → Outcome → State → Prop := va_Qi (S := Unit) (fun r _ => Q r) (kB D (kTy cyI cyB cyZ cyT) (fun u : Unit => (wdX4_canStand cyI cyB cyZ cyT    )) A) A
def wX4_canStand (F : Nat) (p0 : Int32) (p1 : Int32) (p2 : Int32) (Q : Int32 → Prop) : Prop := ((p0 = (0 : Int32) → (wX4_isBetween F p1 (97 : Int32) (104 : Int32) (fun r37 => (isB r37) ∧ (Q r37)))) ∧ (p0 = (1 : Int32) → (wX4_isBetween F p1 (97 : Int32) (104 : Int32) (fun r46 => ((¬ r46 = 0 → (Q (1 : Int32))) ∧ (r46 = 0 → (wX4_isBetween F p1 (48 : Int32) (53 : Int32) (fun r57 => ((¬ r57 = 0 → (Q (1 : Int32))) ∧ (r57 = 0 → ((p1 = (35 : Int32) → (Q (1 : Int32))) ∧ (¬ (p1 = (35 : Int32)) → ((p1 = (61 : Int32) → (Q (1 : Int32))) ∧ (¬ (p1 = (61 : Int32)) → ((p1 = (33 : Int32) → (Q (1 : Int32))) ∧ (¬ (p1 = (33 : Int32)) → ((¬ p1 = (59 : Int32) → (Q (0 : Int32))) ∧ (p1 = (59 : Int32) → (Q (1 : Int32))))))))))))))))))) ∧ (p0 = (2 : Int32) → (wX4_isBetween F p1 (48 : Int32) (53 : Int32) (fun r98 => (isB r98) ∧ (Q r98)))) ∧ (p0 = (3 : Int32) → (wX4_isBetween F p1 (49 : Int32) (54 : Int32) (fun r107 => (isB r107) ∧ (Q r107)))) ∧ (¬ p0 = (0 : Int32) → ¬ p0 = (1 : Int32) → ¬ p0 = (2 : Int32) → ¬ p0 = (3 : Int32) → (wX4_isBetween F p1 (48 : Int32) (57 : Int32) (fun r116 => ((r116 = 0 → (Q (0 : Int32))) ∧ (¬ (r116 = 0) → ((p2 < (p1 - (48 : Int32)) → (Q (0 : Int32))) ∧ (¬ (p2 < (p1 - (48 : Int32))) → (Q (1 : Int32))))))))))
set_option maxHeartbeats 4000000 in
set_option maxRecDepth 100000 in
theorem ctX4_canStand (l : Launch) (D : va_G) (cyI cyB cyZ cyT : ClassId) (F : Nat) (p0 : Int32) (p1 : Int32) (p2 : Int32) (Q : Int32 → Prop) : kMi (S := Unit) l yX4_canStand (kM yX4_canStand cX4_canStand 3 (some .boolean)) rmX4_canStand D (kTy cyI cyB cyZ cyT) [.int p0, .int p1, .int p2] (wdX4_canStand cyI cyB cyZ cyT    ) (wX4_canStand F p0 p1 p2 Q) (fun r _ => Q r) (fun u : Unit => (wdX4_canStand cyI cyB cyZ cyT    )) := by
  refine kMi.of (cc := cX4_canStand) (maxL := 3) (ret := (some .boolean)) (by decide) (Nat.le_of_ble_eq_true rfl) ?_
  intro p e s m below meth c A C0 hw hW ls hl
  obtain ⟨hx, hb, hr, hts, hown, hml, hlocks, hA, hN⟩ := id C0
  have hown : s.vm.findClass RX4 = some m.cls := hown
  obtain ⟨hK, hP, hD, hS⟩ := hW
  have hP : va_P D vwCl [] s.heap := hP
  have hD : va_D A [] := hD
  have hl : lv_has ls 3 [(0, .int p0), (1, .int p1), (2, .int p2)] := hl
  refine lv_iload_n hx hb dX4_canStand_0 rfl (lv_at hl 0 rfl) ?_
  by_cases n0 : p0 = (0 : Int32)
  · have hw := hw.1 n0
    refine lv_tableIn (off := 31) (tgt := 32) hx hb dX4_canStand_1 (by rw [n0]; decide) (by rw [n0]; decide) (by rw [n0]; rfl) (by decide) ?_
    refine lv_iload_n hx hb dX4_canStand_32 rfl (lv_at hl 1 rfl) ?_
    refine lv_bipush (v := (97 : Int32)) hx hb dX4_canStand_33 (by decide) ?_
    refine lv_bipush (v := (104 : Int32)) hx hb dX4_canStand_35 (by decide) ?_
    refine kx_Si (S := Unit) (As := [.int p1, .int (97 : Int32), .int (104 : Int32)]) (rest := []) (WR := []) (WN := (fun u : Unit => [])) ⟨hx, hb, hml, hown, hts⟩ (ctX4_isBetween l D cyI cyB cyZ cyT F _ _ _ _) (va_cwS 3 hts (k_gS q_1cbe2a6e q_225c677d q_2fe9664d q_69524b7c) rfl rfl rfl (by decide +kernel) ⟨Nat.le_of_ble_eq_true rfl, Nat.le_of_ble_eq_true rfl⟩) hN hw ⟨hK, hP, hD, hS⟩ hA [] [] [] rfl (by decide) rfl (by decide) (by decide) (by decide) (fun _ => rfl) rfl hl.1 rfl (Nat.le_of_ble_eq_true rfl) dX4_canStand_37 ⟨Nat.zero_le _, Nat.zero_le _⟩ (fun r37 u H locs hw hW => ?_)
    obtain ⟨hK, hP, hD, hS⟩ := hW
    have hP : va_P D vwCl [] H := hP
    have hD : va_D A [] := hD
    obtain ⟨hc0, hw⟩ := hw
    exact W.zret (ty := .boolean) (v := r37) hx hb hr hc0 (fun t ht hWm => ⟨⟨r37, (), rfl, hw, by rw [ht]; exact hP, va_K.moved hWm.alike hK, hD⟩, hS.F ht⟩) hS.2.2 dX4_canStand_40
  replace hw := hw.2
  by_cases n1 : p0 = (1 : Int32)
  · have hw := hw.1 n1
    refine lv_tableIn (off := 40) (tgt := 41) hx hb dX4_canStand_1 (by rw [n1]; decide) (by rw [n1]; decide) (by rw [n1]; rfl) (by decide) ?_
    refine lv_iload_n hx hb dX4_canStand_41 rfl (lv_at hl 1 rfl) ?_
    refine lv_bipush (v := (97 : Int32)) hx hb dX4_canStand_42 (by decide) ?_
    refine lv_bipush (v := (104 : Int32)) hx hb dX4_canStand_44 (by decide) ?_
    refine kx_Si (S := Unit) (As := [.int p1, .int (97 : Int32), .int (104 : Int32)]) (rest := []) (WR := []) (WN := (fun u : Unit => [])) ⟨hx, hb, hml, hown, hts⟩ (ctX4_isBetween l D cyI cyB cyZ cyT F _ _ _ _) (va_cwS 3 hts (k_gS q_1cbe2a6e q_225c677d q_2fe9664d q_69524b7c) rfl rfl rfl (by decide +kernel) ⟨Nat.le_of_ble_eq_true rfl, Nat.le_of_ble_eq_true rfl⟩) hN hw ⟨hK, hP, hD, hS⟩ hA [] [] [] rfl (by decide) rfl (by decide) (by decide) (by decide) (fun _ => rfl) rfl hl.1 rfl (Nat.le_of_ble_eq_true rfl) dX4_canStand_46 ⟨Nat.zero_le _, Nat.zero_le _⟩ (fun r46 u H locs hw hW => ?_)
    obtain ⟨hK, hP, hD, hS⟩ := hW
    have hP : va_P D vwCl [] H := hP
    have hD : va_D A [] := hD
    refine lv_if_ne (tgt := 87) hx hb dX4_canStand_49 (by decide) (fun hc => ?_) (fun hc => ?_)
    · have hw := hw.1 hc
      refine lv_iconst (v := (1 : Int32)) hx hb dX4_canStand_87 (by decide) ?_
      refine lv_goto (tgt := 92) hx hb dX4_canStand_88 (by decide) ?_
      exact W.zret (ty := .boolean) (v := (1 : Int32)) hx hb hr rfl (fun t ht hWm => ⟨⟨(1 : Int32), (), rfl, hw, by rw [ht]; exact hP, va_K.moved hWm.alike hK, hD⟩, hS.F ht⟩) hS.2.2 dX4_canStand_92
    · have hw := hw.2 hc
      refine lv_iload_n hx hb dX4_canStand_52 rfl (lv_at hl 1 rfl) ?_
      refine lv_bipush (v := (48 : Int32)) hx hb dX4_canStand_53 (by decide) ?_
      refine lv_bipush (v := (53 : Int32)) hx hb dX4_canStand_55 (by decide) ?_
      refine kx_Si (S := Unit) (As := [.int p1, .int (48 : Int32), .int (53 : Int32)]) (rest := []) (WR := []) (WN := (fun u : Unit => [])) ⟨hx, hb, hml, hown, hts⟩ (ctX4_isBetween l D cyI cyB cyZ cyT F _ _ _ _) (va_cwS 3 hts (k_gS q_1cbe2a6e q_225c677d q_2fe9664d q_69524b7c) rfl rfl rfl (by decide +kernel) ⟨Nat.le_of_ble_eq_true rfl, Nat.le_of_ble_eq_true rfl⟩) hN hw ⟨hK, hP, hD, hS⟩ hA [] [] [] rfl (by decide) rfl (by decide) (by decide) (by decide) (fun _ => rfl) rfl hl.1 rfl (Nat.le_of_ble_eq_true rfl) dX4_canStand_57 ⟨Nat.zero_le _, Nat.zero_le _⟩ (fun r57 u H locs hw hW => ?_)
      obtain ⟨hK, hP, hD, hS⟩ := hW
      have hP : va_P D vwCl [] H := hP
      have hD : va_D A [] := hD
      refine lv_if_ne (tgt := 87) hx hb dX4_canStand_60 (by decide) (fun hc => ?_) (fun hc => ?_)
      · have hw := hw.1 hc
        refine lv_iconst (v := (1 : Int32)) hx hb dX4_canStand_87 (by decide) ?_
        refine lv_goto (tgt := 92) hx hb dX4_canStand_88 (by decide) ?_
        exact W.zret (ty := .boolean) (v := (1 : Int32)) hx hb hr rfl (fun t ht hWm => ⟨⟨(1 : Int32), (), rfl, hw, by rw [ht]; exact hP, va_K.moved hWm.alike hK, hD⟩, hS.F ht⟩) hS.2.2 dX4_canStand_92
      · have hw := hw.2 hc
        refine lv_iload_n hx hb dX4_canStand_63 rfl (lv_at hl 1 rfl) ?_
        refine lv_bipush (v := (35 : Int32)) hx hb dX4_canStand_64 (by decide) ?_
        refine lv_icmp_eq (tgt := 87) hx hb dX4_canStand_66 (by decide) (fun hc => ?_) (fun hc => ?_)
        · have hw := hw.1 hc
          refine lv_iconst (v := (1 : Int32)) hx hb dX4_canStand_87 (by decide) ?_
          refine lv_goto (tgt := 92) hx hb dX4_canStand_88 (by decide) ?_
          exact W.zret (ty := .boolean) (v := (1 : Int32)) hx hb hr rfl (fun t ht hWm => ⟨⟨(1 : Int32), (), rfl, hw, by rw [ht]; exact hP, va_K.moved hWm.alike hK, hD⟩, hS.F ht⟩) hS.2.2 dX4_canStand_92
        · have hw := hw.2 hc
          refine lv_iload_n hx hb dX4_canStand_69 rfl (lv_at hl 1 rfl) ?_
          refine lv_bipush (v := (61 : Int32)) hx hb dX4_canStand_70 (by decide) ?_
          refine lv_icmp_eq (tgt := 87) hx hb dX4_canStand_72 (by decide) (fun hc => ?_) (fun hc => ?_)
          · have hw := hw.1 hc
            refine lv_iconst (v := (1 : Int32)) hx hb dX4_canStand_87 (by decide) ?_
            refine lv_goto (tgt := 92) hx hb dX4_canStand_88 (by decide) ?_
            exact W.zret (ty := .boolean) (v := (1 : Int32)) hx hb hr rfl (fun t ht hWm => ⟨⟨(1 : Int32), (), rfl, hw, by rw [ht]; exact hP, va_K.moved hWm.alike hK, hD⟩, hS.F ht⟩) hS.2.2 dX4_canStand_92
          · have hw := hw.2 hc
            refine lv_iload_n hx hb dX4_canStand_75 rfl (lv_at hl 1 rfl) ?_
            refine lv_bipush (v := (33 : Int32)) hx hb dX4_canStand_76 (by decide) ?_
            refine lv_icmp_eq (tgt := 87) hx hb dX4_canStand_78 (by decide) (fun hc => ?_) (fun hc => ?_)
            · have hw := hw.1 hc
              refine lv_iconst (v := (1 : Int32)) hx hb dX4_canStand_87 (by decide) ?_
              refine lv_goto (tgt := 92) hx hb dX4_canStand_88 (by decide) ?_
              exact W.zret (ty := .boolean) (v := (1 : Int32)) hx hb hr rfl (fun t ht hWm => ⟨⟨(1 : Int32), (), rfl, hw, by rw [ht]; exact hP, va_K.moved hWm.alike hK, hD⟩, hS.F ht⟩) hS.2.2 dX4_canStand_92
            · have hw := hw.2 hc
              refine lv_iload_n hx hb dX4_canStand_81 rfl (lv_at hl 1 rfl) ?_
              refine lv_bipush (v := (59 : Int32)) hx hb dX4_canStand_82 (by decide) ?_
              refine lv_icmp_ne (tgt := 91) hx hb dX4_canStand_84 (by decide) (fun hc => ?_) (fun hc => ?_)
              · have hw := hw.1 hc
                refine lv_iconst (v := (0 : Int32)) hx hb dX4_canStand_91 (by decide) ?_
                exact W.zret (ty := .boolean) (v := (0 : Int32)) hx hb hr rfl (fun t ht hWm => ⟨⟨(0 : Int32), (), rfl, hw, by rw [ht]; exact hP, va_K.moved hWm.alike hK, hD⟩, hS.F ht⟩) hS.2.2 dX4_canStand_92
              · have hw := hw.2 hc
                refine lv_iconst (v := (1 : Int32)) hx hb dX4_canStand_87 (by decide) ?_
                refine lv_goto (tgt := 92) hx hb dX4_canStand_88 (by decide) ?_
                exact W.zret (ty := .boolean) (v := (1 : Int32)) hx hb hr rfl (fun t ht hWm => ⟨⟨(1 : Int32), (), rfl, hw, by rw [ht]; exact hP, va_K.moved hWm.alike hK, hD⟩, hS.F ht⟩) hS.2.2 dX4_canStand_92
  replace hw := hw.2
  by_cases n2 : p0 = (2 : Int32)
  · have hw := hw.1 n2
    refine lv_tableIn (off := 92) (tgt := 93) hx hb dX4_canStand_1 (by rw [n2]; decide) (by rw [n2]; decide) (by rw [n2]; rfl) (by decide) ?_
    refine lv_iload_n hx hb dX4_canStand_93 rfl (lv_at hl 1 rfl) ?_
    refine lv_bipush (v := (48 : Int32)) hx hb dX4_canStand_94 (by decide) ?_
    refine lv_bipush (v := (53 : Int32)) hx hb dX4_canStand_96 (by decide) ?_
    refine kx_Si (S := Unit) (As := [.int p1, .int (48 : Int32), .int (53 : Int32)]) (rest := []) (WR := []) (WN := (fun u : Unit => [])) ⟨hx, hb, hml, hown, hts⟩ (ctX4_isBetween l D cyI cyB cyZ cyT F _ _ _ _) (va_cwS 3 hts (k_gS q_1cbe2a6e q_225c677d q_2fe9664d q_69524b7c) rfl rfl rfl (by decide +kernel) ⟨Nat.le_of_ble_eq_true rfl, Nat.le_of_ble_eq_true rfl⟩) hN hw ⟨hK, hP, hD, hS⟩ hA [] [] [] rfl (by decide) rfl (by decide) (by decide) (by decide) (fun _ => rfl) rfl hl.1 rfl (Nat.le_of_ble_eq_true rfl) dX4_canStand_98 ⟨Nat.zero_le _, Nat.zero_le _⟩ (fun r98 u H locs hw hW => ?_)
    obtain ⟨hK, hP, hD, hS⟩ := hW
    have hP : va_P D vwCl [] H := hP
    have hD : va_D A [] := hD
    obtain ⟨hc0, hw⟩ := hw
    exact W.zret (ty := .boolean) (v := r98) hx hb hr hc0 (fun t ht hWm => ⟨⟨r98, (), rfl, hw, by rw [ht]; exact hP, va_K.moved hWm.alike hK, hD⟩, hS.F ht⟩) hS.2.2 dX4_canStand_101
  replace hw := hw.2
  by_cases n3 : p0 = (3 : Int32)
  · have hw := hw.1 n3
    refine lv_tableIn (off := 101) (tgt := 102) hx hb dX4_canStand_1 (by rw [n3]; decide) (by rw [n3]; decide) (by rw [n3]; rfl) (by decide) ?_
    refine lv_iload_n hx hb dX4_canStand_102 rfl (lv_at hl 1 rfl) ?_
    refine lv_bipush (v := (49 : Int32)) hx hb dX4_canStand_103 (by decide) ?_
    refine lv_bipush (v := (54 : Int32)) hx hb dX4_canStand_105 (by decide) ?_
    refine kx_Si (S := Unit) (As := [.int p1, .int (49 : Int32), .int (54 : Int32)]) (rest := []) (WR := []) (WN := (fun u : Unit => [])) ⟨hx, hb, hml, hown, hts⟩ (ctX4_isBetween l D cyI cyB cyZ cyT F _ _ _ _) (va_cwS 3 hts (k_gS q_1cbe2a6e q_225c677d q_2fe9664d q_69524b7c) rfl rfl rfl (by decide +kernel) ⟨Nat.le_of_ble_eq_true rfl, Nat.le_of_ble_eq_true rfl⟩) hN hw ⟨hK, hP, hD, hS⟩ hA [] [] [] rfl (by decide) rfl (by decide) (by decide) (by decide) (fun _ => rfl) rfl hl.1 rfl (Nat.le_of_ble_eq_true rfl) dX4_canStand_107 ⟨Nat.zero_le _, Nat.zero_le _⟩ (fun r107 u H locs hw hW => ?_)
    obtain ⟨hK, hP, hD, hS⟩ := hW
    have hP : va_P D vwCl [] H := hP
    have hD : va_D A [] := hD
    obtain ⟨hc0, hw⟩ := hw
    exact W.zret (ty := .boolean) (v := r107) hx hb hr hc0 (fun t ht hWm => ⟨⟨r107, (), rfl, hw, by rw [ht]; exact hP, va_K.moved hWm.alike hK, hD⟩, hS.F ht⟩) hS.2.2 dX4_canStand_110
  replace hw := hw.2
  replace hw := hw n0 n1 n2 n3
  refine lv_tableOut (tgt := 111) hx hb dX4_canStand_1 (by have h0 := lv_neT (a := 0) n0 (by decide); have h1 := lv_neT (a := 1) n1 (by decide); have h2 := lv_neT (a := 2) n2 (by decide); have h3 := lv_neT (a := 3) n3 (by decide); omega) (by decide) ?_
  refine lv_iload_n hx hb dX4_canStand_111 rfl (lv_at hl 1 rfl) ?_
  refine lv_bipush (v := (48 : Int32)) hx hb dX4_canStand_112 (by decide) ?_
  refine lv_bipush (v := (57 : Int32)) hx hb dX4_canStand_114 (by decide) ?_
  refine kx_Si (S := Unit) (As := [.int p1, .int (48 : Int32), .int (57 : Int32)]) (rest := []) (WR := []) (WN := (fun u : Unit => [])) ⟨hx, hb, hml, hown, hts⟩ (ctX4_isBetween l D cyI cyB cyZ cyT F _ _ _ _) (va_cwS 3 hts (k_gS q_1cbe2a6e q_225c677d q_2fe9664d q_69524b7c) rfl rfl rfl (by decide +kernel) ⟨Nat.le_of_ble_eq_true rfl, Nat.le_of_ble_eq_true rfl⟩) hN hw ⟨hK, hP, hD, hS⟩ hA [] [] [] rfl (by decide) rfl (by decide) (by decide) (by decide) (fun _ => rfl) rfl hl.1 rfl (Nat.le_of_ble_eq_true rfl) dX4_canStand_116 ⟨Nat.zero_le _, Nat.zero_le _⟩ (fun r116 u H locs hw hW => ?_)
  obtain ⟨hK, hP, hD, hS⟩ := hW
  have hP : va_P D vwCl [] H := hP
  have hD : va_D A [] := hD
  refine lv_if_eq (tgt := 134) hx hb dX4_canStand_119 (by decide) (fun hc => ?_) (fun hc => ?_)
  · have hw := hw.1 hc
    refine lv_iconst (v := (0 : Int32)) hx hb dX4_canStand_134 (by decide) ?_
    exact W.zret (ty := .boolean) (v := (0 : Int32)) hx hb hr rfl (fun t ht hWm => ⟨⟨(0 : Int32), (), rfl, hw, by rw [ht]; exact hP, va_K.moved hWm.alike hK, hD⟩, hS.F ht⟩) hS.2.2 dX4_canStand_135
  · have hw := hw.2 hc
    refine lv_iload_n hx hb dX4_canStand_122 rfl (lv_at hl 1 rfl) ?_
    refine lv_bipush (v := (48 : Int32)) hx hb dX4_canStand_123 (by decide) ?_
    refine lv_isub hx hb dX4_canStand_125 ?_
    refine lv_iload_n hx hb dX4_canStand_126 rfl (lv_at hl 2 rfl) ?_
    refine lv_icmp_gt (tgt := 134) hx hb dX4_canStand_127 (by decide) (fun hc => ?_) (fun hc => ?_)
    · have hw := hw.1 hc
      refine lv_iconst (v := (0 : Int32)) hx hb dX4_canStand_134 (by decide) ?_
      exact W.zret (ty := .boolean) (v := (0 : Int32)) hx hb hr rfl (fun t ht hWm => ⟨⟨(0 : Int32), (), rfl, hw, by rw [ht]; exact hP, va_K.moved hWm.alike hK, hD⟩, hS.F ht⟩) hS.2.2 dX4_canStand_135
    · have hw := hw.2 hc
      refine lv_iconst (v := (1 : Int32)) hx hb dX4_canStand_130 (by decide) ?_
      refine lv_goto (tgt := 135) hx hb dX4_canStand_131 (by decide) ?_
      exact W.zret (ty := .boolean) (v := (1 : Int32)) hx hb hr rfl (fun t ht hWm => ⟨⟨(1 : Int32), (), rfl, hw, by rw [ht]; exact hP, va_K.moved hWm.alike hK, hD⟩, hS.F ht⟩) hS.2.2 dX4_canStand_135
-- ===== RX4.wantedBehind(II)I
abbrev wdX4_wantedBehind (cyI cyB cyZ cyT : ClassId) : va_W := []
abbrev rmX4_wantedBehind : Room := { frames := 1, cells := 0, slots := 0, locals := 22 }
abbrev qX4_wantedBehind (D : va_G) (cyI cyB cyZ cyT : ClassId) (Q : Int32 → Prop) (A : Nat → Prop) : Array Value → State → Outcome → State → Prop := va_Qi (S := Unit) (fun r _ => Q r) (kB D (kTy cyI cyB cyZ cyT) (fun u : Unit => (wdX4_wantedBehind cyI cyB cyZ cyT    )) A) A
def wX4_wantedBehind (F : Nat) (p0 : Int32) (p1 : Int32) (Q : Int32 → Prop) : Prop := ((p0 = (1 : Int32) → ((p1 = (33 : Int32) → (Q (4 : Int32))) ∧ (p1 = (35 : Int32) → (Q (3 : Int32))) ∧ (p1 = (59 : Int32) → (Q (0 : Int32))) ∧ (p1 = (61 : Int32) → (Q (4 : Int32))) ∧ (¬ p1 = (33 : Int32) → ¬ p1 = (35 : Int32) → ¬ p1 = (59 : Int32) → ¬ p1 = (61 : Int32) → (wX4_isBetween F p1 (97 : Int32) (104 : Int32) (fun r63 => ((r63 = 0 → (Q (1 : Int32))) ∧ (¬ (r63 = 0) → (Q (2 : Int32))))))))) ∧ (¬ (p0 = (1 : Int32)) → (Q (1 : Int32))))
set_option maxHeartbeats 4000000 in
set_option maxRecDepth 100000 in
theorem ctX4_wantedBehind (l : Launch) (D : va_G) (cyI cyB cyZ cyT : ClassId) (F : Nat) (p0 : Int32) (p1 : Int32) (Q : Int32 → Prop) : kMi (S := Unit) l yX4_wantedBehind (kM yX4_wantedBehind cX4_wantedBehind 2 (some .int)) rmX4_wantedBehind D (kTy cyI cyB cyZ cyT) [.int p0, .int p1] (wdX4_wantedBehind cyI cyB cyZ cyT    ) (wX4_wantedBehind F p0 p1 Q) (fun r _ => Q r) (fun u : Unit => (wdX4_wantedBehind cyI cyB cyZ cyT    )) := by
  refine kMi.of (cc := cX4_wantedBehind) (maxL := 2) (ret := (some .int)) (by decide) (Nat.le_of_ble_eq_true rfl) ?_
  intro p e s m below meth c A C0 hw hW ls hl
  obtain ⟨hx, hb, hr, hts, hown, hml, hlocks, hA, hN⟩ := id C0
  have hown : s.vm.findClass RX4 = some m.cls := hown
  obtain ⟨hK, hP, hD, hS⟩ := hW
  have hP : va_P D vwCl [] s.heap := hP
  have hD : va_D A [] := hD
  have hl : lv_has ls 2 [(0, .int p0), (1, .int p1)] := hl
  refine lv_iload_n hx hb dX4_wantedBehind_0 rfl (lv_at hl 0 rfl) ?_
  refine lv_iconst (v := (1 : Int32)) hx hb dX4_wantedBehind_1 (by decide) ?_
  refine lv_icmp_eq (tgt := 7) hx hb dX4_wantedBehind_2 (by decide) (fun hc => ?_) (fun hc => ?_)
  · have hw := hw.1 hc
    refine lv_iload_n hx hb dX4_wantedBehind_7 rfl (lv_at hl 1 rfl) ?_
    by_cases n0 : p1 = (33 : Int32)
    · have hw := hw.1 n0
      refine lv_lookup (off := 48) (tgt := 56) hx hb dX4_wantedBehind_8 (by decide) (by rw [n0]; rfl) (by decide) ?_
      refine lv_iconst (v := (4 : Int32)) hx hb dX4_wantedBehind_56 (by decide) ?_
      exact W.iret (v := (4 : Int32)) hx hb hr (fun t ht hWm => ⟨⟨(4 : Int32), (), rfl, hw, by rw [ht]; exact hP, va_K.moved hWm.alike hK, hD⟩, hS.F ht⟩) hS.2.2 dX4_wantedBehind_57
    replace hw := hw.2
    by_cases n1 : p1 = (35 : Int32)
    · have hw := hw.1 n1
      refine lv_lookup (off := 46) (tgt := 54) hx hb dX4_wantedBehind_8 (by decide) (by rw [n1]; rfl) (by decide) ?_
      refine lv_iconst (v := (3 : Int32)) hx hb dX4_wantedBehind_54 (by decide) ?_
      exact W.iret (v := (3 : Int32)) hx hb hr (fun t ht hWm => ⟨⟨(3 : Int32), (), rfl, hw, by rw [ht]; exact hP, va_K.moved hWm.alike hK, hD⟩, hS.F ht⟩) hS.2.2 dX4_wantedBehind_55
    replace hw := hw.2
    by_cases n2 : p1 = (59 : Int32)
    · have hw := hw.1 n2
      refine lv_lookup (off := 44) (tgt := 52) hx hb dX4_wantedBehind_8 (by decide) (by rw [n2]; rfl) (by decide) ?_
      refine lv_iconst (v := (0 : Int32)) hx hb dX4_wantedBehind_52 (by decide) ?_
      exact W.iret (v := (0 : Int32)) hx hb hr (fun t ht hWm => ⟨⟨(0 : Int32), (), rfl, hw, by rw [ht]; exact hP, va_K.moved hWm.alike hK, hD⟩, hS.F ht⟩) hS.2.2 dX4_wantedBehind_53
    replace hw := hw.2
    by_cases n3 : p1 = (61 : Int32)
    · have hw := hw.1 n3
      refine lv_lookup (off := 48) (tgt := 56) hx hb dX4_wantedBehind_8 (by decide) (by rw [n3]; rfl) (by decide) ?_
      refine lv_iconst (v := (4 : Int32)) hx hb dX4_wantedBehind_56 (by decide) ?_
      exact W.iret (v := (4 : Int32)) hx hb hr (fun t ht hWm => ⟨⟨(4 : Int32), (), rfl, hw, by rw [ht]; exact hP, va_K.moved hWm.alike hK, hD⟩, hS.F ht⟩) hS.2.2 dX4_wantedBehind_57
    replace hw := hw.2
    replace hw := hw n0 n1 n2 n3
    refine lv_lookup (off := 50) (tgt := 58) hx hb dX4_wantedBehind_8 (by decide) ((lv_osw n0 (by decide)).trans ((lv_osw n1 (by decide)).trans ((lv_osw n2 (by decide)).trans ((lv_osw n3 (by decide)).trans (rfl))))) (by decide) ?_
    refine lv_iload_n hx hb dX4_wantedBehind_58 rfl (lv_at hl 1 rfl) ?_
    refine lv_bipush (v := (97 : Int32)) hx hb dX4_wantedBehind_59 (by decide) ?_
    refine lv_bipush (v := (104 : Int32)) hx hb dX4_wantedBehind_61 (by decide) ?_
    refine kx_Si (S := Unit) (As := [.int p1, .int (97 : Int32), .int (104 : Int32)]) (rest := []) (WR := []) (WN := (fun u : Unit => [])) ⟨hx, hb, hml, hown, hts⟩ (ctX4_isBetween l D cyI cyB cyZ cyT F _ _ _ _) (va_cwS 3 hts (k_gS q_1cbe2a6e q_225c677d q_2fe9664d q_69524b7c) rfl rfl rfl (by decide +kernel) ⟨Nat.le_of_ble_eq_true rfl, Nat.le_of_ble_eq_true rfl⟩) hN hw ⟨hK, hP, hD, hS⟩ hA [] [] [] rfl (by decide) rfl (by decide) (by decide) (by decide) (fun _ => rfl) rfl hl.1 rfl (Nat.le_of_ble_eq_true rfl) dX4_wantedBehind_63 ⟨Nat.zero_le _, Nat.zero_le _⟩ (fun r63 u H locs hw hW => ?_)
    obtain ⟨hK, hP, hD, hS⟩ := hW
    have hP : va_P D vwCl [] H := hP
    have hD : va_D A [] := hD
    refine lv_if_eq (tgt := 73) hx hb dX4_wantedBehind_66 (by decide) (fun hc => ?_) (fun hc => ?_)
    · have hw := hw.1 hc
      refine lv_iconst (v := (1 : Int32)) hx hb dX4_wantedBehind_73 (by decide) ?_
      exact W.iret (v := (1 : Int32)) hx hb hr (fun t ht hWm => ⟨⟨(1 : Int32), (), rfl, hw, by rw [ht]; exact hP, va_K.moved hWm.alike hK, hD⟩, hS.F ht⟩) hS.2.2 dX4_wantedBehind_74
    · have hw := hw.2 hc
      refine lv_iconst (v := (2 : Int32)) hx hb dX4_wantedBehind_69 (by decide) ?_
      refine lv_goto (tgt := 74) hx hb dX4_wantedBehind_70 (by decide) ?_
      exact W.iret (v := (2 : Int32)) hx hb hr (fun t ht hWm => ⟨⟨(2 : Int32), (), rfl, hw, by rw [ht]; exact hP, va_K.moved hWm.alike hK, hD⟩, hS.F ht⟩) hS.2.2 dX4_wantedBehind_74
  · have hw := hw.2 hc
    refine lv_iconst (v := (1 : Int32)) hx hb dX4_wantedBehind_5 (by decide) ?_
    exact W.iret (v := (1 : Int32)) hx hb hr (fun t ht hWm => ⟨⟨(1 : Int32), (), rfl, hw, by rw [ht]; exact hP, va_K.moved hWm.alike hK, hD⟩, hS.F ht⟩) hS.2.2 dX4_wantedBehind_6
-- ===== RX4.firstFault()I
abbrev wdX4_firstFault (cyI cyB cyZ cyT : ClassId) (a : Nat → Nat) (g : SX4) : va_W := [(a 0, .inr (4, [.ref (a 1), .ref (a 2), .ref (a 3), .int g.x_length, .int g.x_walks])), (a 1, .inl (cyB, 300, .inl g.x_bytes)), (a 2, .inl (cyI, 10, .inl g.x_start)), (a 3, .inl (cyI, 9, .inl g.x_turnings))]
abbrev rmX4_firstFault : Room := { frames := 2, cells := 0, slots := 0, locals := 44 }
abbrev qX4_firstFault (D : va_G) (cyI cyB cyZ cyT : ClassId) (a : Nat → Nat) (g : SX4) (Q : Int32 → Prop) (A : Nat → Prop) : Array Value → State → Outcome → State → Prop := va_Qi (S := Unit) (fun r _ => Q r) (kB D (kTy cyI cyB cyZ cyT) (fun u : Unit => (wdX4_firstFault cyI cyB cyZ cyT a   g)) A) A
def wX4_firstFault_B82 (F : Nat) (g : SX4) (Q : Int32 → Prop) (K_9 : Int32 → Int32 → Int32 → Int32 → Prop) (L1 : Int32) (L2 : Int32) (L3 : Int32) (L4 : Int32) (L5 : Int32) : Prop := (wX4_wantedBehind F L3 L5 (fun r85 => (K_9 L1 L2 r85 (L4 + 1))))
def wX4_firstFault_B50 (F : Nat) (g : SX4) (Q : Int32 → Prop) (K_9 : Int32 → Int32 → Int32 → Int32 → Prop) (L1 : Int32) (L2 : Int32) (L3 : Int32) (L4 : Int32) (L5 : Int32) : Prop := ((¬ L3 = 0 → ((¬ L3 = (1 : Int32) → (wX4_firstFault_B82 F g Q K_9 L1 L2 L3 L4 L5)) ∧ (L3 = (1 : Int32) → (wX4_isBetween F L5 (48 : Int32) (53 : Int32) (fun r73 => ((r73 = 0 → (wX4_firstFault_B82 F g Q K_9 L1 L2 L3 L4 L5)) ∧ (¬ (r73 = 0) → (wX4_firstFault_B82 F g Q K_9 L1 (L2 + 1) L3 L4 L5)))))))) ∧ (L3 = 0 → (wX4_firstFault_B82 F g Q K_9 (L1 + 1) (0 : Int32) L3 L4 L5)))
def wX4_firstFault_b9 (F : Nat) (g : SX4) (Q : Int32 → Prop)  (K_9 : Int32 → Int32 → Int32 → Int32 → Prop) (L1 : Int32) (L2 : Int32) (L3 : Int32) (L4 : Int32) : Prop := ((g.x_length ≤ L4 → ((¬ L3 = 0 → (Q g.x_length)) ∧ (L3 = 0 → (Q (-4 : Int32))))) ∧ (¬ (g.x_length ≤ L4) → (vp_in L4 300) ∧ (wX4_canStand F L3 (g.x_bytes L4.toNatClampNeg) L2 (fun r31 => ((r31 = 0 → (Q L4)) ∧ (¬ (r31 = 0) → ((¬ L3 = 0 → (wX4_firstFault_B50 F g Q K_9 L1 L2 L3 L4 (g.x_bytes L4.toNatClampNeg))) ∧ (L3 = 0 → ((¬ L1 = (9 : Int32) → (wX4_firstFault_B50 F g Q K_9 L1 L2 L3 L4 (g.x_bytes L4.toNatClampNeg))) ∧ (L1 = (9 : Int32) → (Q L4)))))))))))
def wX4_firstFault_H9 (F : Nat) (g : SX4) (Q : Int32 → Prop)  : Nat → Int32 → Int32 → Int32 → Int32 → Prop
  | 0 => fun _ _ _ _ => False
  | n + 1 => fun L1 L2 L3 L4 => wX4_firstFault_b9 F g Q (wX4_firstFault_H9 F g Q n) L1 L2 L3 L4
def wX4_firstFault (F : Nat) (g : SX4) (Q : Int32 → Prop) : Prop := (wX4_firstFault_H9 F g Q F (0 : Int32) (0 : Int32) (0 : Int32) (0 : Int32))
set_option maxHeartbeats 4000000 in
set_option maxRecDepth 100000 in
theorem ctX4_firstFault_B82 {p : Program} {l : Launch} {e : Env} {s : State} {m : MethodId} {args : Array Value} {below : List Frame} {meth : Method} {c : Code} {A : Nat → Prop} {D : va_G} {cyI cyB cyZ cyT : ClassId} {a : Nat → Nat} {F : Nat} {g : SX4} {Q : Int32 → Prop} {K_9 : Int32 → Int32 → Int32 → Int32 → Prop} (C0 : kCtx cX4_firstFault (some .int) RX4 6 p s m args meth c A) (hk_9 : ∀ (L1 : Int32) (L2 : Int32) (L3 : Int32) (L4 : Int32) (H : Heap) (locs : List Loc) (ls : Array Slot), K_9 L1 L2 L3 L4 → kWd D (kTy cyI cyB cyZ cyT) (wdX4_firstFault cyI cyB cyZ cyT a   g) A s H locs → lv_has ls 6 [(0, .ref (a 0)), (1, .int L1), (2, .int L2), (3, .int L3), (4, .int L4)] → W p l e rmX4_firstFault s m args below meth c H locs 0 0 (MQ below (qX4_firstFault D cyI cyB cyZ cyT a g Q A) args s 0 0 A) (F0 m 9 ls [])) : ∀ (L1 : Int32) (L2 : Int32) (L3 : Int32) (L4 : Int32) (L5 : Int32) (H : Heap) (locs : List Loc) (ls : Array Slot), wX4_firstFault_B82 F g Q K_9 L1 L2 L3 L4 L5 → kWd D (kTy cyI cyB cyZ cyT) (wdX4_firstFault cyI cyB cyZ cyT a   g) A s H locs → lv_has ls 6 [(0, .ref (a 0)), (1, .int L1), (2, .int L2), (3, .int L3), (4, .int L4), (5, .int L5)] → W p l e rmX4_firstFault s m args below meth c H locs 0 0 (MQ below (qX4_firstFault D cyI cyB cyZ cyT a g Q A) args s 0 0 A) (F0 m 82 ls []) := by
  intro L1 L2 L3 L4 L5 H locs ls hw hW hl
  obtain ⟨hx, hb, hr, hts, hown, hml, hlocks, hA, hN⟩ := id C0
  obtain ⟨hK, hP, hD, hS⟩ := hW
  obtain ⟨x_bytes, x_start, x_turnings, x_length, x_walks⟩ := g
  have hP : va_P D vwCl [(a 0, .inr (4, [.ref (a 1), .ref (a 2), .ref (a 3), .int x_length, .int x_walks])), (a 1, .inl (cyB, 300, .inl x_bytes)), (a 2, .inl (cyI, 10, .inl x_start)), (a 3, .inl (cyI, 9, .inl x_turnings))] H := hP
  have hD : va_D A [(a 0, .inr (4, [.ref (a 1), .ref (a 2), .ref (a 3), .int x_length, .int x_walks])), (a 1, .inl (cyB, 300, .inl x_bytes)), (a 2, .inl (cyI, 10, .inl x_start)), (a 3, .inl (cyI, 9, .inl x_turnings))] := hD
  refine lv_iload_n hx hb dX4_firstFault_82 rfl (lv_at hl 3 rfl) ?_
  refine lv_iload hx hb dX4_firstFault_83 (lv_at hl 5 rfl) ?_
  refine kx_Si (S := Unit) (As := [.int L3, .int L5]) (rest := []) (WR := [(a 0, .inr (4, [.ref (a 1), .ref (a 2), .ref (a 3), .int x_length, .int x_walks])), (a 1, .inl (cyB, 300, .inl x_bytes)), (a 2, .inl (cyI, 10, .inl x_start)), (a 3, .inl (cyI, 9, .inl x_turnings))]) (WN := (fun u : Unit => [(a 0, .inr (4, [.ref (a 1), .ref (a 2), .ref (a 3), .int x_length, .int x_walks])), (a 1, .inl (cyB, 300, .inl x_bytes)), (a 2, .inl (cyI, 10, .inl x_start)), (a 3, .inl (cyI, 9, .inl x_turnings))])) ⟨hx, hb, hml, hown, hts⟩ (ctX4_wantedBehind l D cyI cyB cyZ cyT F _ _ _) (va_cwS 2 hts (k_gS q_fe182707 q_9f540321 q_2fe9664d q_d05dab98) rfl rfl rfl (by decide +kernel) ⟨Nat.le_of_ble_eq_true rfl, Nat.le_of_ble_eq_true rfl⟩) hN hw ⟨hK, hP, hD, hS⟩ hA [] [0, 1, 2, 3] [0, 1, 2, 3] rfl (by decide) rfl (by decide) (by decide) (by decide) (fun _ => rfl) rfl hl.1 rfl (Nat.le_of_ble_eq_true rfl) dX4_firstFault_85 ⟨Nat.zero_le _, Nat.zero_le _⟩ (fun r85 u H locs hw hW => ?_)
  obtain ⟨hK, hP, hD, hS⟩ := hW
  have hP : va_P D vwCl [(a 0, .inr (4, [.ref (a 1), .ref (a 2), .ref (a 3), .int x_length, .int x_walks])), (a 1, .inl (cyB, 300, .inl x_bytes)), (a 2, .inl (cyI, 10, .inl x_start)), (a 3, .inl (cyI, 9, .inl x_turnings))] H := hP
  have hD : va_D A [(a 0, .inr (4, [.ref (a 1), .ref (a 2), .ref (a 3), .int x_length, .int x_walks])), (a 1, .inl (cyB, 300, .inl x_bytes)), (a 2, .inl (cyI, 10, .inl x_start)), (a 3, .inl (cyI, 9, .inl x_turnings))] := hD
  refine lv_istore_n (lv' := [(3, .int r85), (0, .ref (a 0)), (1, .int L1), (2, .int L2), (4, .int L4), (5, .int L5)]) hx hb dX4_firstFault_88 rfl hl (by decide) rfl (fun ls hl => ?_)
  refine lv_iinc (v := (L4 + 1)) (lv' := [(4, .int (L4 + 1)), (3, .int r85), (0, .ref (a 0)), (1, .int L1), (2, .int L2), (5, .int L5)]) hx hb dX4_firstFault_89 hl (k := 4) rfl rfl (by decide) rfl (fun ls hl => ?_)
  refine lv_goto (tgt := 9) hx hb dX4_firstFault_92 (by decide) ?_
  exact hk_9 L1 L2 r85 (L4 + 1) _ _ _ hw ⟨hK, hP, hD, hS⟩ (lv_sub hl [2, 3, 4, 1, 0] rfl)
set_option maxHeartbeats 4000000 in
set_option maxRecDepth 100000 in
theorem ctX4_firstFault_B50 {p : Program} {l : Launch} {e : Env} {s : State} {m : MethodId} {args : Array Value} {below : List Frame} {meth : Method} {c : Code} {A : Nat → Prop} {D : va_G} {cyI cyB cyZ cyT : ClassId} {a : Nat → Nat} {F : Nat} {g : SX4} {Q : Int32 → Prop} {K_9 : Int32 → Int32 → Int32 → Int32 → Prop} (C0 : kCtx cX4_firstFault (some .int) RX4 6 p s m args meth c A) (hk_9 : ∀ (L1 : Int32) (L2 : Int32) (L3 : Int32) (L4 : Int32) (H : Heap) (locs : List Loc) (ls : Array Slot), K_9 L1 L2 L3 L4 → kWd D (kTy cyI cyB cyZ cyT) (wdX4_firstFault cyI cyB cyZ cyT a   g) A s H locs → lv_has ls 6 [(0, .ref (a 0)), (1, .int L1), (2, .int L2), (3, .int L3), (4, .int L4)] → W p l e rmX4_firstFault s m args below meth c H locs 0 0 (MQ below (qX4_firstFault D cyI cyB cyZ cyT a g Q A) args s 0 0 A) (F0 m 9 ls [])) : ∀ (L1 : Int32) (L2 : Int32) (L3 : Int32) (L4 : Int32) (L5 : Int32) (H : Heap) (locs : List Loc) (ls : Array Slot), wX4_firstFault_B50 F g Q K_9 L1 L2 L3 L4 L5 → kWd D (kTy cyI cyB cyZ cyT) (wdX4_firstFault cyI cyB cyZ cyT a   g) A s H locs → lv_has ls 6 [(0, .ref (a 0)), (1, .int L1), (2, .int L2), (3, .int L3), (4, .int L4), (5, .int L5)] → W p l e rmX4_firstFault s m args below meth c H locs 0 0 (MQ below (qX4_firstFault D cyI cyB cyZ cyT a g Q A) args s 0 0 A) (F0 m 50 ls []) := by
  intro L1 L2 L3 L4 L5 H locs ls hw hW hl
  obtain ⟨hx, hb, hr, hts, hown, hml, hlocks, hA, hN⟩ := id C0
  obtain ⟨hK, hP, hD, hS⟩ := hW
  obtain ⟨x_bytes, x_start, x_turnings, x_length, x_walks⟩ := g
  have hP : va_P D vwCl [(a 0, .inr (4, [.ref (a 1), .ref (a 2), .ref (a 3), .int x_length, .int x_walks])), (a 1, .inl (cyB, 300, .inl x_bytes)), (a 2, .inl (cyI, 10, .inl x_start)), (a 3, .inl (cyI, 9, .inl x_turnings))] H := hP
  have hD : va_D A [(a 0, .inr (4, [.ref (a 1), .ref (a 2), .ref (a 3), .int x_length, .int x_walks])), (a 1, .inl (cyB, 300, .inl x_bytes)), (a 2, .inl (cyI, 10, .inl x_start)), (a 3, .inl (cyI, 9, .inl x_turnings))] := hD
  refine lv_iload_n hx hb dX4_firstFault_50 rfl (lv_at hl 3 rfl) ?_
  refine lv_if_ne (tgt := 62) hx hb dX4_firstFault_51 (by decide) (fun hc => ?_) (fun hc => ?_)
  · have hw := hw.1 hc
    refine lv_iload_n hx hb dX4_firstFault_62 rfl (lv_at hl 3 rfl) ?_
    refine lv_iconst (v := (1 : Int32)) hx hb dX4_firstFault_63 (by decide) ?_
    refine lv_icmp_ne (tgt := 82) hx hb dX4_firstFault_64 (by decide) (fun hc => ?_) (fun hc => ?_)
    · have hw := hw.1 hc
      exact ctX4_firstFault_B82 (F := F) C0 hk_9 L1 L2 L3 L4 L5 _ _ _ hw ⟨hK, hP, hD, hS⟩ (lv_sub hl [0, 1, 2, 3, 4, 5] rfl)
    · have hw := hw.2 hc
      refine lv_iload hx hb dX4_firstFault_67 (lv_at hl 5 rfl) ?_
      refine lv_bipush (v := (48 : Int32)) hx hb dX4_firstFault_69 (by decide) ?_
      refine lv_bipush (v := (53 : Int32)) hx hb dX4_firstFault_71 (by decide) ?_
      refine kx_Si (S := Unit) (As := [.int L5, .int (48 : Int32), .int (53 : Int32)]) (rest := []) (WR := [(a 0, .inr (4, [.ref (a 1), .ref (a 2), .ref (a 3), .int x_length, .int x_walks])), (a 1, .inl (cyB, 300, .inl x_bytes)), (a 2, .inl (cyI, 10, .inl x_start)), (a 3, .inl (cyI, 9, .inl x_turnings))]) (WN := (fun u : Unit => [(a 0, .inr (4, [.ref (a 1), .ref (a 2), .ref (a 3), .int x_length, .int x_walks])), (a 1, .inl (cyB, 300, .inl x_bytes)), (a 2, .inl (cyI, 10, .inl x_start)), (a 3, .inl (cyI, 9, .inl x_turnings))])) ⟨hx, hb, hml, hown, hts⟩ (ctX4_isBetween l D cyI cyB cyZ cyT F _ _ _ _) (va_cwS 3 hts (k_gS q_1cbe2a6e q_225c677d q_2fe9664d q_69524b7c) rfl rfl rfl (by decide +kernel) ⟨Nat.le_of_ble_eq_true rfl, Nat.le_of_ble_eq_true rfl⟩) hN hw ⟨hK, hP, hD, hS⟩ hA [] [0, 1, 2, 3] [0, 1, 2, 3] rfl (by decide) rfl (by decide) (by decide) (by decide) (fun _ => rfl) rfl hl.1 rfl (Nat.le_of_ble_eq_true rfl) dX4_firstFault_73 ⟨Nat.zero_le _, Nat.zero_le _⟩ (fun r73 u H locs hw hW => ?_)
      obtain ⟨hK, hP, hD, hS⟩ := hW
      have hP : va_P D vwCl [(a 0, .inr (4, [.ref (a 1), .ref (a 2), .ref (a 3), .int x_length, .int x_walks])), (a 1, .inl (cyB, 300, .inl x_bytes)), (a 2, .inl (cyI, 10, .inl x_start)), (a 3, .inl (cyI, 9, .inl x_turnings))] H := hP
      have hD : va_D A [(a 0, .inr (4, [.ref (a 1), .ref (a 2), .ref (a 3), .int x_length, .int x_walks])), (a 1, .inl (cyB, 300, .inl x_bytes)), (a 2, .inl (cyI, 10, .inl x_start)), (a 3, .inl (cyI, 9, .inl x_turnings))] := hD
      refine lv_if_eq (tgt := 82) hx hb dX4_firstFault_76 (by decide) (fun hc => ?_) (fun hc => ?_)
      · have hw := hw.1 hc
        exact ctX4_firstFault_B82 (F := F) C0 hk_9 L1 L2 L3 L4 L5 _ _ _ hw ⟨hK, hP, hD, hS⟩ (lv_sub hl [0, 1, 2, 3, 4, 5] rfl)
      · have hw := hw.2 hc
        refine lv_iinc (v := (L2 + 1)) (lv' := [(2, .int (L2 + 1)), (0, .ref (a 0)), (1, .int L1), (3, .int L3), (4, .int L4), (5, .int L5)]) hx hb dX4_firstFault_79 hl (k := 2) rfl rfl (by decide) rfl (fun ls hl => ?_)
        exact ctX4_firstFault_B82 (F := F) C0 hk_9 L1 (L2 + 1) L3 L4 L5 _ _ _ hw ⟨hK, hP, hD, hS⟩ (lv_sub hl [1, 2, 0, 3, 4, 5] rfl)
  · have hw := hw.2 hc
    refine lv_iinc (v := (L1 + 1)) (lv' := [(1, .int (L1 + 1)), (0, .ref (a 0)), (2, .int L2), (3, .int L3), (4, .int L4), (5, .int L5)]) hx hb dX4_firstFault_54 hl (k := 1) rfl rfl (by decide) rfl (fun ls hl => ?_)
    refine lv_iconst (v := (0 : Int32)) hx hb dX4_firstFault_57 (by decide) ?_
    refine lv_istore_n (lv' := [(2, .int (0 : Int32)), (1, .int (L1 + 1)), (0, .ref (a 0)), (3, .int L3), (4, .int L4), (5, .int L5)]) hx hb dX4_firstFault_58 rfl hl (by decide) rfl (fun ls hl => ?_)
    refine lv_goto (tgt := 82) hx hb dX4_firstFault_59 (by decide) ?_
    exact ctX4_firstFault_B82 (F := F) C0 hk_9 (L1 + 1) (0 : Int32) L3 L4 L5 _ _ _ hw ⟨hK, hP, hD, hS⟩ (lv_sub hl [2, 1, 0, 3, 4, 5] rfl)
set_option maxHeartbeats 4000000 in
set_option maxRecDepth 100000 in
theorem ctX4_firstFault_b9 {p : Program} {l : Launch} {e : Env} {s : State} {m : MethodId} {args : Array Value} {below : List Frame} {meth : Method} {c : Code} {A : Nat → Prop} {D : va_G} {cyI cyB cyZ cyT : ClassId} {a : Nat → Nat} {F : Nat} {g : SX4} {Q : Int32 → Prop} {K_9 : Int32 → Int32 → Int32 → Int32 → Prop} (C0 : kCtx cX4_firstFault (some .int) RX4 6 p s m args meth c A) (hk_9 : ∀ (L1 : Int32) (L2 : Int32) (L3 : Int32) (L4 : Int32) (H : Heap) (locs : List Loc) (ls : Array Slot), K_9 L1 L2 L3 L4 → kWd D (kTy cyI cyB cyZ cyT) (wdX4_firstFault cyI cyB cyZ cyT a   g) A s H locs → lv_has ls 6 [(0, .ref (a 0)), (1, .int L1), (2, .int L2), (3, .int L3), (4, .int L4)] → W p l e rmX4_firstFault s m args below meth c H locs 0 0 (MQ below (qX4_firstFault D cyI cyB cyZ cyT a g Q A) args s 0 0 A) (F0 m 9 ls [])) : ∀ (L1 : Int32) (L2 : Int32) (L3 : Int32) (L4 : Int32) (H : Heap) (locs : List Loc) (ls : Array Slot), wX4_firstFault_b9 F g Q K_9 L1 L2 L3 L4 → kWd D (kTy cyI cyB cyZ cyT) (wdX4_firstFault cyI cyB cyZ cyT a   g) A s H locs → lv_has ls 6 [(0, .ref (a 0)), (1, .int L1), (2, .int L2), (3, .int L3), (4, .int L4)] → W p l e rmX4_firstFault s m args below meth c H locs 0 0 (MQ below (qX4_firstFault D cyI cyB cyZ cyT a g Q A) args s 0 0 A) (F0 m 9 ls []) := by
  intro L1 L2 L3 L4 H locs ls hw hW hl
  obtain ⟨hx, hb, hr, hts, hown, hml, hlocks, hA, hN⟩ := id C0
  obtain ⟨hK, hP, hD, hS⟩ := hW
  obtain ⟨x_bytes, x_start, x_turnings, x_length, x_walks⟩ := g
  have hP : va_P D vwCl [(a 0, .inr (4, [.ref (a 1), .ref (a 2), .ref (a 3), .int x_length, .int x_walks])), (a 1, .inl (cyB, 300, .inl x_bytes)), (a 2, .inl (cyI, 10, .inl x_start)), (a 3, .inl (cyI, 9, .inl x_turnings))] H := hP
  have hD : va_D A [(a 0, .inr (4, [.ref (a 1), .ref (a 2), .ref (a 3), .int x_length, .int x_walks])), (a 1, .inl (cyB, 300, .inl x_bytes)), (a 2, .inl (cyI, 10, .inl x_start)), (a 3, .inl (cyI, 9, .inl x_turnings))] := hD
  refine lv_iload hx hb dX4_firstFault_9 (lv_at hl 4 rfl) ?_
  refine lv_aload_n hx hb dX4_firstFault_11 rfl (lv_at hl 0 rfl) ?_
  refine va_get (ci := 4) (v := .int x_length) (C := RX4) (T := TX4) (N := 5) hx hb hts iw_X4 hown hK hP 0 rfl rfl 3 (by decide) (hts (.fieldLink RX4 22 "WalkersSay$Text" "length" "I") q_e163904f) (fun _ h9 => h9) rfl dX4_firstFault_12 ?_
  refine lv_icmp_ge (tgt := 95) hx hb dX4_firstFault_15 (by decide) (fun hc => ?_) (fun hc => ?_)
  · have hw := hw.1 hc
    refine lv_iload_n hx hb dX4_firstFault_95 rfl (lv_at hl 3 rfl) ?_
    refine lv_if_ne (tgt := 104) hx hb dX4_firstFault_96 (by decide) (fun hc => ?_) (fun hc => ?_)
    · have hw := hw.1 hc
      refine lv_aload_n hx hb dX4_firstFault_104 rfl (lv_at hl 0 rfl) ?_
      refine va_get (ci := 4) (v := .int x_length) (C := RX4) (T := TX4) (N := 5) hx hb hts iw_X4 hown hK hP 0 rfl rfl 3 (by decide) (hts (.fieldLink RX4 22 "WalkersSay$Text" "length" "I") q_e163904f) (fun _ h9 => h9) rfl dX4_firstFault_105 ?_
      exact W.iret (v := x_length) hx hb hr (fun t ht hWm => ⟨⟨x_length, (), rfl, hw, by rw [ht]; exact hP, va_K.moved hWm.alike hK, hD⟩, hS.F ht⟩) hS.2.2 dX4_firstFault_108
    · have hw := hw.2 hc
      refine lv_bipush (v := (-4 : Int32)) hx hb dX4_firstFault_99 (by decide) ?_
      refine lv_goto (tgt := 108) hx hb dX4_firstFault_101 (by decide) ?_
      exact W.iret (v := (-4 : Int32)) hx hb hr (fun t ht hWm => ⟨⟨(-4 : Int32), (), rfl, hw, by rw [ht]; exact hP, va_K.moved hWm.alike hK, hD⟩, hS.F ht⟩) hS.2.2 dX4_firstFault_108
  · have hw := hw.2 hc
    refine lv_aload_n hx hb dX4_firstFault_18 rfl (lv_at hl 0 rfl) ?_
    refine va_get (ci := 4) (v := .ref (a 1)) (C := RX4) (T := TX4) (N := 5) hx hb hts iw_X4 hown hK hP 0 rfl rfl 0 (by decide) (hts (.fieldLink RX4 9 "WalkersSay$Text" "bytes" "[B") q_7bb64ea3) (fun _ h9 => h9) rfl dX4_firstFault_19 ?_
    refine lv_iload hx hb dX4_firstFault_22 (lv_at hl 4 rfl) ?_
    obtain ⟨hc0, hw⟩ := hw
    refine va_bald hx hb hK hP 1 1 rfl rfl hc0 dX4_firstFault_24 ?_
    refine lv_istore (lv' := [(5, .int (x_bytes L4.toNatClampNeg)), (0, .ref (a 0)), (1, .int L1), (2, .int L2), (3, .int L3), (4, .int L4)]) hx hb dX4_firstFault_25 hl (by decide) rfl (fun ls hl => ?_)
    refine lv_iload_n hx hb dX4_firstFault_27 rfl (lv_at hl 4 rfl) ?_
    refine lv_iload hx hb dX4_firstFault_28 (lv_at hl 0 rfl) ?_
    refine lv_iload_n hx hb dX4_firstFault_30 rfl (lv_at hl 3 rfl) ?_
    refine kx_Si (S := Unit) (As := [.int L3, .int (x_bytes L4.toNatClampNeg), .int L2]) (rest := []) (WR := [(a 0, .inr (4, [.ref (a 1), .ref (a 2), .ref (a 3), .int x_length, .int x_walks])), (a 1, .inl (cyB, 300, .inl x_bytes)), (a 2, .inl (cyI, 10, .inl x_start)), (a 3, .inl (cyI, 9, .inl x_turnings))]) (WN := (fun u : Unit => [(a 0, .inr (4, [.ref (a 1), .ref (a 2), .ref (a 3), .int x_length, .int x_walks])), (a 1, .inl (cyB, 300, .inl x_bytes)), (a 2, .inl (cyI, 10, .inl x_start)), (a 3, .inl (cyI, 9, .inl x_turnings))])) ⟨hx, hb, hml, hown, hts⟩ (ctX4_canStand l D cyI cyB cyZ cyT F _ _ _ _) (va_cwS 3 hts (k_gS q_d10b4f3f q_5eae0918 q_2fe9664d q_e458fa11) rfl rfl rfl (by decide +kernel) ⟨Nat.le_of_ble_eq_true rfl, Nat.le_of_ble_eq_true rfl⟩) hN hw ⟨hK, hP, hD, hS⟩ hA [] [0, 1, 2, 3] [0, 1, 2, 3] rfl (by decide) rfl (by decide) (by decide) (by decide) (fun _ => rfl) rfl hl.1 rfl (Nat.le_of_ble_eq_true rfl) dX4_firstFault_31 ⟨Nat.zero_le _, Nat.zero_le _⟩ (fun r31 u H locs hw hW => ?_)
    obtain ⟨hK, hP, hD, hS⟩ := hW
    have hP : va_P D vwCl [(a 0, .inr (4, [.ref (a 1), .ref (a 2), .ref (a 3), .int x_length, .int x_walks])), (a 1, .inl (cyB, 300, .inl x_bytes)), (a 2, .inl (cyI, 10, .inl x_start)), (a 3, .inl (cyI, 9, .inl x_turnings))] H := hP
    have hD : va_D A [(a 0, .inr (4, [.ref (a 1), .ref (a 2), .ref (a 3), .int x_length, .int x_walks])), (a 1, .inl (cyB, 300, .inl x_bytes)), (a 2, .inl (cyI, 10, .inl x_start)), (a 3, .inl (cyI, 9, .inl x_turnings))] := hD
    refine lv_if_eq (tgt := 47) hx hb dX4_firstFault_34 (by decide) (fun hc => ?_) (fun hc => ?_)
    · have hw := hw.1 hc
      refine lv_iload hx hb dX4_firstFault_47 (lv_at hl 5 rfl) ?_
      exact W.iret (v := L4) hx hb hr (fun t ht hWm => ⟨⟨L4, (), rfl, hw, by rw [ht]; exact hP, va_K.moved hWm.alike hK, hD⟩, hS.F ht⟩) hS.2.2 dX4_firstFault_49
    · have hw := hw.2 hc
      refine lv_iload_n hx hb dX4_firstFault_37 rfl (lv_at hl 4 rfl) ?_
      refine lv_if_ne (tgt := 50) hx hb dX4_firstFault_38 (by decide) (fun hc => ?_) (fun hc => ?_)
      · have hw := hw.1 hc
        exact ctX4_firstFault_B50 (F := F) C0 hk_9 L1 L2 L3 L4 (x_bytes L4.toNatClampNeg) _ _ _ hw ⟨hK, hP, hD, hS⟩ (lv_sub hl [1, 2, 3, 4, 5, 0] rfl)
      · have hw := hw.2 hc
        refine lv_iload_n hx hb dX4_firstFault_41 rfl (lv_at hl 2 rfl) ?_
        refine lv_bipush (v := (9 : Int32)) hx hb dX4_firstFault_42 (by decide) ?_
        refine lv_icmp_ne (tgt := 50) hx hb dX4_firstFault_44 (by decide) (fun hc => ?_) (fun hc => ?_)
        · have hw := hw.1 hc
          exact ctX4_firstFault_B50 (F := F) C0 hk_9 L1 L2 L3 L4 (x_bytes L4.toNatClampNeg) _ _ _ hw ⟨hK, hP, hD, hS⟩ (lv_sub hl [1, 2, 3, 4, 5, 0] rfl)
        · have hw := hw.2 hc
          refine lv_iload hx hb dX4_firstFault_47 (lv_at hl 5 rfl) ?_
          exact W.iret (v := L4) hx hb hr (fun t ht hWm => ⟨⟨L4, (), rfl, hw, by rw [ht]; exact hP, va_K.moved hWm.alike hK, hD⟩, hS.F ht⟩) hS.2.2 dX4_firstFault_49
theorem ctX4_firstFault_H9 {p : Program} {l : Launch} {e : Env} {s : State} {m : MethodId} {args : Array Value} {below : List Frame} {meth : Method} {c : Code} {A : Nat → Prop} {D : va_G} {cyI cyB cyZ cyT : ClassId} {a : Nat → Nat} {F : Nat} {g : SX4} {Q : Int32 → Prop} (C0 : kCtx cX4_firstFault (some .int) RX4 6 p s m args meth c A) : ∀ n : Nat, ∀ (L1 : Int32) (L2 : Int32) (L3 : Int32) (L4 : Int32) (H : Heap) (locs : List Loc) (ls : Array Slot), wX4_firstFault_H9 F g Q n L1 L2 L3 L4 → kWd D (kTy cyI cyB cyZ cyT) (wdX4_firstFault cyI cyB cyZ cyT a   g) A s H locs → lv_has ls 6 [(0, .ref (a 0)), (1, .int L1), (2, .int L2), (3, .int L3), (4, .int L4)] → W p l e rmX4_firstFault s m args below meth c H locs 0 0 (MQ below (qX4_firstFault D cyI cyB cyZ cyT a g Q A) args s 0 0 A) (F0 m 9 ls []) := by
  intro n
  induction n with
  | zero => intro L1 L2 L3 L4 H locs ls hw hW hl; exact hw.elim
  | succ n ih => intro L1 L2 L3 L4 H locs ls hw hW hl; exact ctX4_firstFault_b9 (F := F) C0 ih L1 L2 L3 L4 H locs ls hw hW hl
set_option maxHeartbeats 4000000 in
set_option maxRecDepth 100000 in
theorem ctX4_firstFault (l : Launch) (D : va_G) (cyI cyB cyZ cyT : ClassId) (a : Nat → Nat) (F : Nat) (g : SX4) (Q : Int32 → Prop) : kMi (S := Unit) l yX4_firstFault (kM yX4_firstFault cX4_firstFault 6 (some .int)) rmX4_firstFault D (kTy cyI cyB cyZ cyT) [.ref (a 0)] (wdX4_firstFault cyI cyB cyZ cyT a   g) (wX4_firstFault F g Q) (fun r _ => Q r) (fun u : Unit => (wdX4_firstFault cyI cyB cyZ cyT a   g)) := by
  refine kMi.of (cc := cX4_firstFault) (maxL := 6) (ret := (some .int)) (by decide) (Nat.le_of_ble_eq_true rfl) ?_
  intro p e s m below meth c A C0 hw hW ls hl
  obtain ⟨hx, hb, hr, hts, hown, hml, hlocks, hA, hN⟩ := id C0
  have hown : s.vm.findClass RX4 = some m.cls := hown
  obtain ⟨hK, hP, hD, hS⟩ := hW
  obtain ⟨x_bytes, x_start, x_turnings, x_length, x_walks⟩ := g
  have hP : va_P D vwCl [(a 0, .inr (4, [.ref (a 1), .ref (a 2), .ref (a 3), .int x_length, .int x_walks])), (a 1, .inl (cyB, 300, .inl x_bytes)), (a 2, .inl (cyI, 10, .inl x_start)), (a 3, .inl (cyI, 9, .inl x_turnings))] s.heap := hP
  have hD : va_D A [(a 0, .inr (4, [.ref (a 1), .ref (a 2), .ref (a 3), .int x_length, .int x_walks])), (a 1, .inl (cyB, 300, .inl x_bytes)), (a 2, .inl (cyI, 10, .inl x_start)), (a 3, .inl (cyI, 9, .inl x_turnings))] := hD
  have hl : lv_has ls 6 [(0, .ref (a 0))] := hl
  refine lv_iconst (v := (0 : Int32)) hx hb dX4_firstFault_0 (by decide) ?_
  refine lv_istore_n (lv' := [(1, .int (0 : Int32)), (0, .ref (a 0))]) hx hb dX4_firstFault_1 rfl hl (by decide) rfl (fun ls hl => ?_)
  refine lv_iconst (v := (0 : Int32)) hx hb dX4_firstFault_2 (by decide) ?_
  refine lv_istore_n (lv' := [(2, .int (0 : Int32)), (1, .int (0 : Int32)), (0, .ref (a 0))]) hx hb dX4_firstFault_3 rfl hl (by decide) rfl (fun ls hl => ?_)
  refine lv_iconst (v := (0 : Int32)) hx hb dX4_firstFault_4 (by decide) ?_
  refine lv_istore_n (lv' := [(3, .int (0 : Int32)), (2, .int (0 : Int32)), (1, .int (0 : Int32)), (0, .ref (a 0))]) hx hb dX4_firstFault_5 rfl hl (by decide) rfl (fun ls hl => ?_)
  refine lv_iconst (v := (0 : Int32)) hx hb dX4_firstFault_6 (by decide) ?_
  refine lv_istore (lv' := [(4, .int (0 : Int32)), (3, .int (0 : Int32)), (2, .int (0 : Int32)), (1, .int (0 : Int32)), (0, .ref (a 0))]) hx hb dX4_firstFault_7 hl (by decide) rfl (fun ls hl => ?_)
  exact ctX4_firstFault_H9 (F := F) C0 F (0 : Int32) (0 : Int32) (0 : Int32) (0 : Int32) _ _ _ hw ⟨hK, hP, hD, hS⟩ (lv_sub hl [4, 3, 2, 1, 0] rfl)
-- ===== RX4.isFigure(I)Z
abbrev wdX4_isFigure (cyI cyB cyZ cyT : ClassId) (a : Nat → Nat) (g : SX4) : va_W := [(a 0, .inr (4, [.ref (a 1), .ref (a 2), .ref (a 3), .int g.x_length, .int g.x_walks])), (a 1, .inl (cyB, 300, .inl g.x_bytes)), (a 2, .inl (cyI, 10, .inl g.x_start)), (a 3, .inl (cyI, 9, .inl g.x_turnings))]
abbrev rmX4_isFigure : Room := { frames := 1, cells := 0, slots := 0, locals := 22 }
abbrev qX4_isFigure (D : va_G) (cyI cyB cyZ cyT : ClassId) (a : Nat → Nat) (g : SX4) (Q : Int32 → Prop) (A : Nat → Prop) : Array Value → State → Outcome → State → Prop := va_Qi (S := Unit) (fun r _ => Q r) (kB D (kTy cyI cyB cyZ cyT) (fun u : Unit => (wdX4_isFigure cyI cyB cyZ cyT a   g)) A) A
def wX4_isFigure (F : Nat) (g : SX4) (p1 : Int32) (Q : Int32 → Prop) : Prop := ((p1 < 0 → (Q (0 : Int32))) ∧ (¬ (p1 < 0) → ((g.x_length ≤ p1 → (Q (0 : Int32))) ∧ (¬ (g.x_length ≤ p1) → (vp_in p1 300) ∧ (wX4_isBetween F (g.x_bytes p1.toNatClampNeg) (48 : Int32) (57 : Int32) (fun r22 => ((r22 = 0 → (Q (0 : Int32))) ∧ (¬ (r22 = 0) → (Q (1 : Int32))))))))))
set_option maxHeartbeats 4000000 in
set_option maxRecDepth 100000 in
theorem ctX4_isFigure (l : Launch) (D : va_G) (cyI cyB cyZ cyT : ClassId) (a : Nat → Nat) (F : Nat) (g : SX4) (p1 : Int32) (Q : Int32 → Prop) : kMi (S := Unit) l yX4_isFigure (kM yX4_isFigure cX4_isFigure 2 (some .boolean)) rmX4_isFigure D (kTy cyI cyB cyZ cyT) [.ref (a 0), .int p1] (wdX4_isFigure cyI cyB cyZ cyT a   g) (wX4_isFigure F g p1 Q) (fun r _ => Q r) (fun u : Unit => (wdX4_isFigure cyI cyB cyZ cyT a   g)) := by
  refine kMi.of (cc := cX4_isFigure) (maxL := 2) (ret := (some .boolean)) (by decide) (Nat.le_of_ble_eq_true rfl) ?_
  intro p e s m below meth c A C0 hw hW ls hl
  obtain ⟨hx, hb, hr, hts, hown, hml, hlocks, hA, hN⟩ := id C0
  have hown : s.vm.findClass RX4 = some m.cls := hown
  obtain ⟨hK, hP, hD, hS⟩ := hW
  obtain ⟨x_bytes, x_start, x_turnings, x_length, x_walks⟩ := g
  have hP : va_P D vwCl [(a 0, .inr (4, [.ref (a 1), .ref (a 2), .ref (a 3), .int x_length, .int x_walks])), (a 1, .inl (cyB, 300, .inl x_bytes)), (a 2, .inl (cyI, 10, .inl x_start)), (a 3, .inl (cyI, 9, .inl x_turnings))] s.heap := hP
  have hD : va_D A [(a 0, .inr (4, [.ref (a 1), .ref (a 2), .ref (a 3), .int x_length, .int x_walks])), (a 1, .inl (cyB, 300, .inl x_bytes)), (a 2, .inl (cyI, 10, .inl x_start)), (a 3, .inl (cyI, 9, .inl x_turnings))] := hD
  have hl : lv_has ls 2 [(0, .ref (a 0)), (1, .int p1)] := hl
  refine lv_iload_n hx hb dX4_isFigure_0 rfl (lv_at hl 1 rfl) ?_
  refine lv_if_lt (tgt := 32) hx hb dX4_isFigure_1 (by decide) (fun hc => ?_) (fun hc => ?_)
  · have hw := hw.1 hc
    refine lv_iconst (v := (0 : Int32)) hx hb dX4_isFigure_32 (by decide) ?_
    exact W.zret (ty := .boolean) (v := (0 : Int32)) hx hb hr rfl (fun t ht hWm => ⟨⟨(0 : Int32), (), rfl, hw, by rw [ht]; exact hP, va_K.moved hWm.alike hK, hD⟩, hS.F ht⟩) hS.2.2 dX4_isFigure_33
  · have hw := hw.2 hc
    refine lv_iload_n hx hb dX4_isFigure_4 rfl (lv_at hl 1 rfl) ?_
    refine lv_aload_n hx hb dX4_isFigure_5 rfl (lv_at hl 0 rfl) ?_
    refine va_get (ci := 4) (v := .int x_length) (C := RX4) (T := TX4) (N := 5) hx hb hts iw_X4 hown hK hP 0 rfl rfl 3 (by decide) (hts (.fieldLink RX4 22 "WalkersSay$Text" "length" "I") q_e163904f) (fun _ h9 => h9) rfl dX4_isFigure_6 ?_
    refine lv_icmp_ge (tgt := 32) hx hb dX4_isFigure_9 (by decide) (fun hc => ?_) (fun hc => ?_)
    · have hw := hw.1 hc
      refine lv_iconst (v := (0 : Int32)) hx hb dX4_isFigure_32 (by decide) ?_
      exact W.zret (ty := .boolean) (v := (0 : Int32)) hx hb hr rfl (fun t ht hWm => ⟨⟨(0 : Int32), (), rfl, hw, by rw [ht]; exact hP, va_K.moved hWm.alike hK, hD⟩, hS.F ht⟩) hS.2.2 dX4_isFigure_33
    · have hw := hw.2 hc
      refine lv_aload_n hx hb dX4_isFigure_12 rfl (lv_at hl 0 rfl) ?_
      refine va_get (ci := 4) (v := .ref (a 1)) (C := RX4) (T := TX4) (N := 5) hx hb hts iw_X4 hown hK hP 0 rfl rfl 0 (by decide) (hts (.fieldLink RX4 9 "WalkersSay$Text" "bytes" "[B") q_7bb64ea3) (fun _ h9 => h9) rfl dX4_isFigure_13 ?_
      refine lv_iload_n hx hb dX4_isFigure_16 rfl (lv_at hl 1 rfl) ?_
      obtain ⟨hc0, hw⟩ := hw
      refine va_bald hx hb hK hP 1 1 rfl rfl hc0 dX4_isFigure_17 ?_
      refine lv_bipush (v := (48 : Int32)) hx hb dX4_isFigure_18 (by decide) ?_
      refine lv_bipush (v := (57 : Int32)) hx hb dX4_isFigure_20 (by decide) ?_
      refine kx_Si (S := Unit) (As := [.int (x_bytes p1.toNatClampNeg), .int (48 : Int32), .int (57 : Int32)]) (rest := []) (WR := [(a 0, .inr (4, [.ref (a 1), .ref (a 2), .ref (a 3), .int x_length, .int x_walks])), (a 1, .inl (cyB, 300, .inl x_bytes)), (a 2, .inl (cyI, 10, .inl x_start)), (a 3, .inl (cyI, 9, .inl x_turnings))]) (WN := (fun u : Unit => [(a 0, .inr (4, [.ref (a 1), .ref (a 2), .ref (a 3), .int x_length, .int x_walks])), (a 1, .inl (cyB, 300, .inl x_bytes)), (a 2, .inl (cyI, 10, .inl x_start)), (a 3, .inl (cyI, 9, .inl x_turnings))])) ⟨hx, hb, hml, hown, hts⟩ (ctX4_isBetween l D cyI cyB cyZ cyT F _ _ _ _) (va_cwS 3 hts (k_gS q_1cbe2a6e q_225c677d q_2fe9664d q_69524b7c) rfl rfl rfl (by decide +kernel) ⟨Nat.le_of_ble_eq_true rfl, Nat.le_of_ble_eq_true rfl⟩) hN hw ⟨hK, hP, hD, hS⟩ hA [] [0, 1, 2, 3] [0, 1, 2, 3] rfl (by decide) rfl (by decide) (by decide) (by decide) (fun _ => rfl) rfl hl.1 rfl (Nat.le_of_ble_eq_true rfl) dX4_isFigure_22 ⟨Nat.zero_le _, Nat.zero_le _⟩ (fun r22 u H locs hw hW => ?_)
      obtain ⟨hK, hP, hD, hS⟩ := hW
      have hP : va_P D vwCl [(a 0, .inr (4, [.ref (a 1), .ref (a 2), .ref (a 3), .int x_length, .int x_walks])), (a 1, .inl (cyB, 300, .inl x_bytes)), (a 2, .inl (cyI, 10, .inl x_start)), (a 3, .inl (cyI, 9, .inl x_turnings))] H := hP
      have hD : va_D A [(a 0, .inr (4, [.ref (a 1), .ref (a 2), .ref (a 3), .int x_length, .int x_walks])), (a 1, .inl (cyB, 300, .inl x_bytes)), (a 2, .inl (cyI, 10, .inl x_start)), (a 3, .inl (cyI, 9, .inl x_turnings))] := hD
      refine lv_if_eq (tgt := 32) hx hb dX4_isFigure_25 (by decide) (fun hc => ?_) (fun hc => ?_)
      · have hw := hw.1 hc
        refine lv_iconst (v := (0 : Int32)) hx hb dX4_isFigure_32 (by decide) ?_
        exact W.zret (ty := .boolean) (v := (0 : Int32)) hx hb hr rfl (fun t ht hWm => ⟨⟨(0 : Int32), (), rfl, hw, by rw [ht]; exact hP, va_K.moved hWm.alike hK, hD⟩, hS.F ht⟩) hS.2.2 dX4_isFigure_33
      · have hw := hw.2 hc
        refine lv_iconst (v := (1 : Int32)) hx hb dX4_isFigure_28 (by decide) ?_
        refine lv_goto (tgt := 33) hx hb dX4_isFigure_29 (by decide) ?_
        exact W.zret (ty := .boolean) (v := (1 : Int32)) hx hb hr rfl (fun t ht hWm => ⟨⟨(1 : Int32), (), rfl, hw, by rw [ht]; exact hP, va_K.moved hWm.alike hK, hD⟩, hS.F ht⟩) hS.2.2 dX4_isFigure_33
-- ===== RX4.isTurning(II)Z
abbrev wdX4_isTurning (cyI cyB cyZ cyT : ClassId) (a : Nat → Nat) (g : SX4) : va_W := [(a 0, .inr (4, [.ref (a 1), .ref (a 2), .ref (a 3), .int g.x_length, .int g.x_walks])), (a 1, .inl (cyB, 300, .inl g.x_bytes)), (a 2, .inl (cyI, 10, .inl g.x_start)), (a 3, .inl (cyI, 9, .inl g.x_turnings))]
abbrev rmX4_isTurning : Room := { frames := 2, cells := 0, slots := 0, locals := 43 }
abbrev qX4_isTurning (D : va_G) (cyI cyB cyZ cyT : ClassId) (a : Nat → Nat) (g : SX4) (Q : Int32 → Prop) (A : Nat → Prop) : Array Value → State → Outcome → State → Prop := va_Qi (S := Unit) (fun r _ => Q r) (kB D (kTy cyI cyB cyZ cyT) (fun u : Unit => (wdX4_isTurning cyI cyB cyZ cyT a   g)) A) A
def wX4_isTurning (F : Nat) (g : SX4) (p1 : Int32) (p2 : Int32) (Q : Int32 → Prop) : Prop := (wX4_isFigure F g p2 (fun r2 => ((r2 = 0 → (Q (0 : Int32))) ∧ (¬ (r2 = 0) → (wX4_isFigure F g (p2 - (1 : Int32)) (fun r12 => ((¬ r12 = 0 → (Q (1 : Int32))) ∧ (r12 = 0 → (vp_in p1 10) ∧ ((¬ (p2 - (1 : Int32)) = (g.x_start p1.toNatClampNeg) → (Q (0 : Int32))) ∧ ((p2 - (1 : Int32)) = (g.x_start p1.toNatClampNeg) → (Q (1 : Int32))))))))))))
set_option maxHeartbeats 4000000 in
set_option maxRecDepth 100000 in
theorem ctX4_isTurning (l : Launch) (D : va_G) (cyI cyB cyZ cyT : ClassId) (a : Nat → Nat) (F : Nat) (g : SX4) (p1 : Int32) (p2 : Int32) (Q : Int32 → Prop) : kMi (S := Unit) l yX4_isTurning (kM yX4_isTurning cX4_isTurning 3 (some .boolean)) rmX4_isTurning D (kTy cyI cyB cyZ cyT) [.ref (a 0), .int p1, .int p2] (wdX4_isTurning cyI cyB cyZ cyT a   g) (wX4_isTurning F g p1 p2 Q) (fun r _ => Q r) (fun u : Unit => (wdX4_isTurning cyI cyB cyZ cyT a   g)) := by
  refine kMi.of (cc := cX4_isTurning) (maxL := 3) (ret := (some .boolean)) (by decide) (Nat.le_of_ble_eq_true rfl) ?_
  intro p e s m below meth c A C0 hw hW ls hl
  obtain ⟨hx, hb, hr, hts, hown, hml, hlocks, hA, hN⟩ := id C0
  have hown : s.vm.findClass RX4 = some m.cls := hown
  obtain ⟨hK, hP, hD, hS⟩ := hW
  obtain ⟨x_bytes, x_start, x_turnings, x_length, x_walks⟩ := g
  have hP : va_P D vwCl [(a 0, .inr (4, [.ref (a 1), .ref (a 2), .ref (a 3), .int x_length, .int x_walks])), (a 1, .inl (cyB, 300, .inl x_bytes)), (a 2, .inl (cyI, 10, .inl x_start)), (a 3, .inl (cyI, 9, .inl x_turnings))] s.heap := hP
  have hD : va_D A [(a 0, .inr (4, [.ref (a 1), .ref (a 2), .ref (a 3), .int x_length, .int x_walks])), (a 1, .inl (cyB, 300, .inl x_bytes)), (a 2, .inl (cyI, 10, .inl x_start)), (a 3, .inl (cyI, 9, .inl x_turnings))] := hD
  have hl : lv_has ls 3 [(0, .ref (a 0)), (1, .int p1), (2, .int p2)] := hl
  refine lv_aload_n hx hb dX4_isTurning_0 rfl (lv_at hl 0 rfl) ?_
  refine lv_iload_n hx hb dX4_isTurning_1 rfl (lv_at hl 2 rfl) ?_
  refine kx_Vi (S := Unit) (ci := 4) (As := [.int p2]) (rest := []) (WR := []) (WN := (fun u : Unit => [(a 0, .inr (4, [.ref (a 1), .ref (a 2), .ref (a 3), .int x_length, .int x_walks])), (a 1, .inl (cyB, 300, .inl x_bytes)), (a 2, .inl (cyI, 10, .inl x_start)), (a 3, .inl (cyI, 9, .inl x_turnings))])) ⟨hx, hb, hml, hown, hts⟩ (ctX4_isFigure l D cyI cyB cyZ cyT a F _ _ _) (cwV 1 hts (k_gV q_f986bb9b q_dccf2f1a q_950313e5 q_2fe9664d q_98e04094) rfl rfl rfl (by decide +kernel) ⟨Nat.le_of_ble_eq_true rfl, Nat.le_of_ble_eq_true rfl⟩) hN hw ⟨hK, hP, hD, hS⟩ hA [0, 1, 2, 3] [] [0, 1, 2, 3] rfl (by decide) rfl (by decide) (by decide) (by decide) (fun _ => rfl) rfl 0 rfl rfl hl.1 rfl (Nat.le_of_ble_eq_true rfl) dX4_isTurning_2 ⟨Nat.zero_le _, Nat.zero_le _⟩ (fun r2 u H locs hw hW => ?_)
  obtain ⟨hK, hP, hD, hS⟩ := hW
  have hP : va_P D vwCl [(a 0, .inr (4, [.ref (a 1), .ref (a 2), .ref (a 3), .int x_length, .int x_walks])), (a 1, .inl (cyB, 300, .inl x_bytes)), (a 2, .inl (cyI, 10, .inl x_start)), (a 3, .inl (cyI, 9, .inl x_turnings))] H := hP
  have hD : va_D A [(a 0, .inr (4, [.ref (a 1), .ref (a 2), .ref (a 3), .int x_length, .int x_walks])), (a 1, .inl (cyB, 300, .inl x_bytes)), (a 2, .inl (cyI, 10, .inl x_start)), (a 3, .inl (cyI, 9, .inl x_turnings))] := hD
  refine lv_if_eq (tgt := 34) hx hb dX4_isTurning_5 (by decide) (fun hc => ?_) (fun hc => ?_)
  · have hw := hw.1 hc
    refine lv_iconst (v := (0 : Int32)) hx hb dX4_isTurning_34 (by decide) ?_
    exact W.zret (ty := .boolean) (v := (0 : Int32)) hx hb hr rfl (fun t ht hWm => ⟨⟨(0 : Int32), (), rfl, hw, by rw [ht]; exact hP, va_K.moved hWm.alike hK, hD⟩, hS.F ht⟩) hS.2.2 dX4_isTurning_35
  · have hw := hw.2 hc
    refine lv_aload_n hx hb dX4_isTurning_8 rfl (lv_at hl 0 rfl) ?_
    refine lv_iload_n hx hb dX4_isTurning_9 rfl (lv_at hl 2 rfl) ?_
    refine lv_iconst (v := (1 : Int32)) hx hb dX4_isTurning_10 (by decide) ?_
    refine lv_isub hx hb dX4_isTurning_11 ?_
    refine kx_Vi (S := Unit) (ci := 4) (As := [.int (p2 - (1 : Int32))]) (rest := []) (WR := []) (WN := (fun u : Unit => [(a 0, .inr (4, [.ref (a 1), .ref (a 2), .ref (a 3), .int x_length, .int x_walks])), (a 1, .inl (cyB, 300, .inl x_bytes)), (a 2, .inl (cyI, 10, .inl x_start)), (a 3, .inl (cyI, 9, .inl x_turnings))])) ⟨hx, hb, hml, hown, hts⟩ (ctX4_isFigure l D cyI cyB cyZ cyT a F _ _ _) (cwV 1 hts (k_gV q_f986bb9b q_dccf2f1a q_950313e5 q_2fe9664d q_98e04094) rfl rfl rfl (by decide +kernel) ⟨Nat.le_of_ble_eq_true rfl, Nat.le_of_ble_eq_true rfl⟩) hN hw ⟨hK, hP, hD, hS⟩ hA [0, 1, 2, 3] [] [0, 1, 2, 3] rfl (by decide) rfl (by decide) (by decide) (by decide) (fun _ => rfl) rfl 0 rfl rfl hl.1 rfl (Nat.le_of_ble_eq_true rfl) dX4_isTurning_12 ⟨Nat.zero_le _, Nat.zero_le _⟩ (fun r12 u H locs hw hW => ?_)
    obtain ⟨hK, hP, hD, hS⟩ := hW
    have hP : va_P D vwCl [(a 0, .inr (4, [.ref (a 1), .ref (a 2), .ref (a 3), .int x_length, .int x_walks])), (a 1, .inl (cyB, 300, .inl x_bytes)), (a 2, .inl (cyI, 10, .inl x_start)), (a 3, .inl (cyI, 9, .inl x_turnings))] H := hP
    have hD : va_D A [(a 0, .inr (4, [.ref (a 1), .ref (a 2), .ref (a 3), .int x_length, .int x_walks])), (a 1, .inl (cyB, 300, .inl x_bytes)), (a 2, .inl (cyI, 10, .inl x_start)), (a 3, .inl (cyI, 9, .inl x_turnings))] := hD
    refine lv_if_ne (tgt := 30) hx hb dX4_isTurning_15 (by decide) (fun hc => ?_) (fun hc => ?_)
    · have hw := hw.1 hc
      refine lv_iconst (v := (1 : Int32)) hx hb dX4_isTurning_30 (by decide) ?_
      refine lv_goto (tgt := 35) hx hb dX4_isTurning_31 (by decide) ?_
      exact W.zret (ty := .boolean) (v := (1 : Int32)) hx hb hr rfl (fun t ht hWm => ⟨⟨(1 : Int32), (), rfl, hw, by rw [ht]; exact hP, va_K.moved hWm.alike hK, hD⟩, hS.F ht⟩) hS.2.2 dX4_isTurning_35
    · have hw := hw.2 hc
      refine lv_iload_n hx hb dX4_isTurning_18 rfl (lv_at hl 2 rfl) ?_
      refine lv_iconst (v := (1 : Int32)) hx hb dX4_isTurning_19 (by decide) ?_
      refine lv_isub hx hb dX4_isTurning_20 ?_
      refine lv_aload_n hx hb dX4_isTurning_21 rfl (lv_at hl 0 rfl) ?_
      refine va_get (ci := 4) (v := .ref (a 2)) (C := RX4) (T := TX4) (N := 5) hx hb hts iw_X4 hown hK hP 0 rfl rfl 1 (by decide) (hts (.fieldLink RX4 15 "WalkersSay$Text" "start" "[I") q_6987cf1c) (fun _ h9 => h9) rfl dX4_isTurning_22 ?_
      refine lv_iload_n hx hb dX4_isTurning_25 rfl (lv_at hl 1 rfl) ?_
      obtain ⟨hc0, hw⟩ := hw
      refine va_iald hx hb hK hP 2 0 rfl rfl hc0 dX4_isTurning_26 ?_
      refine lv_icmp_ne (tgt := 34) hx hb dX4_isTurning_27 (by decide) (fun hc => ?_) (fun hc => ?_)
      · have hw := hw.1 hc
        refine lv_iconst (v := (0 : Int32)) hx hb dX4_isTurning_34 (by decide) ?_
        exact W.zret (ty := .boolean) (v := (0 : Int32)) hx hb hr rfl (fun t ht hWm => ⟨⟨(0 : Int32), (), rfl, hw, by rw [ht]; exact hP, va_K.moved hWm.alike hK, hD⟩, hS.F ht⟩) hS.2.2 dX4_isTurning_35
      · have hw := hw.2 hc
        refine lv_iconst (v := (1 : Int32)) hx hb dX4_isTurning_30 (by decide) ?_
        refine lv_goto (tgt := 35) hx hb dX4_isTurning_31 (by decide) ?_
        exact W.zret (ty := .boolean) (v := (1 : Int32)) hx hb hr rfl (fun t ht hWm => ⟨⟨(1 : Int32), (), rfl, hw, by rw [ht]; exact hP, va_K.moved hWm.alike hK, hD⟩, hS.F ht⟩) hS.2.2 dX4_isTurning_35
-- ===== RX4.findWalks()V
abbrev wdX4_findWalks (cyI cyB cyZ cyT : ClassId) (a : Nat → Nat) (g : SX4) : va_W := [(a 0, .inr (4, [.ref (a 1), .ref (a 2), .ref (a 3), .int g.x_length, .int g.x_walks])), (a 1, .inl (cyB, 300, .inl g.x_bytes)), (a 2, .inl (cyI, 10, .inl g.x_start)), (a 3, .inl (cyI, 9, .inl g.x_turnings))]
abbrev rmX4_findWalks : Room := { frames := 3, cells := 0, slots := 0, locals := 65 }
abbrev qX4_findWalks (D : va_G) (cyI cyB cyZ cyT : ClassId) (a : Nat → Nat) (Q : SX4 → Prop) (A : Nat → Prop) : Array Value → State → Outcome → State → Prop := va_Qv (S := SX4) (fun u => Q u) (kB D (kTy cyI cyB cyZ cyT) (fun u : SX4 => (wdX4_findWalks cyI cyB cyZ cyT a   u)) A) A
def wX4_findWalks_b21 (F : Nat) (Q : SX4 → Prop)  (K_21 : Int32 → SX4 → Prop) (L1 : Int32) (g : SX4) : Prop := ((g.x_length ≤ L1 → (Q g)) ∧ (¬ (g.x_length ≤ L1) → (((9 : Int32) ≤ g.x_walks → (Q g)) ∧ (¬ ((9 : Int32) ≤ g.x_walks) → (wX4_isTurning F g g.x_walks L1 (fun r44 => ((r44 = 0 → (vp_in L1 300) ∧ ((¬ (g.x_bytes L1.toNatClampNeg) = (59 : Int32) → (K_21 (L1 + 1) g)) ∧ ((g.x_bytes L1.toNatClampNeg) = (59 : Int32) → (vp_in (g.x_walks + (1 : Int32)) 10) ∧ (((9 : Int32) ≤ (g.x_walks + (1 : Int32)) → (K_21 (L1 + 1) (g.x_bytes, (upd g.x_start (g.x_walks + (1 : Int32)).toNatClampNeg (L1 + (1 : Int32))), g.x_turnings, g.x_length, (g.x_walks + (1 : Int32))))) ∧ (¬ ((9 : Int32) ≤ (g.x_walks + (1 : Int32))) → (vp_in (g.x_walks + (1 : Int32)) 9) ∧ (K_21 (L1 + 1) (g.x_bytes, (upd g.x_start (g.x_walks + (1 : Int32)).toNatClampNeg (L1 + (1 : Int32))), (upd g.x_turnings (g.x_walks + (1 : Int32)).toNatClampNeg (0 : Int32)), g.x_length, (g.x_walks + (1 : Int32))))))))) ∧ (¬ (r44 = 0) → (vp_in g.x_walks 9) ∧ (vp_in g.x_walks 9) ∧ (K_21 (L1 + 1) (g.x_bytes, g.x_start, (upd g.x_turnings g.x_walks.toNatClampNeg ((g.x_turnings g.x_walks.toNatClampNeg) + (1 : Int32))), g.x_length, g.x_walks))))))))))
def wX4_findWalks_H21 (F : Nat) (Q : SX4 → Prop)  : Nat → Int32 → SX4 → Prop
  | 0 => fun _ _ => False
  | n + 1 => fun L1 g => wX4_findWalks_b21 F Q (wX4_findWalks_H21 F Q n) L1 g
def wX4_findWalks (F : Nat) (g : SX4) (Q : SX4 → Prop) : Prop := (vp_in (0 : Int32) 10) ∧ (vp_in (0 : Int32) 9) ∧ (wX4_findWalks_H21 F Q F (0 : Int32) (g.x_bytes, (upd g.x_start (0 : Int32).toNatClampNeg (0 : Int32)), (upd g.x_turnings (0 : Int32).toNatClampNeg (0 : Int32)), g.x_length, (0 : Int32)))
set_option maxHeartbeats 4000000 in
set_option maxRecDepth 100000 in
theorem ctX4_findWalks_b21 {p : Program} {l : Launch} {e : Env} {s : State} {m : MethodId} {args : Array Value} {below : List Frame} {meth : Method} {c : Code} {A : Nat → Prop} {D : va_G} {cyI cyB cyZ cyT : ClassId} {a : Nat → Nat} {F : Nat} {Q : SX4 → Prop} {K_21 : Int32 → SX4 → Prop} (C0 : kCtx cX4_findWalks none RX4 2 p s m args meth c A) (hk_21 : ∀ (L1 : Int32) (g : SX4) (H : Heap) (locs : List Loc) (ls : Array Slot), K_21 L1 g → kWd D (kTy cyI cyB cyZ cyT) (wdX4_findWalks cyI cyB cyZ cyT a   g) A s H locs → lv_has ls 2 [(0, .ref (a 0)), (1, .int L1)] → W p l e rmX4_findWalks s m args below meth c H locs 0 0 (MQ below (qX4_findWalks D cyI cyB cyZ cyT a Q A) args s 0 0 A) (F0 m 21 ls [])) : ∀ (L1 : Int32) (g : SX4) (H : Heap) (locs : List Loc) (ls : Array Slot), wX4_findWalks_b21 F Q K_21 L1 g → kWd D (kTy cyI cyB cyZ cyT) (wdX4_findWalks cyI cyB cyZ cyT a   g) A s H locs → lv_has ls 2 [(0, .ref (a 0)), (1, .int L1)] → W p l e rmX4_findWalks s m args below meth c H locs 0 0 (MQ below (qX4_findWalks D cyI cyB cyZ cyT a Q A) args s 0 0 A) (F0 m 21 ls []) := by
  intro L1 g H locs ls hw hW hl
  obtain ⟨hx, hb, hr, hts, hown, hml, hlocks, hA, hN⟩ := id C0
  obtain ⟨hK, hP, hD, hS⟩ := hW
  obtain ⟨x_bytes, x_start, x_turnings, x_length, x_walks⟩ := g
  have hP : va_P D vwCl [(a 0, .inr (4, [.ref (a 1), .ref (a 2), .ref (a 3), .int x_length, .int x_walks])), (a 1, .inl (cyB, 300, .inl x_bytes)), (a 2, .inl (cyI, 10, .inl x_start)), (a 3, .inl (cyI, 9, .inl x_turnings))] H := hP
  have hD : va_D A [(a 0, .inr (4, [.ref (a 1), .ref (a 2), .ref (a 3), .int x_length, .int x_walks])), (a 1, .inl (cyB, 300, .inl x_bytes)), (a 2, .inl (cyI, 10, .inl x_start)), (a 3, .inl (cyI, 9, .inl x_turnings))] := hD
  refine lv_iload_n hx hb dX4_findWalks_21 rfl (lv_at hl 1 rfl) ?_
  refine lv_aload_n hx hb dX4_findWalks_22 rfl (lv_at hl 0 rfl) ?_
  refine va_get (ci := 4) (v := .int x_length) (C := RX4) (T := TX4) (N := 5) hx hb hts iw_X4 hown hK hP 0 rfl rfl 3 (by decide) (hts (.fieldLink RX4 22 "WalkersSay$Text" "length" "I") q_e163904f) (fun _ h9 => h9) rfl dX4_findWalks_23 ?_
  refine lv_icmp_ge (tgt := 124) hx hb dX4_findWalks_26 (by decide) (fun hc => ?_) (fun hc => ?_)
  · have hw := hw.1 hc
    exact W.vret hx hb hr (fun t ht hWm => ⟨⟨(x_bytes, x_start, x_turnings, x_length, x_walks), rfl, hw, by rw [ht]; exact hP, va_K.moved hWm.alike hK, hD⟩, hS.F ht⟩) hS.2.2 dX4_findWalks_124
  · have hw := hw.2 hc
    refine lv_aload_n hx hb dX4_findWalks_29 rfl (lv_at hl 0 rfl) ?_
    refine va_get (ci := 4) (v := .int x_walks) (C := RX4) (T := TX4) (N := 5) hx hb hts iw_X4 hown hK hP 0 rfl rfl 4 (by decide) (hts (.fieldLink RX4 44 "WalkersSay$Text" "walks" "I") q_d690d8a3) (fun _ h9 => h9) rfl dX4_findWalks_30 ?_
    refine lv_bipush (v := (9 : Int32)) hx hb dX4_findWalks_33 (by decide) ?_
    refine lv_icmp_ge (tgt := 124) hx hb dX4_findWalks_35 (by decide) (fun hc => ?_) (fun hc => ?_)
    · have hw := hw.1 hc
      exact W.vret hx hb hr (fun t ht hWm => ⟨⟨(x_bytes, x_start, x_turnings, x_length, x_walks), rfl, hw, by rw [ht]; exact hP, va_K.moved hWm.alike hK, hD⟩, hS.F ht⟩) hS.2.2 dX4_findWalks_124
    · have hw := hw.2 hc
      refine lv_aload_n hx hb dX4_findWalks_38 rfl (lv_at hl 0 rfl) ?_
      refine lv_aload_n hx hb dX4_findWalks_39 rfl (lv_at hl 0 rfl) ?_
      refine va_get (ci := 4) (v := .int x_walks) (C := RX4) (T := TX4) (N := 5) hx hb hts iw_X4 hown hK hP 0 rfl rfl 4 (by decide) (hts (.fieldLink RX4 44 "WalkersSay$Text" "walks" "I") q_d690d8a3) (fun _ h9 => h9) rfl dX4_findWalks_40 ?_
      refine lv_iload_n hx hb dX4_findWalks_43 rfl (lv_at hl 1 rfl) ?_
      refine kx_Vi (S := Unit) (ci := 4) (As := [.int x_walks, .int L1]) (rest := []) (WR := []) (WN := (fun u : Unit => [(a 0, .inr (4, [.ref (a 1), .ref (a 2), .ref (a 3), .int x_length, .int x_walks])), (a 1, .inl (cyB, 300, .inl x_bytes)), (a 2, .inl (cyI, 10, .inl x_start)), (a 3, .inl (cyI, 9, .inl x_turnings))])) ⟨hx, hb, hml, hown, hts⟩ (ctX4_isTurning l D cyI cyB cyZ cyT a F _ _ _ _) (cwV 2 hts (k_gV q_419e7464 q_e3d15917 q_f4fd5335 q_2fe9664d q_676ddc65) rfl rfl rfl (by decide +kernel) ⟨Nat.le_of_ble_eq_true rfl, Nat.le_of_ble_eq_true rfl⟩) hN hw ⟨hK, hP, hD, hS⟩ hA [0, 1, 2, 3] [] [0, 1, 2, 3] rfl (by decide) rfl (by decide) (by decide) (by decide) (fun _ => rfl) rfl 0 rfl rfl hl.1 rfl (Nat.le_of_ble_eq_true rfl) dX4_findWalks_44 ⟨Nat.zero_le _, Nat.zero_le _⟩ (fun r44 u H locs hw hW => ?_)
      obtain ⟨hK, hP, hD, hS⟩ := hW
      have hP : va_P D vwCl [(a 0, .inr (4, [.ref (a 1), .ref (a 2), .ref (a 3), .int x_length, .int x_walks])), (a 1, .inl (cyB, 300, .inl x_bytes)), (a 2, .inl (cyI, 10, .inl x_start)), (a 3, .inl (cyI, 9, .inl x_turnings))] H := hP
      have hD : va_D A [(a 0, .inr (4, [.ref (a 1), .ref (a 2), .ref (a 3), .int x_length, .int x_walks])), (a 1, .inl (cyB, 300, .inl x_bytes)), (a 2, .inl (cyI, 10, .inl x_start)), (a 3, .inl (cyI, 9, .inl x_turnings))] := hD
      refine lv_if_eq (tgt := 66) hx hb dX4_findWalks_47 (by decide) (fun hc => ?_) (fun hc => ?_)
      · have hw := hw.1 hc
        refine lv_aload_n hx hb dX4_findWalks_66 rfl (lv_at hl 0 rfl) ?_
        refine va_get (ci := 4) (v := .ref (a 1)) (C := RX4) (T := TX4) (N := 5) hx hb hts iw_X4 hown hK hP 0 rfl rfl 0 (by decide) (hts (.fieldLink RX4 9 "WalkersSay$Text" "bytes" "[B") q_7bb64ea3) (fun _ h9 => h9) rfl dX4_findWalks_67 ?_
        refine lv_iload_n hx hb dX4_findWalks_70 rfl (lv_at hl 1 rfl) ?_
        obtain ⟨hc0, hw⟩ := hw
        refine va_bald hx hb hK hP 1 1 rfl rfl hc0 dX4_findWalks_71 ?_
        refine lv_bipush (v := (59 : Int32)) hx hb dX4_findWalks_72 (by decide) ?_
        refine lv_icmp_ne (tgt := 118) hx hb dX4_findWalks_74 (by decide) (fun hc => ?_) (fun hc => ?_)
        · have hw := hw.1 hc
          refine lv_iinc (v := (L1 + 1)) (lv' := [(1, .int (L1 + 1)), (0, .ref (a 0))]) hx hb dX4_findWalks_118 hl (k := 1) rfl rfl (by decide) rfl (fun ls hl => ?_)
          refine lv_goto (tgt := 21) hx hb dX4_findWalks_121 (by decide) ?_
          exact hk_21 (L1 + 1) (x_bytes, x_start, x_turnings, x_length, x_walks) _ _ _ hw ⟨hK, hP, hD, hS⟩ (lv_sub hl [1, 0] rfl)
        · have hw := hw.2 hc
          refine lv_aload_n hx hb dX4_findWalks_77 rfl (lv_at hl 0 rfl) ?_
          refine lv_dup hx hb dX4_findWalks_78 rfl ?_
          refine va_get (ci := 4) (v := .int x_walks) (C := RX4) (T := TX4) (N := 5) hx hb hts iw_X4 hown hK hP 0 rfl rfl 4 (by decide) (hts (.fieldLink RX4 44 "WalkersSay$Text" "walks" "I") q_d690d8a3) (fun _ h9 => h9) rfl dX4_findWalks_79 ?_
          refine lv_iconst (v := (1 : Int32)) hx hb dX4_findWalks_82 (by decide) ?_
          refine lv_iadd hx hb dX4_findWalks_83 ?_
          refine va_put (ci := 4) (v := .int (x_walks + (1 : Int32))) (ty := .int) (C := RX4) (T := TX4) (N := 5) hx hb hts iw_X4 tyX4 tyX4_ok nmX4 hown hK hP hD hS 0 rfl rfl 4 (by decide) (hts (.fieldLink RX4 44 "WalkersSay$Text" "walks" "I") q_d690d8a3) (fun _ h9 => h9) rfl (by decide +kernel) rfl rfl (Nat.le_of_ble_eq_true rfl) dX4_findWalks_84 (fun H locs hP hD hS => ?_)
          have hP : va_P D vwCl [(a 0, .inr (4, [.ref (a 1), .ref (a 2), .ref (a 3), .int x_length, .int (x_walks + (1 : Int32))])), (a 1, .inl (cyB, 300, .inl x_bytes)), (a 2, .inl (cyI, 10, .inl x_start)), (a 3, .inl (cyI, 9, .inl x_turnings))] H := hP
          have hD : va_D A [(a 0, .inr (4, [.ref (a 1), .ref (a 2), .ref (a 3), .int x_length, .int (x_walks + (1 : Int32))])), (a 1, .inl (cyB, 300, .inl x_bytes)), (a 2, .inl (cyI, 10, .inl x_start)), (a 3, .inl (cyI, 9, .inl x_turnings))] := hD
          refine lv_aload_n hx hb dX4_findWalks_87 rfl (lv_at hl 0 rfl) ?_
          refine va_get (ci := 4) (v := .ref (a 2)) (C := RX4) (T := TX4) (N := 5) hx hb hts iw_X4 hown hK hP 0 rfl rfl 1 (by decide) (hts (.fieldLink RX4 15 "WalkersSay$Text" "start" "[I") q_6987cf1c) (fun _ h9 => h9) rfl dX4_findWalks_88 ?_
          refine lv_aload_n hx hb dX4_findWalks_91 rfl (lv_at hl 0 rfl) ?_
          refine va_get (ci := 4) (v := .int (x_walks + (1 : Int32))) (C := RX4) (T := TX4) (N := 5) hx hb hts iw_X4 hown hK hP 0 rfl rfl 4 (by decide) (hts (.fieldLink RX4 44 "WalkersSay$Text" "walks" "I") q_d690d8a3) (fun _ h9 => h9) rfl dX4_findWalks_92 ?_
          refine lv_iload_n hx hb dX4_findWalks_95 rfl (lv_at hl 1 rfl) ?_
          refine lv_iconst (v := (1 : Int32)) hx hb dX4_findWalks_96 (by decide) ?_
          refine lv_iadd hx hb dX4_findWalks_97 ?_
          obtain ⟨hc0, hw⟩ := hw
          refine va_iast hx hb hK hP hD hS 2 0 rfl rfl hc0 dX4_findWalks_98 (fun H locs hP hD hS => ?_)
          have hP : va_P D vwCl [(a 0, .inr (4, [.ref (a 1), .ref (a 2), .ref (a 3), .int x_length, .int (x_walks + (1 : Int32))])), (a 1, .inl (cyB, 300, .inl x_bytes)), (a 2, .inl (cyI, 10, .inl (upd x_start (x_walks + (1 : Int32)).toNatClampNeg (L1 + (1 : Int32))))), (a 3, .inl (cyI, 9, .inl x_turnings))] H := hP
          have hD : va_D A [(a 0, .inr (4, [.ref (a 1), .ref (a 2), .ref (a 3), .int x_length, .int (x_walks + (1 : Int32))])), (a 1, .inl (cyB, 300, .inl x_bytes)), (a 2, .inl (cyI, 10, .inl (upd x_start (x_walks + (1 : Int32)).toNatClampNeg (L1 + (1 : Int32))))), (a 3, .inl (cyI, 9, .inl x_turnings))] := hD
          refine lv_aload_n hx hb dX4_findWalks_99 rfl (lv_at hl 0 rfl) ?_
          refine va_get (ci := 4) (v := .int (x_walks + (1 : Int32))) (C := RX4) (T := TX4) (N := 5) hx hb hts iw_X4 hown hK hP 0 rfl rfl 4 (by decide) (hts (.fieldLink RX4 44 "WalkersSay$Text" "walks" "I") q_d690d8a3) (fun _ h9 => h9) rfl dX4_findWalks_100 ?_
          refine lv_bipush (v := (9 : Int32)) hx hb dX4_findWalks_103 (by decide) ?_
          refine lv_icmp_ge (tgt := 118) hx hb dX4_findWalks_105 (by decide) (fun hc => ?_) (fun hc => ?_)
          · have hw := hw.1 hc
            refine lv_iinc (v := (L1 + 1)) (lv' := [(1, .int (L1 + 1)), (0, .ref (a 0))]) hx hb dX4_findWalks_118 hl (k := 1) rfl rfl (by decide) rfl (fun ls hl => ?_)
            refine lv_goto (tgt := 21) hx hb dX4_findWalks_121 (by decide) ?_
            exact hk_21 (L1 + 1) (x_bytes, (upd x_start (x_walks + (1 : Int32)).toNatClampNeg (L1 + (1 : Int32))), x_turnings, x_length, (x_walks + (1 : Int32))) _ _ _ hw ⟨hK, hP, hD, hS⟩ (lv_sub hl [1, 0] rfl)
          · have hw := hw.2 hc
            refine lv_aload_n hx hb dX4_findWalks_108 rfl (lv_at hl 0 rfl) ?_
            refine va_get (ci := 4) (v := .ref (a 3)) (C := RX4) (T := TX4) (N := 5) hx hb hts iw_X4 hown hK hP 0 rfl rfl 2 (by decide) (hts (.fieldLink RX4 19 "WalkersSay$Text" "turnings" "[I") q_4b0606d1) (fun _ h9 => h9) rfl dX4_findWalks_109 ?_
            refine lv_aload_n hx hb dX4_findWalks_112 rfl (lv_at hl 0 rfl) ?_
            refine va_get (ci := 4) (v := .int (x_walks + (1 : Int32))) (C := RX4) (T := TX4) (N := 5) hx hb hts iw_X4 hown hK hP 0 rfl rfl 4 (by decide) (hts (.fieldLink RX4 44 "WalkersSay$Text" "walks" "I") q_d690d8a3) (fun _ h9 => h9) rfl dX4_findWalks_113 ?_
            refine lv_iconst (v := (0 : Int32)) hx hb dX4_findWalks_116 (by decide) ?_
            obtain ⟨hc0, hw⟩ := hw
            refine va_iast hx hb hK hP hD hS 3 0 rfl rfl hc0 dX4_findWalks_117 (fun H locs hP hD hS => ?_)
            have hP : va_P D vwCl [(a 0, .inr (4, [.ref (a 1), .ref (a 2), .ref (a 3), .int x_length, .int (x_walks + (1 : Int32))])), (a 1, .inl (cyB, 300, .inl x_bytes)), (a 2, .inl (cyI, 10, .inl (upd x_start (x_walks + (1 : Int32)).toNatClampNeg (L1 + (1 : Int32))))), (a 3, .inl (cyI, 9, .inl (upd x_turnings (x_walks + (1 : Int32)).toNatClampNeg (0 : Int32))))] H := hP
            have hD : va_D A [(a 0, .inr (4, [.ref (a 1), .ref (a 2), .ref (a 3), .int x_length, .int (x_walks + (1 : Int32))])), (a 1, .inl (cyB, 300, .inl x_bytes)), (a 2, .inl (cyI, 10, .inl (upd x_start (x_walks + (1 : Int32)).toNatClampNeg (L1 + (1 : Int32))))), (a 3, .inl (cyI, 9, .inl (upd x_turnings (x_walks + (1 : Int32)).toNatClampNeg (0 : Int32))))] := hD
            refine lv_iinc (v := (L1 + 1)) (lv' := [(1, .int (L1 + 1)), (0, .ref (a 0))]) hx hb dX4_findWalks_118 hl (k := 1) rfl rfl (by decide) rfl (fun ls hl => ?_)
            refine lv_goto (tgt := 21) hx hb dX4_findWalks_121 (by decide) ?_
            exact hk_21 (L1 + 1) (x_bytes, (upd x_start (x_walks + (1 : Int32)).toNatClampNeg (L1 + (1 : Int32))), (upd x_turnings (x_walks + (1 : Int32)).toNatClampNeg (0 : Int32)), x_length, (x_walks + (1 : Int32))) _ _ _ hw ⟨hK, hP, hD, hS⟩ (lv_sub hl [1, 0] rfl)
      · have hw := hw.2 hc
        refine lv_aload_n hx hb dX4_findWalks_50 rfl (lv_at hl 0 rfl) ?_
        refine va_get (ci := 4) (v := .ref (a 3)) (C := RX4) (T := TX4) (N := 5) hx hb hts iw_X4 hown hK hP 0 rfl rfl 2 (by decide) (hts (.fieldLink RX4 19 "WalkersSay$Text" "turnings" "[I") q_4b0606d1) (fun _ h9 => h9) rfl dX4_findWalks_51 ?_
        refine lv_aload_n hx hb dX4_findWalks_54 rfl (lv_at hl 0 rfl) ?_
        refine va_get (ci := 4) (v := .int x_walks) (C := RX4) (T := TX4) (N := 5) hx hb hts iw_X4 hown hK hP 0 rfl rfl 4 (by decide) (hts (.fieldLink RX4 44 "WalkersSay$Text" "walks" "I") q_d690d8a3) (fun _ h9 => h9) rfl dX4_findWalks_55 ?_
        refine lv_dup2_11 hx hb dX4_findWalks_58 rfl rfl ?_
        obtain ⟨hc0, hw⟩ := hw
        refine va_iald hx hb hK hP 3 0 rfl rfl hc0 dX4_findWalks_59 ?_
        refine lv_iconst (v := (1 : Int32)) hx hb dX4_findWalks_60 (by decide) ?_
        refine lv_iadd hx hb dX4_findWalks_61 ?_
        obtain ⟨hc0, hw⟩ := hw
        refine va_iast hx hb hK hP hD hS 3 0 rfl rfl hc0 dX4_findWalks_62 (fun H locs hP hD hS => ?_)
        have hP : va_P D vwCl [(a 0, .inr (4, [.ref (a 1), .ref (a 2), .ref (a 3), .int x_length, .int x_walks])), (a 1, .inl (cyB, 300, .inl x_bytes)), (a 2, .inl (cyI, 10, .inl x_start)), (a 3, .inl (cyI, 9, .inl (upd x_turnings x_walks.toNatClampNeg ((x_turnings x_walks.toNatClampNeg) + (1 : Int32)))))] H := hP
        have hD : va_D A [(a 0, .inr (4, [.ref (a 1), .ref (a 2), .ref (a 3), .int x_length, .int x_walks])), (a 1, .inl (cyB, 300, .inl x_bytes)), (a 2, .inl (cyI, 10, .inl x_start)), (a 3, .inl (cyI, 9, .inl (upd x_turnings x_walks.toNatClampNeg ((x_turnings x_walks.toNatClampNeg) + (1 : Int32)))))] := hD
        refine lv_goto (tgt := 118) hx hb dX4_findWalks_63 (by decide) ?_
        refine lv_iinc (v := (L1 + 1)) (lv' := [(1, .int (L1 + 1)), (0, .ref (a 0))]) hx hb dX4_findWalks_118 hl (k := 1) rfl rfl (by decide) rfl (fun ls hl => ?_)
        refine lv_goto (tgt := 21) hx hb dX4_findWalks_121 (by decide) ?_
        exact hk_21 (L1 + 1) (x_bytes, x_start, (upd x_turnings x_walks.toNatClampNeg ((x_turnings x_walks.toNatClampNeg) + (1 : Int32))), x_length, x_walks) _ _ _ hw ⟨hK, hP, hD, hS⟩ (lv_sub hl [1, 0] rfl)
theorem ctX4_findWalks_H21 {p : Program} {l : Launch} {e : Env} {s : State} {m : MethodId} {args : Array Value} {below : List Frame} {meth : Method} {c : Code} {A : Nat → Prop} {D : va_G} {cyI cyB cyZ cyT : ClassId} {a : Nat → Nat} {F : Nat} {Q : SX4 → Prop} (C0 : kCtx cX4_findWalks none RX4 2 p s m args meth c A) : ∀ n : Nat, ∀ (L1 : Int32) (g : SX4) (H : Heap) (locs : List Loc) (ls : Array Slot), wX4_findWalks_H21 F Q n L1 g → kWd D (kTy cyI cyB cyZ cyT) (wdX4_findWalks cyI cyB cyZ cyT a   g) A s H locs → lv_has ls 2 [(0, .ref (a 0)), (1, .int L1)] → W p l e rmX4_findWalks s m args below meth c H locs 0 0 (MQ below (qX4_findWalks D cyI cyB cyZ cyT a Q A) args s 0 0 A) (F0 m 21 ls []) := by
  intro n
  induction n with
  | zero => intro L1 g H locs ls hw hW hl; exact hw.elim
  | succ n ih => intro L1 g H locs ls hw hW hl; exact ctX4_findWalks_b21 (F := F) C0 ih L1 g H locs ls hw hW hl
set_option maxHeartbeats 4000000 in
set_option maxRecDepth 100000 in
theorem ctX4_findWalks (l : Launch) (D : va_G) (cyI cyB cyZ cyT : ClassId) (a : Nat → Nat) (F : Nat) (g : SX4) (Q : SX4 → Prop) : kMv (S := SX4) l yX4_findWalks (kM yX4_findWalks cX4_findWalks 2 none) rmX4_findWalks D (kTy cyI cyB cyZ cyT) [.ref (a 0)] (wdX4_findWalks cyI cyB cyZ cyT a   g) (wX4_findWalks F g Q) (fun u => Q u) (fun u : SX4 => (wdX4_findWalks cyI cyB cyZ cyT a   u)) := by
  refine kMv.of (cc := cX4_findWalks) (maxL := 2) (ret := none) (by decide) (Nat.le_of_ble_eq_true rfl) ?_
  intro p e s m below meth c A C0 hw hW ls hl
  obtain ⟨hx, hb, hr, hts, hown, hml, hlocks, hA, hN⟩ := id C0
  have hown : s.vm.findClass RX4 = some m.cls := hown
  obtain ⟨hK, hP, hD, hS⟩ := hW
  obtain ⟨x_bytes, x_start, x_turnings, x_length, x_walks⟩ := g
  have hP : va_P D vwCl [(a 0, .inr (4, [.ref (a 1), .ref (a 2), .ref (a 3), .int x_length, .int x_walks])), (a 1, .inl (cyB, 300, .inl x_bytes)), (a 2, .inl (cyI, 10, .inl x_start)), (a 3, .inl (cyI, 9, .inl x_turnings))] s.heap := hP
  have hD : va_D A [(a 0, .inr (4, [.ref (a 1), .ref (a 2), .ref (a 3), .int x_length, .int x_walks])), (a 1, .inl (cyB, 300, .inl x_bytes)), (a 2, .inl (cyI, 10, .inl x_start)), (a 3, .inl (cyI, 9, .inl x_turnings))] := hD
  have hl : lv_has ls 2 [(0, .ref (a 0))] := hl
  refine lv_aload_n hx hb dX4_findWalks_0 rfl (lv_at hl 0 rfl) ?_
  refine lv_iconst (v := (0 : Int32)) hx hb dX4_findWalks_1 (by decide) ?_
  refine va_put (ci := 4) (v := .int (0 : Int32)) (ty := .int) (C := RX4) (T := TX4) (N := 5) hx hb hts iw_X4 tyX4 tyX4_ok nmX4 hown hK hP hD hS 0 rfl rfl 4 (by decide) (hts (.fieldLink RX4 44 "WalkersSay$Text" "walks" "I") q_d690d8a3) (fun _ h9 => h9) rfl (by decide +kernel) rfl rfl (Nat.le_of_ble_eq_true rfl) dX4_findWalks_2 (fun H locs hP hD hS => ?_)
  have hP : va_P D vwCl [(a 0, .inr (4, [.ref (a 1), .ref (a 2), .ref (a 3), .int x_length, .int (0 : Int32)])), (a 1, .inl (cyB, 300, .inl x_bytes)), (a 2, .inl (cyI, 10, .inl x_start)), (a 3, .inl (cyI, 9, .inl x_turnings))] H := hP
  have hD : va_D A [(a 0, .inr (4, [.ref (a 1), .ref (a 2), .ref (a 3), .int x_length, .int (0 : Int32)])), (a 1, .inl (cyB, 300, .inl x_bytes)), (a 2, .inl (cyI, 10, .inl x_start)), (a 3, .inl (cyI, 9, .inl x_turnings))] := hD
  refine lv_aload_n hx hb dX4_findWalks_5 rfl (lv_at hl 0 rfl) ?_
  refine va_get (ci := 4) (v := .ref (a 2)) (C := RX4) (T := TX4) (N := 5) hx hb hts iw_X4 hown hK hP 0 rfl rfl 1 (by decide) (hts (.fieldLink RX4 15 "WalkersSay$Text" "start" "[I") q_6987cf1c) (fun _ h9 => h9) rfl dX4_findWalks_6 ?_
  refine lv_iconst (v := (0 : Int32)) hx hb dX4_findWalks_9 (by decide) ?_
  refine lv_iconst (v := (0 : Int32)) hx hb dX4_findWalks_10 (by decide) ?_
  obtain ⟨hc0, hw⟩ := hw
  refine va_iast hx hb hK hP hD hS 2 0 rfl rfl hc0 dX4_findWalks_11 (fun H locs hP hD hS => ?_)
  have hP : va_P D vwCl [(a 0, .inr (4, [.ref (a 1), .ref (a 2), .ref (a 3), .int x_length, .int (0 : Int32)])), (a 1, .inl (cyB, 300, .inl x_bytes)), (a 2, .inl (cyI, 10, .inl (upd x_start (0 : Int32).toNatClampNeg (0 : Int32)))), (a 3, .inl (cyI, 9, .inl x_turnings))] H := hP
  have hD : va_D A [(a 0, .inr (4, [.ref (a 1), .ref (a 2), .ref (a 3), .int x_length, .int (0 : Int32)])), (a 1, .inl (cyB, 300, .inl x_bytes)), (a 2, .inl (cyI, 10, .inl (upd x_start (0 : Int32).toNatClampNeg (0 : Int32)))), (a 3, .inl (cyI, 9, .inl x_turnings))] := hD
  refine lv_aload_n hx hb dX4_findWalks_12 rfl (lv_at hl 0 rfl) ?_
  refine va_get (ci := 4) (v := .ref (a 3)) (C := RX4) (T := TX4) (N := 5) hx hb hts iw_X4 hown hK hP 0 rfl rfl 2 (by decide) (hts (.fieldLink RX4 19 "WalkersSay$Text" "turnings" "[I") q_4b0606d1) (fun _ h9 => h9) rfl dX4_findWalks_13 ?_
  refine lv_iconst (v := (0 : Int32)) hx hb dX4_findWalks_16 (by decide) ?_
  refine lv_iconst (v := (0 : Int32)) hx hb dX4_findWalks_17 (by decide) ?_
  obtain ⟨hc0, hw⟩ := hw
  refine va_iast hx hb hK hP hD hS 3 0 rfl rfl hc0 dX4_findWalks_18 (fun H locs hP hD hS => ?_)
  have hP : va_P D vwCl [(a 0, .inr (4, [.ref (a 1), .ref (a 2), .ref (a 3), .int x_length, .int (0 : Int32)])), (a 1, .inl (cyB, 300, .inl x_bytes)), (a 2, .inl (cyI, 10, .inl (upd x_start (0 : Int32).toNatClampNeg (0 : Int32)))), (a 3, .inl (cyI, 9, .inl (upd x_turnings (0 : Int32).toNatClampNeg (0 : Int32))))] H := hP
  have hD : va_D A [(a 0, .inr (4, [.ref (a 1), .ref (a 2), .ref (a 3), .int x_length, .int (0 : Int32)])), (a 1, .inl (cyB, 300, .inl x_bytes)), (a 2, .inl (cyI, 10, .inl (upd x_start (0 : Int32).toNatClampNeg (0 : Int32)))), (a 3, .inl (cyI, 9, .inl (upd x_turnings (0 : Int32).toNatClampNeg (0 : Int32))))] := hD
  refine lv_iconst (v := (0 : Int32)) hx hb dX4_findWalks_19 (by decide) ?_
  refine lv_istore_n (lv' := [(1, .int (0 : Int32)), (0, .ref (a 0))]) hx hb dX4_findWalks_20 rfl hl (by decide) rfl (fun ls hl => ?_)
  exact ctX4_findWalks_H21 (F := F) C0 F (0 : Int32) (x_bytes, (upd x_start (0 : Int32).toNatClampNeg (0 : Int32)), (upd x_turnings (0 : Int32).toNatClampNeg (0 : Int32)), x_length, (0 : Int32)) _ _ _ hw ⟨hK, hP, hD, hS⟩ (lv_sub hl [1, 0] rfl)
-- ===== RX4.allTurnings()I
abbrev wdX4_allTurnings (cyI cyB cyZ cyT : ClassId) (a : Nat → Nat) (g : SX4) : va_W := [(a 0, .inr (4, [.ref (a 1), .ref (a 2), .ref (a 3), .int g.x_length, .int g.x_walks])), (a 1, .inl (cyB, 300, .inl g.x_bytes)), (a 2, .inl (cyI, 10, .inl g.x_start)), (a 3, .inl (cyI, 9, .inl g.x_turnings))]
abbrev rmX4_allTurnings : Room := { frames := 0, cells := 0, slots := 0, locals := 0 }
abbrev qX4_allTurnings (D : va_G) (cyI cyB cyZ cyT : ClassId) (a : Nat → Nat) (g : SX4) (Q : Int32 → Prop) (A : Nat → Prop) : Array Value → State → Outcome → State → Prop := va_Qi (S := Unit) (fun r _ => Q r) (kB D (kTy cyI cyB cyZ cyT) (fun u : Unit => (wdX4_allTurnings cyI cyB cyZ cyT a   g)) A) A
def wX4_allTurnings_b4 (F : Nat) (g : SX4) (Q : Int32 → Prop)  (K_4 : Int32 → Int32 → Prop) (L1 : Int32) (L2 : Int32) : Prop := ((g.x_walks ≤ L2 → (Q L1)) ∧ (¬ (g.x_walks ≤ L2) → (vp_in L2 9) ∧ (K_4 (L1 + (g.x_turnings L2.toNatClampNeg)) (L2 + 1))))
def wX4_allTurnings_H4 (F : Nat) (g : SX4) (Q : Int32 → Prop)  : Nat → Int32 → Int32 → Prop
  | 0 => fun _ _ => False
  | n + 1 => fun L1 L2 => wX4_allTurnings_b4 F g Q (wX4_allTurnings_H4 F g Q n) L1 L2
def wX4_allTurnings (F : Nat) (g : SX4) (Q : Int32 → Prop) : Prop := (wX4_allTurnings_H4 F g Q F (0 : Int32) (0 : Int32))
set_option maxHeartbeats 4000000 in
set_option maxRecDepth 100000 in
theorem ctX4_allTurnings_b4 {p : Program} {l : Launch} {e : Env} {s : State} {m : MethodId} {args : Array Value} {below : List Frame} {meth : Method} {c : Code} {A : Nat → Prop} {D : va_G} {cyI cyB cyZ cyT : ClassId} {a : Nat → Nat} {F : Nat} {g : SX4} {Q : Int32 → Prop} {K_4 : Int32 → Int32 → Prop} (C0 : kCtx cX4_allTurnings (some .int) RX4 3 p s m args meth c A) (hk_4 : ∀ (L1 : Int32) (L2 : Int32) (H : Heap) (locs : List Loc) (ls : Array Slot), K_4 L1 L2 → kWd D (kTy cyI cyB cyZ cyT) (wdX4_allTurnings cyI cyB cyZ cyT a   g) A s H locs → lv_has ls 3 [(0, .ref (a 0)), (1, .int L1), (2, .int L2)] → W p l e rmX4_allTurnings s m args below meth c H locs 0 0 (MQ below (qX4_allTurnings D cyI cyB cyZ cyT a g Q A) args s 0 0 A) (F0 m 4 ls [])) : ∀ (L1 : Int32) (L2 : Int32) (H : Heap) (locs : List Loc) (ls : Array Slot), wX4_allTurnings_b4 F g Q K_4 L1 L2 → kWd D (kTy cyI cyB cyZ cyT) (wdX4_allTurnings cyI cyB cyZ cyT a   g) A s H locs → lv_has ls 3 [(0, .ref (a 0)), (1, .int L1), (2, .int L2)] → W p l e rmX4_allTurnings s m args below meth c H locs 0 0 (MQ below (qX4_allTurnings D cyI cyB cyZ cyT a g Q A) args s 0 0 A) (F0 m 4 ls []) := by
  intro L1 L2 H locs ls hw hW hl
  obtain ⟨hx, hb, hr, hts, hown, hml, hlocks, hA, hN⟩ := id C0
  obtain ⟨hK, hP, hD, hS⟩ := hW
  obtain ⟨x_bytes, x_start, x_turnings, x_length, x_walks⟩ := g
  have hP : va_P D vwCl [(a 0, .inr (4, [.ref (a 1), .ref (a 2), .ref (a 3), .int x_length, .int x_walks])), (a 1, .inl (cyB, 300, .inl x_bytes)), (a 2, .inl (cyI, 10, .inl x_start)), (a 3, .inl (cyI, 9, .inl x_turnings))] H := hP
  have hD : va_D A [(a 0, .inr (4, [.ref (a 1), .ref (a 2), .ref (a 3), .int x_length, .int x_walks])), (a 1, .inl (cyB, 300, .inl x_bytes)), (a 2, .inl (cyI, 10, .inl x_start)), (a 3, .inl (cyI, 9, .inl x_turnings))] := hD
  refine lv_iload_n hx hb dX4_allTurnings_4 rfl (lv_at hl 2 rfl) ?_
  refine lv_aload_n hx hb dX4_allTurnings_5 rfl (lv_at hl 0 rfl) ?_
  refine va_get (ci := 4) (v := .int x_walks) (C := RX4) (T := TX4) (N := 5) hx hb hts iw_X4 hown hK hP 0 rfl rfl 4 (by decide) (hts (.fieldLink RX4 44 "WalkersSay$Text" "walks" "I") q_d690d8a3) (fun _ h9 => h9) rfl dX4_allTurnings_6 ?_
  refine lv_icmp_ge (tgt := 27) hx hb dX4_allTurnings_9 (by decide) (fun hc => ?_) (fun hc => ?_)
  · have hw := hw.1 hc
    refine lv_iload_n hx hb dX4_allTurnings_27 rfl (lv_at hl 1 rfl) ?_
    exact W.iret (v := L1) hx hb hr (fun t ht hWm => ⟨⟨L1, (), rfl, hw, by rw [ht]; exact hP, va_K.moved hWm.alike hK, hD⟩, hS.F ht⟩) hS.2.2 dX4_allTurnings_28
  · have hw := hw.2 hc
    refine lv_iload_n hx hb dX4_allTurnings_12 rfl (lv_at hl 1 rfl) ?_
    refine lv_aload_n hx hb dX4_allTurnings_13 rfl (lv_at hl 0 rfl) ?_
    refine va_get (ci := 4) (v := .ref (a 3)) (C := RX4) (T := TX4) (N := 5) hx hb hts iw_X4 hown hK hP 0 rfl rfl 2 (by decide) (hts (.fieldLink RX4 19 "WalkersSay$Text" "turnings" "[I") q_4b0606d1) (fun _ h9 => h9) rfl dX4_allTurnings_14 ?_
    refine lv_iload_n hx hb dX4_allTurnings_17 rfl (lv_at hl 2 rfl) ?_
    obtain ⟨hc0, hw⟩ := hw
    refine va_iald hx hb hK hP 3 0 rfl rfl hc0 dX4_allTurnings_18 ?_
    refine lv_iadd hx hb dX4_allTurnings_19 ?_
    refine lv_istore_n (lv' := [(1, .int (L1 + (x_turnings L2.toNatClampNeg))), (0, .ref (a 0)), (2, .int L2)]) hx hb dX4_allTurnings_20 rfl hl (by decide) rfl (fun ls hl => ?_)
    refine lv_iinc (v := (L2 + 1)) (lv' := [(2, .int (L2 + 1)), (1, .int (L1 + (x_turnings L2.toNatClampNeg))), (0, .ref (a 0))]) hx hb dX4_allTurnings_21 hl (k := 2) rfl rfl (by decide) rfl (fun ls hl => ?_)
    refine lv_goto (tgt := 4) hx hb dX4_allTurnings_24 (by decide) ?_
    exact hk_4 (L1 + (x_turnings L2.toNatClampNeg)) (L2 + 1) _ _ _ hw ⟨hK, hP, hD, hS⟩ (lv_sub hl [2, 1, 0] rfl)
theorem ctX4_allTurnings_H4 {p : Program} {l : Launch} {e : Env} {s : State} {m : MethodId} {args : Array Value} {below : List Frame} {meth : Method} {c : Code} {A : Nat → Prop} {D : va_G} {cyI cyB cyZ cyT : ClassId} {a : Nat → Nat} {F : Nat} {g : SX4} {Q : Int32 → Prop} (C0 : kCtx cX4_allTurnings (some .int) RX4 3 p s m args meth c A) : ∀ n : Nat, ∀ (L1 : Int32) (L2 : Int32) (H : Heap) (locs : List Loc) (ls : Array Slot), wX4_allTurnings_H4 F g Q n L1 L2 → kWd D (kTy cyI cyB cyZ cyT) (wdX4_allTurnings cyI cyB cyZ cyT a   g) A s H locs → lv_has ls 3 [(0, .ref (a 0)), (1, .int L1), (2, .int L2)] → W p l e rmX4_allTurnings s m args below meth c H locs 0 0 (MQ below (qX4_allTurnings D cyI cyB cyZ cyT a g Q A) args s 0 0 A) (F0 m 4 ls []) := by
  intro n
  induction n with
  | zero => intro L1 L2 H locs ls hw hW hl; exact hw.elim
  | succ n ih => intro L1 L2 H locs ls hw hW hl; exact ctX4_allTurnings_b4 (F := F) C0 ih L1 L2 H locs ls hw hW hl
set_option maxHeartbeats 4000000 in
set_option maxRecDepth 100000 in
theorem ctX4_allTurnings (l : Launch) (D : va_G) (cyI cyB cyZ cyT : ClassId) (a : Nat → Nat) (F : Nat) (g : SX4) (Q : Int32 → Prop) : kMi (S := Unit) l yX4_allTurnings (kM yX4_allTurnings cX4_allTurnings 3 (some .int)) rmX4_allTurnings D (kTy cyI cyB cyZ cyT) [.ref (a 0)] (wdX4_allTurnings cyI cyB cyZ cyT a   g) (wX4_allTurnings F g Q) (fun r _ => Q r) (fun u : Unit => (wdX4_allTurnings cyI cyB cyZ cyT a   g)) := by
  refine kMi.of (cc := cX4_allTurnings) (maxL := 3) (ret := (some .int)) (by decide) (Nat.le_of_ble_eq_true rfl) ?_
  intro p e s m below meth c A C0 hw hW ls hl
  obtain ⟨hx, hb, hr, hts, hown, hml, hlocks, hA, hN⟩ := id C0
  have hown : s.vm.findClass RX4 = some m.cls := hown
  obtain ⟨hK, hP, hD, hS⟩ := hW
  obtain ⟨x_bytes, x_start, x_turnings, x_length, x_walks⟩ := g
  have hP : va_P D vwCl [(a 0, .inr (4, [.ref (a 1), .ref (a 2), .ref (a 3), .int x_length, .int x_walks])), (a 1, .inl (cyB, 300, .inl x_bytes)), (a 2, .inl (cyI, 10, .inl x_start)), (a 3, .inl (cyI, 9, .inl x_turnings))] s.heap := hP
  have hD : va_D A [(a 0, .inr (4, [.ref (a 1), .ref (a 2), .ref (a 3), .int x_length, .int x_walks])), (a 1, .inl (cyB, 300, .inl x_bytes)), (a 2, .inl (cyI, 10, .inl x_start)), (a 3, .inl (cyI, 9, .inl x_turnings))] := hD
  have hl : lv_has ls 3 [(0, .ref (a 0))] := hl
  refine lv_iconst (v := (0 : Int32)) hx hb dX4_allTurnings_0 (by decide) ?_
  refine lv_istore_n (lv' := [(1, .int (0 : Int32)), (0, .ref (a 0))]) hx hb dX4_allTurnings_1 rfl hl (by decide) rfl (fun ls hl => ?_)
  refine lv_iconst (v := (0 : Int32)) hx hb dX4_allTurnings_2 (by decide) ?_
  refine lv_istore_n (lv' := [(2, .int (0 : Int32)), (1, .int (0 : Int32)), (0, .ref (a 0))]) hx hb dX4_allTurnings_3 rfl hl (by decide) rfl (fun ls hl => ?_)
  exact ctX4_allTurnings_H4 (F := F) C0 F (0 : Int32) (0 : Int32) _ _ _ hw ⟨hK, hP, hD, hS⟩ (lv_sub hl [2, 1, 0] rfl)
