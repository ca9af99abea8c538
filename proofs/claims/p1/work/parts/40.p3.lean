theorem write6_loop {F : Nat} {Q : Int32 → SX4 → Prop} {v : Int64} : ∀ (i n : Nat) (g : SX4) (len : Nat), i < n → i ≤ 8 → g.x_length = nI len → len + i ≤ 300 → (∀ g' : SX4, g'.x_length = nI (len + i) → Q (nI (len + i)) g') → wX6_write_H39 F Q n v ((8 : Int32) * (nI i - 1)) g
  | i, 0, _, _, h, _, _, _, _ => absurd h (Nat.not_lt_zero _)
  | 0, n + 1, g, len, _, _, hg, _, hq => ⟨fun _ => by show Q g.x_length g; rw [hg]; exact hq g hg, fun hc => absurd (by decide) hc⟩
  | i + 1, n + 1, g, len, hn, hi, hg, hl, hq => by
    have e : (8 : Int32) * (nI (i + 1) - 1) = nI (8 * i) := by rw [nI_pred, show (8 : Int32) = nI 8 from rfl, pk_mul]
    have e2 : nI (8 * i) + (-8) = (8 : Int32) * (nI i - 1) := by
      rw [← pk_mul]
      show (8 : Int32) * nI i + (-8) = (8 : Int32) * (nI i - 1)
      grind
    refine ⟨fun hc => absurd hc (by rw [e]; exact nI_pos (by omega)), fun _ => ⟨fun hc => absurd hc ?_, fun _ => ⟨?_, ?_⟩⟩⟩
    · rw [hg, show (300 : Int32) = nI 300 from rfl]; exact nI_ge (by omega) (by omega)
    · rw [hg]; exact vp_in_nI (by omega) (by omega)
    · show wX6_write_H39 F Q n v ((8 : Int32) * (nI (i + 1) - 1) + (-8)) _
      rw [e, e2]
      refine write6_loop i n _ (len + 1) (by omega) (by omega) ?_ (by omega) (fun g' h => ?_)
      · show g.x_length + 1 = nI (len + 1)
        rw [hg, nI_1]
      · have e3 : len + 1 + i = len + (i + 1) := by omega
        rw [e3] at h ⊢
        exact hq g' h
theorem write7_loop {F : Nat} {Q : Int32 → SX7_text → Prop} {v : Int64} : ∀ (i n : Nat) (g : SX7_text) (len : Nat), i < n → i ≤ 8 → g.x_length = nI len → len + i ≤ 300 → (∀ g' : SX7_text, g'.x_length = nI (len + i) → Q (nI (len + i)) g') → wX7_write_H34 F Q n v (nI i - 1) g
  | i, 0, _, _, h, _, _, _, _ => absurd h (Nat.not_lt_zero _)
  | 0, n + 1, g, len, _, _, hg, _, hq => ⟨fun _ => by show Q g.x_length g; rw [hg]; exact hq g hg, fun hc => absurd (by decide) hc⟩
  | i + 1, n + 1, g, len, hn, hi, hg, hl, hq => by
    have e2 : nI i + (-1) = nI i - 1 := by grind
    refine ⟨fun hc => absurd hc (by rw [nI_pred]; exact nI_pos (by omega)), fun _ => ⟨?_, ?_⟩⟩
    · rw [hg]; exact vp_in_nI (by omega) (by omega)
    · show wX7_write_H34 F Q n v (nI (i + 1) - 1 + (-1)) _
      rw [nI_pred, e2]
      refine write7_loop i n _ (len + 1) (by omega) (by omega) ?_ (by omega) (fun g' h => ?_)
      · show g.x_length + 1 = nI (len + 1)
        rw [hg, nI_1]
      · have e3 : len + 1 + i = len + (i + 1) := by omega
        rw [e3] at h ⊢
        exact hq g' h
theorem v_X6_write {p1 : Int32} {p2 : Int64} {Q : Int32 → SX4 → Prop} (h1 : (p1 < 1 ∨ ¬ p1 ≤ 8) → ∀ g, Q (-1) g) (h2 : ¬ p1 < 1 → p1 ≤ 8 → ∀ g, Q p1 g) : wX6_write kFuel iSX4 p1 p2 Q := by
  refine ⟨fun a => h1 (Or.inl a) _, fun a => ⟨fun b => ?_, fun b => h1 (Or.inr b) _⟩⟩
  have hc := h2 a b
  obtain ⟨j, hj, rfl⟩ := nI_of2 (n := 8) (M := 8) (x := p1) rfl (fun q => a (by simp only [i32_lt, l32_0, l32_1] at *; omega)) b
  refine ⟨fun _ => write6_loop j kFuel iSX4 0 (by unfold kFuel; omega) hj rfl (by omega) (fun g' _ => ?_), fun q => absurd ?_ q⟩
  · rw [Nat.zero_add]; exact hc g'
  · show (0 : Int32) + nI j ≤ 300
    rw [show (0 : Int32) = nI 0 from rfl, nI_add, show (300 : Int32) = nI 300 from rfl]
    exact nI_le (by omega) (by omega)
theorem v_X7_write {p1 : Int32} {p2 : Int64} {Q : Int32 → SX7_text → Prop} (h1 : (p1 < 1 ∨ ¬ p1 ≤ 8) → ∀ g, Q (-1) g) (h2 : ¬ p1 < 1 → p1 ≤ 8 → ∀ g, Q p1 g) : wX7_write kFuel iSX7_text p1 p2 Q := by
  refine in_ok (fun a b => ?_) (fun a => ?_)
  · have a' : ¬ p1 < 1 := by simp only [i32_lt, i64_lt, i64_w, l32_1, l64_1] at *; omega
    have b' : p1 ≤ 8 := by simp only [i32_le, i64_lt, i64_w, l32_8, l64_8] at *; omega
    have hc := h2 a' b'
    obtain ⟨j, hj, rfl⟩ := nI_of2 (n := 8) (M := 8) (x := p1) rfl (fun q => a' (by simp only [i32_lt, l32_0, l32_1] at *; omega)) b'
    refine ev_nt (by decide) ⟨fun _ => write7_loop j kFuel iSX7_text 0 (by unfold kFuel; omega) hj rfl (by omega) (fun g' _ => ?_), fun q => absurd ?_ q⟩
    · rw [Nat.zero_add]; exact hc g'
    · show (0 : Int32) + nI j ≤ 300
      rw [show (0 : Int32) = nI 0 from rfl, nI_add, show (300 : Int32) = nI 300 from rfl]
      exact nI_le (by omega) (by omega)
  · refine ev_nf rfl (h1 ?_ _)
    simp only [i32_lt, i32_le, i64_lt, i64_w, l32_1, l64_1, l32_8, l64_8] at *
    omega
theorem cr_shr (t : Int64) (x : UInt64) (n : Nat) (hx : x.toNat % 64 = n) : (t.toUInt64 >>> x).toInt64 = 0 ↔ t.toBitVec.toNat < 2 ^ n := by
  rw [← Int64.toBitVec_inj, ← BitVec.toNat_inj]
  show (t.toUInt64 >>> x).toNat = 0 ↔ t.toUInt64.toNat < 2 ^ n
  rw [UInt64.toNat_shiftRight, hx, Nat.shiftRight_eq_div_pow]
  constructor
  · intro h
    have d : t.toUInt64.toNat / 2 ^ n < 1 := by
      rw [h]
      decide
    have e := (Nat.div_lt_iff_lt_mul (Nat.two_pow_pos n)).mp d
    rw [Nat.one_mul] at e
    exact e
  · exact Nat.div_eq_of_lt
theorem lg_le0 {x y : Int64} : lg_cmp x y ≤ 0 ↔ ¬ y < x := by
  rw [← lg_gt, i32_le, i32_lt]
  show _ ↔ ¬ ((0 : Int32).toInt < _)
  rw [l32_0]; omega
theorem lg_eq0 {x y : Int64} : lg_cmp x y = 0 ↔ x = y := by
  unfold lg_cmp
  by_cases h1 : x > y
  · rw [if_pos h1]
    exact ⟨fun h => absurd h (by decide), fun h => absurd h1 (by rw [h]; simp only [GT.gt, i64_lt]; omega)⟩
  · rw [if_neg h1]
    by_cases h2 : x = y
    · rw [if_pos h2]; exact ⟨fun _ => h2, fun _ => rfl⟩
    · rw [if_neg h2]; exact ⟨fun h => absurd h (by decide), fun h => absurd h h2⟩
def nib (v : Int64) (i : Nat) : Int32 := (v >>> (((4 : Int32) * nI i).toInt64 &&& 63)).toInt32 &&& 15
def zro (v : Int64) (k : Nat) : Prop := (v.toUInt64 >>> (((4 : Int32) * nI k).toInt64.toUInt64 &&& Int64.toUInt64 63)).toInt64 = 0
def tvs (v : Int64) (k : Nat) : Prop := (∀ i, i < k → nib v i ≤ 5) ∧ zro v k
theorem nib64 (y : Int64) : (y &&& 15).toInt = ((y.toBitVec.toNat % 16 : Nat) : Int) := by
  have e : (y &&& 15).toBitVec.toNat = y.toBitVec.toNat % 16 := by
    rw [Int64.toBitVec_and, BitVec.toNat_and]
    exact Nat.and_two_pow_sub_one_eq_mod (x := y.toBitVec.toNat) (n := 4)
  show (y &&& 15).toBitVec.toInt = _
  rw [BitVec.toInt_eq_toNat_of_lt (by rw [e]; omega), e]
theorem nib32 (y : Int64) : (y.toInt32 &&& 15).toInt = ((y.toBitVec.toNat % 16 : Nat) : Int) := by
  have e : (y.toInt32 &&& 15).toBitVec.toNat = y.toBitVec.toNat % 16 := by
    rw [Int32.toBitVec_and, BitVec.toNat_and]
    have h1 : (15 : Int32).toBitVec.toNat = 2 ^ 4 - 1 := rfl
    have h2 : y.toInt32.toBitVec.toNat = y.toBitVec.toNat % 2 ^ 32 := by
      rw [Int64.toBitVec_toInt32, BitVec.signExtend_eq_setWidth_of_le _ (by decide), BitVec.toNat_setWidth]
    rw [h1, h2, Nat.and_two_pow_sub_one_eq_mod]
    omega
  show (y.toInt32 &&& 15).toBitVec.toInt = _
  rw [BitVec.toInt_eq_toNat_of_lt (by rw [e]; omega), e]
theorem nib_le (y : Int64) : (y.toInt32 &&& 15) ≤ (5 : Int32) ↔ ¬ (5 : Int64) < (y &&& 15) := by
  rw [i32_le, i64_lt, nib64, nib32, l32_5, l64_5]; omega
theorem isT_loop {F : Nat} {Q : Int32 → Prop} {v : Int64} {k : Nat} (hk : k ≤ 12) (h1 : tvs v k → Q 1) (h0 : ¬ tvs v k → Q 0) : ∀ (j i n : Nat), i + j = k → j < n → (∀ i', i' < i → nib v i' ≤ 5) → wX6_isTurnings_H2 F Q n v (nI k) (nI i)
  | j, i, 0, _, h, _ => absurd h (Nat.not_lt_zero _)
  | 0, i, n + 1, hi, _, hp => by
    have e : i = k := by omega
    subst e
    refine ⟨fun _ => ⟨fun hc => h0 (fun t => hc (lg_eq0.mpr t.2)), fun hc => h1 ⟨hp, lg_eq0.mp hc⟩⟩, fun hc => absurd (nI_le (Nat.le_refl _) (by omega)) hc⟩
  | j + 1, i, n + 1, hi, hn, hp => by
    refine ⟨fun hc => absurd hc (nI_ge (by omega) (by omega)), fun _ => ⟨fun hc => ?_, fun hc => h0 (fun t => hc (t.1 i (by omega)))⟩⟩
    show wX6_isTurnings_H2 F Q n v (nI k) (nI i + 1)
    rw [nI_1]
    refine isT_loop hk h1 h0 j (i + 1) n (by omega) (by omega) (fun i' h => ?_)
    rcases Nat.eq_or_lt_of_le (Nat.le_of_lt_succ h) with e | e
    · subst e; exact hc
    · exact hp i' e
theorem isT_ok {F : Nat} {Q : Int32 → Prop} {v : Int64} {k : Nat} (hF : k < F) (hk : k ≤ 12) (h1 : tvs v k → Q 1) (h0 : ¬ tvs v k → Q 0) : wX6_isTurnings F v (nI k) Q :=
  isT_loop hk h1 h0 k 0 F (by omega) hF (fun i h => absurd h (Nat.not_lt_zero _))
theorem told7_loop {F : Nat} {gl : SX7_laid} {Q : Int32 → SX7_ends → SX7_due → SX7_rec → SX7_cor → SX7_town → SX7_tmp → Prop} {p1 p5 : Int32} {v : Int64} {k : Nat} {ge : SX7_ends} {gd : SX7_due} {gr : SX7_rec} {gc : SX7_cor} {gw : SX7_town} {gm : SX7_tmp} (hk : k ≤ 12)
    (hd : (∀ i, i < k → nib v i ≤ 5) → ∀ n, wX7_told_H55 F gl Q (n + 1) p1 (nI k) v p5 (nI k) ge gd gr gc gw gm) (hb : (¬ ∀ i, i < k → nib v i ≤ 5) → Q (-1) ge gd gr gc gw gm) : ∀ (j i n : Nat), i + j = k → j < n → (∀ i', i' < i → nib v i' ≤ 5) → wX7_told_H55 F gl Q n p1 (nI k) v p5 (nI i) ge gd gr gc gw gm
  | j, i, 0, _, h, _ => absurd h (Nat.not_lt_zero _)
  | 0, i, n + 1, hi, _, hp => by
    have e : i = k := by omega
    subst e
    exact hd hp n
  | j + 1, i, n + 1, hi, hn, hp => by
    refine ⟨fun hc => absurd hc (nI_ge (by omega) (by omega)), fun _ => ⟨fun hc => ?_, fun hc => hb (fun t => hc (lg_le0.mpr ((nib_le _).mp (t i (by omega)))))⟩⟩
    show wX7_told_H55 F gl Q n p1 (nI k) v p5 (nI i + 1) ge gd gr gc gw gm
    rw [nI_1]
    refine told7_loop hk hd hb j (i + 1) n (by omega) (by omega) (fun i' h => ?_)
    rcases Nat.eq_or_lt_of_le (Nat.le_of_lt_succ h) with e | e
    · subst e; exact (nib_le _).mpr (lg_le0.mp hc)
    · exact hp i' e
theorem zro_1 {v : Int64} {x : UInt64} {hi : Int64} {n : Nat} (hn : n ≤ 48) (hx : x.toNat % 64 = n) (hh : hi.toInt = 2 ^ n - 1) : (v.toUInt64 >>> x).toInt64 = 0 ↔ (¬ v < 0 ∧ ¬ hi < v) := by
  have e1 := cr_shr v x n hx
  rw [e1, i64_lt, i64_lt, hh, l64_0]
  have hp : (2 : Nat) ^ n ≤ 2 ^ 48 := Nat.pow_le_pow_right (by decide) hn
  have hv : v.toInt = if 2 * v.toBitVec.toNat < 2 ^ 64 then (v.toBitVec.toNat : Int) else (v.toBitVec.toNat : Int) - (2 ^ 64 : Nat) := BitVec.toInt_eq_toNat_cond v.toBitVec
  have hl := v.toBitVec.isLt
  have hc : ((2 ^ n : Nat) : Int) = (2 : Int) ^ n := by simp
  rw [← hc, hv]
  generalize (2 : Nat) ^ n = N at *
  generalize v.toBitVec.toNat = V at *
  split <;> omega
theorem zro_iff {v : Int64} {k : Nat} (hk : k ≤ 12) : zro v k ↔ (¬ v < 0 ∧ ¬ (((1 : Int64) <<< (((4 : Int32) * nI k).toInt64 &&& 63)) - (1 : Int64)) < v) := by
  unfold zro
  rcases (show k = 0 ∨ k = 1 ∨ k = 2 ∨ k = 3 ∨ k = 4 ∨ k = 5 ∨ k = 6 ∨ k = 7 ∨ k = 8 ∨ k = 9 ∨ k = 10 ∨ k = 11 ∨ k = 12 by omega) with rfl | rfl | rfl | rfl | rfl | rfl | rfl | rfl | rfl | rfl | rfl | rfl | rfl
  · exact zro_1 (n := 0) (by decide) (by decide) (by decide)
  · exact zro_1 (n := 4) (by decide) (by decide) (by decide)
  · exact zro_1 (n := 8) (by decide) (by decide) (by decide)
  · exact zro_1 (n := 12) (by decide) (by decide) (by decide)
  · exact zro_1 (n := 16) (by decide) (by decide) (by decide)
  · exact zro_1 (n := 20) (by decide) (by decide) (by decide)
  · exact zro_1 (n := 24) (by decide) (by decide) (by decide)
  · exact zro_1 (n := 28) (by decide) (by decide) (by decide)
  · exact zro_1 (n := 32) (by decide) (by decide) (by decide)
  · exact zro_1 (n := 36) (by decide) (by decide) (by decide)
  · exact zro_1 (n := 40) (by decide) (by decide) (by decide)
  · exact zro_1 (n := 44) (by decide) (by decide) (by decide)
  · exact zro_1 (n := 48) (by decide) (by decide) (by decide)
theorem copy_H {F : Nat} {Q : SX7_laid → Prop} {a b : Nat} (ha : a ≤ 2) (hb : b ≤ 2) : ∀ (k i n : Nat) (g : SX7_laid), i + k = 300 → k < n → (∀ g' : SX7_laid, g'.x_laidLong = g.x_laidLong → g'.x_doubted = g.x_doubted → g'.x_keptMany = g.x_keptMany → Q g') → wX7_copy_H26 F Q n (nI a) (nI b) (nI i) g
  | k, i, 0, g, _, h, _ => absurd h (Nat.not_lt_zero _)
  | 0, i, n + 1, g, hi, _, hq => ⟨fun _ => hq g rfl rfl rfl, fun hc => absurd (show (300 : Int32) ≤ nI i from nI_le (a := 300) (by omega) (by omega)) hc⟩
  | k + 1, i, n + 1, g, hi, hn, hq => by
    refine ⟨fun hc => absurd hc (show ¬ nI 300 ≤ nI i from nI_ge (by omega) (by omega)), fun _ => ⟨?_, ?_, ?_⟩⟩
    · show vp_in (nI 300 * nI a + nI i) 900
      rw [pk_mul, nI_add]; exact vp_in_nI (by omega) (by omega)
    · show vp_in (nI 300 * nI b + nI i) 900
      rw [pk_mul, nI_add]; exact vp_in_nI (by omega) (by omega)
    · show wX7_copy_H26 F Q n (nI a) (nI b) (nI i + 1) _
      rw [nI_1]
      exact copy_H ha hb k (i + 1) n _ (by omega) (by omega) (fun g' h1 h2 h3 => hq g' h1 h2 h3)
def tOK (p1 p2 : Int32) (p3 : Int64) (p5 : Int32) : Prop := ¬ p1 < 0 ∧ p1 < 8 ∧ ¬ p2 < 0 ∧ ¬ 12 < p2 ∧ ¬ p5 < 0 ∧ p5 ≤ 1 ∧ tvs p3 p2.toNatClampNeg
theorem k_in8 {p : Int32} (a : ¬ p < 0) (b : p < 8) : vp_in p 8 ∧ p.toNatClampNeg < 8 := by
  obtain ⟨j, hj, rfl⟩ := nI_of2 (n := 7) (M := 7) (x := p) rfl a (by simp only [i32_lt, i32_le, l32_8, l32_7] at *; omega)
  exact ⟨vp_in_nI (by omega) (by omega), by rw [nI_clamp (by omega)]; omega⟩
set_option maxHeartbeats 4000000 in
set_option maxRecDepth 100000 in
theorem v_X6_told {p1 p2 : Int32} {p3 : Int64} {p5 : Int32} {Q : Int32 → SX6 → SX2 → SX3 → SX0 → SX1 → SX5 → SX0 → SX1 → Prop} (h4 : tOK p1 p2 p3 p5 → ∀ (g : SX6) (g_joins : SX2) (g_tale : SX3) (g_tale_claims : SX0) (g_tale_ends : SX1) (g_town : SX5) (g_town_claims : SX0) (g_town_ends : SX1), Q (-4) g g_joins g_tale g_tale_claims g_tale_ends g_town g_town_claims g_town_ends) (h1 : ¬ tOK p1 p2 p3 p5 → ∀ (g : SX6) (g_joins : SX2) (g_tale : SX3) (g_tale_claims : SX0) (g_tale_ends : SX1) (g_town : SX5) (g_town_claims : SX0) (g_town_ends : SX1), Q (-1) g g_joins g_tale g_tale_claims g_tale_ends g_town g_town_claims g_town_ends) : wX6_told kFuel iSX6 iSX2 iSX4 iSX3 iSX0 iSX1 iSX5 iSX0 iSX1 p1 p2 p3 p5 Q := by
  refine ⟨fun a => ev_t rfl (h1 (fun t => t.1 a) _ _ _ _ _ _ _ _), fun a => ⟨fun b => ev_t rfl (h1 (fun t => ?_) _ _ _ _ _ _ _ _), fun b => ev_f (by decide) ?_⟩⟩
  · have t2 := t.2.1
    simp only [i32_lt, i32_le, l32_8] at *; omega
  have b' : p1 < 8 := by simp only [i32_lt, i32_le, l32_8] at *; omega
  refine ⟨fun c => h1 (fun t => t.2.2.1 c) _ _ _ _ _ _ _ _, fun c => ⟨fun d => h1 (fun t => t.2.2.2.1 d) _ _ _ _ _ _ _ _, fun d => ⟨fun e => h1 (fun t => t.2.2.2.2.1 e) _ _ _ _ _ _ _ _, fun e => ⟨fun f => ?_, fun f => h1 (fun t => f t.2.2.2.2.2.1) _ _ _ _ _ _ _ _⟩⟩⟩⟩
  have d' : p2 ≤ 12 := by simp only [i32_lt, i32_le, l32_12] at *; omega
  obtain ⟨k, hk, rfl⟩ := nI_of2 (n := 12) (M := 12) (x := p2) rfl c d'
  have ek : (nI k).toNatClampNeg = k := nI_clamp (by omega)
  refine isT_ok (by unfold kFuel; omega) hk (fun t => ev_nt (by decide) ?_) (fun t => ev_nf rfl (h1 (fun q => t (by have := q.2.2.2.2.2.2; rw [ek] at this; exact this)) _ _ _ _ _ _ _ _))
  refine p_settle (fun g g_joins g_tale g_tale_claims g_tale_ends g_town g_town_claims g_town_ends _ _ _ hf _ => ev_t rfl ⟨(k_in8 a b').1, ?_⟩)
  refine ev_f ?_ (h4 ⟨a, b', c, d, e, f, by rw [ek]; exact t⟩ _ _ _ _ _ _ _ _)
  show ¬ (0 ≤ SX0.x_firstEnd g_town_claims p1.toNatClampNeg)
  rw [hf _ (k_in8 a b').2]; decide
set_option maxHeartbeats 4000000 in
set_option maxRecDepth 100000 in
theorem v_X7_told {p1 p2 : Int32} {p3 : Int64} {p5 : Int32} {Q : Int32 → SX7_ends → SX7_due → SX7_rec → SX7_cor → SX7_town → SX7_tmp → Prop} (h4 : tOK p1 p2 p3 p5 → ∀ (g_ends : SX7_ends) (g_due : SX7_due) (g_rec : SX7_rec) (g_cor : SX7_cor) (g_town : SX7_town) (g_tmp : SX7_tmp), Q (-4) g_ends g_due g_rec g_cor g_town g_tmp) (h1 : ¬ tOK p1 p2 p3 p5 → ∀ (g_ends : SX7_ends) (g_due : SX7_due) (g_rec : SX7_rec) (g_cor : SX7_cor) (g_town : SX7_town) (g_tmp : SX7_tmp), Q (-1) g_ends g_due g_rec g_cor g_town g_tmp) : wX7_told kFuel iSX7_laid iSX7_ends iSX7_due iSX7_rec iSX7_cor iSX7_town iSX7_tmp p1 p2 p3 p5 Q := by
  refine in_ok (fun a a2 => ev_f (by decide) ?_) (fun a => ev_t rfl (h1 (fun t => ?_) _ _ _ _ _ _))
  rotate_left
  · obtain ⟨t1, t2, -⟩ := t
    simp only [i32_lt, i32_le, i64_lt, i64_w, l32_0, l32_8, l64_0, l64_7] at *; omega
  have A : ¬ p1 < 0 := by simp only [i32_lt, i64_lt, i64_w, l32_0, l64_0] at *; omega
  have B : p1 < 8 := by simp only [i32_lt, i64_lt, i64_w, l32_8, l64_7] at *; omega
  refine in_ok (fun c c2 => ev_f (by decide) ?_) (fun c => ev_t rfl (h1 (fun t => ?_) _ _ _ _ _ _))
  rotate_left
  · obtain ⟨-, -, t1, t2, -⟩ := t
    simp only [i32_lt, i32_le, i64_lt, i64_w, l32_0, l32_12, l64_0, l64_12] at *; omega
  have C : ¬ p2 < 0 := by simp only [i32_lt, i64_lt, i64_w, l32_0, l64_0] at *; omega
  have D : ¬ 12 < p2 := by simp only [i32_lt, i64_lt, i64_w, l32_12, l64_12] at *; omega
  have D' : p2 ≤ 12 := by simp only [i32_lt, i32_le, l32_12] at *; omega
  obtain ⟨k, hk, rfl⟩ := nI_of2 (n := 12) (M := 12) (x := p2) rfl C D'
  have ek : (nI k).toNatClampNeg = k := nI_clamp (by omega)
  refine in_ok (fun v1 v2 => ev_f (by decide) ?_) (fun v => ev_t rfl (h1 (fun t => ?_) _ _ _ _ _ _))
  rotate_left
  · have t1 := t.2.2.2.2.2.2
    rw [ek] at t1
    have t2 := (zro_iff hk).mp t1.2
    exact v.elim t2.1 t2.2
  have Z : zro p3 k := (zro_iff hk).mpr ⟨v1, v2⟩
  refine in_ok (fun e e2 => ev_nt (by decide) ?_) (fun e => ev_nf rfl (h1 (fun t => ?_) _ _ _ _ _ _))
  rotate_left
  · obtain ⟨-, -, -, -, t1, t2, -⟩ := t
    simp only [i32_lt, i32_le, i64_lt, i64_w, l32_0, l32_1, l64_0, l64_1] at *; omega
  have E : ¬ p5 < 0 := by simp only [i32_lt, i64_lt, i64_w, l32_0, l64_0] at *; omega
  have E2 : p5 ≤ 1 := by simp only [i32_le, i64_lt, i64_w, l32_1, l64_1] at *; omega
  refine told7_loop hk (fun hp n => ?_) (fun hp => h1 (fun t => hp (by have := t.2.2.2.2.2.2; rw [ek] at this; exact this.1)) _ _ _ _ _ _) k 0 kFuel (by omega) (by unfold kFuel; omega) (fun i h => absurd h (Nat.not_lt_zero _))
  refine ⟨fun _ => ?_, fun hc => absurd (nI_le (Nat.le_refl _) (by omega)) hc⟩
  refine p_layTown (fun g_ends g_due g_rec g_cor g_town g_tmp _ _ _ _ _ hf => ev_t (by decide) ⟨(k_in8 A B).1, ?_⟩)
  refine ev_f ?_ (h4 ⟨A, B, C, D, E, E2, by rw [ek]; exact ⟨hp, Z⟩⟩ _ _ _ _ _ _)
  show ¬ (0 ≤ SX7_town.x_townFirst g_town p1.toNatClampNeg)
  rw [hf _ (k_in8 A B).2]; decide
theorem v_X7_keep {Q : Int32 → SX7_laid → Prop} (h : ∀ g, Q 1 g) : wX7_keep kFuel iSX7_laid Q := by
  refine ev_nt (by decide) (ev_v (by decide) (ev_v (by decide) (ev_v (by decide) (ev_v (by decide) ?_))))
  refine copy_H (a := 0) (b := 1) (by decide) (by decide) 300 0 kFuel _ (by decide) (by unfold kFuel; omega) (fun g' _ _ h3 => ?_)
  have e : g'.x_keptMany + 1 = 1 := by rw [h3]; decide
  show Q (g'.x_keptMany + 1) _
  rw [e]; exact h _
