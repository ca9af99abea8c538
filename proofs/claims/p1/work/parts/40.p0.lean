-- evaluation of predicates over known states
theorem ev_t {c A B : Prop} (h : c) (a : A) : (c → A) ∧ (¬ c → B) := ⟨fun _ => a, fun n => absurd h n⟩
theorem ev_f {c A B : Prop} (h : ¬ c) (b : B) : (c → A) ∧ (¬ c → B) := ⟨fun n => absurd n h, fun _ => b⟩
theorem ev_nt {c A B : Prop} (h : ¬ c) (a : A) : (¬ c → A) ∧ (c → B) := ⟨fun _ => a, fun n => absurd n h⟩
theorem ev_nf {c A B : Prop} (h : c) (b : B) : (¬ c → A) ∧ (c → B) := ⟨fun n => absurd h n, fun _ => b⟩
theorem ev_v {i : Int32} {n : Nat} {A : Prop} (h : ¬ (i < 0 ∨ n ≤ i.toNatClampNeg)) (a : A) : vp_in i n ∧ A := ⟨h, a⟩
theorem ev_0 {n : Nat} {P : Nat → Prop} {A : Prop} (h : n = 0) (a : A) : (∀ i, i < n → P i) ∧ A := ⟨fun i hi => absurd hi (by rw [h]; exact Nat.not_lt_zero i), a⟩
theorem ev_s {c A B : Prop} (h : ¬ c) (b : B) : (c → A) ∧ B := ⟨fun n => absurd n h, b⟩
theorem ev_l {c d A B : Prop} (h : ¬ d) (a : A) : (c → A) ∧ (d → B) := ⟨fun _ => a, fun n => absurd n h⟩
theorem ev_sw {c A B : Prop} (h : c) (a : A) (b : B) : (c → A) ∧ B := ⟨fun _ => a, b⟩
theorem ev_d {c A : Prop} (h : c) : ¬ c → A := fun n => absurd h n
theorem ev_dn {c A : Prop} (a : A) : ¬ c → A := fun _ => a
theorem fill_H {m F : Nat} {Q : (Nat → Int32) → Prop} {v : Int32} (hm : m < 2 ^ 31) : ∀ (k i n : Nat) (f : Nat → Int32), i + k = m → k < n → (∀ f' : Nat → Int32, (∀ j, j < m → i ≤ j → f' j = v) → (∀ j, (j < i ∨ m ≤ j) → f' j = f j) → Q f') → wJ7_fill_53178_H5 m F Q n v (nI i) (nI m) f
  | k, i, 0, f, _, h, _ => absurd h (Nat.not_lt_zero _)
  | 0, i, n + 1, f, hi, _, hq => ⟨fun _ => hq f (fun j h1 h2 => absurd h1 (by omega)) (fun _ _ => rfl), fun hc => absurd (nI_le (by omega) (by omega)) hc⟩
  | k + 1, i, n + 1, f, hi, hn, hq => by
    refine ⟨fun hc => absurd hc (nI_ge (by omega) (by omega)), fun _ => ⟨vp_in_nI (by omega) hm, ?_⟩⟩
    show wJ7_fill_53178_H5 m F Q n v (nI i + 1) (nI m) (upd f (nI i).toNatClampNeg v)
    rw [nI_1, nI_clamp (by omega)]
    refine fill_H hm k (i + 1) n _ (by omega) (by omega) (fun f' h1 h2 => hq f' (fun j hj hij => ?_) (fun j hj => ?_))
    · rcases Nat.eq_or_lt_of_le hij with e | e
      · subst e; rw [h2 i (Or.inl (by omega))]; exact pk_us
      · exact h1 j hj (by omega)
    · rw [h2 j (by omega)]; exact pk_un (by omega)
theorem fill_ok {m F : Nat} {Q : (Nat → Int32) → Prop} {v : Int32} {f : Nat → Int32} (hm : m < 2 ^ 31) (hF : m < F) (h : ∀ f' : Nat → Int32, (∀ j, j < m → f' j = v) → (∀ j, m ≤ j → f' j = f j) → Q f') : wJ7_fill_53178 m F f v Q :=
  fill_H hm m 0 F f (by omega) hF (fun f' h1 h2 => h f' (fun j hj => h1 j hj (Nat.zero_le _)) (fun j hj => h2 j (Or.inr hj)))
theorem fill_eq {m F : Nat} {Q : (Nat → Int32) → Prop} {v : Int32} {f : Nat → Int32} (hm : m < 2 ^ 31) (hF : m < F) (h : Q (fun k => if k < m then v else f k)) : wJ7_fill_53178 m F f v Q := by
  refine fill_ok hm hF (fun f' h1 h2 => ?_)
  have e : f' = (fun k => if k < m then v else f k) := by
    funext k
    by_cases hk : k < m
    · rw [h1 k hk, if_pos hk]
    · rw [h2 k (by omega), if_neg hk]
  rw [e]; exact h
theorem fb_lt64' (a b : Int64) : a < b ↔ a.toInt < b.toInt := Int64.lt_iff_toInt_lt
theorem lg_lt {x y : Int64} : lg_cmp x y < 0 ↔ x < y := by
  unfold lg_cmp
  by_cases h1 : x > y
  · rw [if_pos h1]
    exact ⟨fun h => absurd h (by decide), fun h => absurd h (by have := h1; simp only [GT.gt, fb_lt64'] at *; omega)⟩
  · rw [if_neg h1]
    by_cases h2 : x = y
    · rw [if_pos h2]
      exact ⟨fun h => absurd h (by decide), fun h => absurd h (by rw [h2]; simp only [fb_lt64']; omega)⟩
    · rw [if_neg h2]
      refine ⟨fun _ => ?_, fun _ => by decide⟩
      have h3 : ¬ x.toInt = y.toInt := fun e => h2 (Int64.toInt_inj.mp e)
      simp only [GT.gt, fb_lt64'] at *; omega
theorem lg_gt {x y : Int64} : 0 < lg_cmp x y ↔ y < x := by
  unfold lg_cmp
  by_cases h1 : x > y
  · rw [if_pos h1]; exact ⟨fun _ => h1, fun _ => by decide⟩
  · rw [if_neg h1]
    refine ⟨fun h => ?_, fun h => absurd h h1⟩
    by_cases h2 : x = y
    · rw [if_pos h2] at h; exact absurd h (by decide)
    · rw [if_neg h2] at h; exact absurd h (by decide)
theorem in_ok {F : Nat} {p lo hi : Int64} {Q : Int32 → Prop} (h1 : ¬ p < lo → ¬ hi < p → Q 1) (h0 : p < lo ∨ hi < p → Q 0) : wX7_in F p lo hi Q :=
  ⟨fun h => h0 (Or.inl (lg_lt.mp h)), fun h => ⟨fun h2 => h0 (Or.inr (lg_gt.mp h2)), fun h2 => h1 (fun q => h (lg_lt.mpr q)) (fun q => h2 (lg_gt.mpr q))⟩⟩
theorem in_no {F : Nat} {p lo hi : Int64} {Q : Int32 → Prop} (h : hi < lo) (h0 : Q 0) : wX7_in F p lo hi Q := by
  refine in_ok (fun a b => absurd h ?_) (fun _ => h0)
  simp only [fb_lt64'] at *; omega
theorem isCorner0 {F : Nat} {g : SX5} {p : Int32} {Q : Int32 → Prop} (h : g.x_cornersNow = 0) (h0 : Q 0) : wX5_isCorner F g p Q := by
  refine ⟨fun _ => h0, fun a => ⟨fun _ => h0, fun b => absurd ?_ b⟩⟩
  rw [h]; exact Int32.not_lt.mp a
def kFuel : Nat := 1000
theorem i32_lt (a b : Int32) : a < b ↔ a.toInt < b.toInt := Int32.lt_iff_toInt_lt
theorem i32_le (a b : Int32) : a ≤ b ↔ a.toInt ≤ b.toInt := Int32.le_iff_toInt_le
theorem i32_eq (a b : Int32) : a = b ↔ a.toInt = b.toInt := Int32.toInt_inj.symm
theorem i64_lt (a b : Int64) : a < b ↔ a.toInt < b.toInt := Int64.lt_iff_toInt_lt
theorem i64_le (a b : Int64) : a ≤ b ↔ a.toInt ≤ b.toInt := Int64.le_iff_toInt_le
theorem i64_w (a : Int32) : a.toInt64.toInt = a.toInt := Int32.toInt_toInt64 a
theorem in_hi {F : Nat} {p lo hi : Int64} (hi' : Int64) {Q : Int32 → Prop} (e : hi = hi') (h : wX7_in F p lo hi' Q) : wX7_in F p lo hi Q := e ▸ h
theorem allWalks0 {Q : Int32 → Prop} (h : Q 0) : wX6_allWalks kFuel iSX4 Q := by
  have e : (((1 : Int32) <<< (SX4.x_walks iSX4 &&& 31)) - (1 : Int32)) = 0 := by decide +kernel
  show Q _
  rw [e]; exact h
theorem l32_0 : (0 : Int32).toInt = 0 := rfl
theorem l64_0 : (0 : Int64).toInt = 0 := rfl
theorem l32_1 : (1 : Int32).toInt = 1 := rfl
theorem l64_1 : (1 : Int64).toInt = 1 := rfl
theorem l32_2 : (2 : Int32).toInt = 2 := rfl
theorem l64_2 : (2 : Int64).toInt = 2 := rfl
theorem l32_3 : (3 : Int32).toInt = 3 := rfl
theorem l64_3 : (3 : Int64).toInt = 3 := rfl
theorem l32_4 : (4 : Int32).toInt = 4 := rfl
theorem l64_4 : (4 : Int64).toInt = 4 := rfl
theorem l32_5 : (5 : Int32).toInt = 5 := rfl
theorem l64_5 : (5 : Int64).toInt = 5 := rfl
theorem l32_7 : (7 : Int32).toInt = 7 := rfl
theorem l64_7 : (7 : Int64).toInt = 7 := rfl
theorem l32_8 : (8 : Int32).toInt = 8 := rfl
theorem l64_8 : (8 : Int64).toInt = 8 := rfl
theorem l32_12 : (12 : Int32).toInt = 12 := rfl
theorem l64_12 : (12 : Int64).toInt = 12 := rfl
theorem l32_20 : (20 : Int32).toInt = 20 := rfl
theorem l64_20 : (20 : Int64).toInt = 20 := rfl
theorem l32_300 : (300 : Int32).toInt = 300 := rfl
theorem l64_300 : (300 : Int64).toInt = 300 := rfl
theorem l32_m1 : (-1 : Int32).toInt = -1 := rfl
theorem l64_m1 : (-1 : Int64).toInt = -1 := rfl
theorem l32_m2 : (-2 : Int32).toInt = -2 := rfl
theorem l64_m2 : (-2 : Int64).toInt = -2 := rfl
theorem l32_m3 : (-3 : Int32).toInt = -3 := rfl
theorem l64_m3 : (-3 : Int64).toInt = -3 := rfl
theorem l32_m4 : (-4 : Int32).toInt = -4 := rfl
theorem l64_m4 : (-4 : Int64).toInt = -4 := rfl
theorem in_okh {F : Nat} {p lo hi : Int64} (hi' : Int64) {Q : Int32 → Prop} (e : hi = hi') (h1 : ¬ p < lo → ¬ hi' < p → Q 1) (h0 : p < lo ∨ hi' < p → Q 0) : wX7_in F p lo hi Q := by
  subst e; exact in_ok h1 h0

set_option maxHeartbeats 4000000 in
set_option maxRecDepth 100000 in
theorem v_X6_doubt {p1 : Int32} {Q : Int32 → SX6 → Prop} (h : ∀ (g : SX6), Q (if p1 = (0 : Int32) then (0 : Int32) else (-1 : Int32)) g) : wX6_doubt kFuel iSX6 iSX4 p1 Q := by
  by_cases e0 : p1 = (0 : Int32)
  · subst e0
    repeat' first
        | (exact h _)
        | (with_reducible (refine allWalks0 ?_))
        | (with_reducible (refine fill_eq (by decide) (by decide) ?_))
        | (refine ev_v (by decide +kernel) ?_)
        | (refine ev_t (by decide +kernel) ?_)
        | (refine ev_f (by decide +kernel) ?_)
        | (refine ev_nt (by decide +kernel) ?_)
        | (refine ev_nf (by decide +kernel) ?_)
        | (refine ⟨isB_0, ?_⟩)
        | (refine ⟨isB_1, ?_⟩)
        | (refine ⟨by decide +kernel, ?_⟩)
        | (refine ev_0 (by decide +kernel) ?_)
        | (refine ev_s (by decide +kernel) ?_)
        | (refine ev_l (by decide +kernel) ?_)
        | (refine ev_sw (by decide +kernel) ?_ ?_)
        | (refine ev_d (by decide +kernel))
        | (with_reducible (refine ev_dn ?_))
        | (refine ⟨fun _ => ?_, fun _ => ?_⟩)
        | (fail)
    all_goals (exfalso; simp only [i32_lt, i32_le, i32_eq, i64_lt, i64_le, i64_w, SX5.x_cornersNow, SX4.x_walks, SX7_town.x_townCorners, SX7_town.x_townEnds, SX4.x_length, SX7_text.x_length, l32_0, l64_0, l32_1, l64_1, l32_2, l64_2, l32_3, l64_3, l32_4, l64_4, l32_5, l64_5, l32_7, l64_7, l32_8, l64_8, l32_12, l64_12, l32_20, l64_20, l32_300, l64_300, l32_m1, l64_m1, l32_m2, l64_m2, l32_m3, l64_m3, l32_m4, l64_m4] at *; omega)
  rw [if_neg e0] at h
  repeat' first
      | (exact h _)
      | (with_reducible (refine allWalks0 ?_))
      | (with_reducible (refine fill_eq (by decide) (by decide) ?_))
      | (refine ev_v (by decide +kernel) ?_)
      | (refine ev_t (by decide +kernel) ?_)
      | (refine ev_f (by decide +kernel) ?_)
      | (refine ev_nt (by decide +kernel) ?_)
      | (refine ev_nf (by decide +kernel) ?_)
      | (refine ⟨isB_0, ?_⟩)
      | (refine ⟨isB_1, ?_⟩)
      | (refine ⟨by decide +kernel, ?_⟩)
      | (refine ev_0 (by decide +kernel) ?_)
      | (refine ev_s (by decide +kernel) ?_)
      | (refine ev_l (by decide +kernel) ?_)
      | (refine ev_sw (by decide +kernel) ?_ ?_)
      | (refine ev_d (by decide +kernel))
      | (with_reducible (refine ev_dn ?_))
      | (refine ⟨fun _ => ?_, fun _ => ?_⟩)
      | (fail)
  all_goals (exfalso; simp only [i32_lt, i32_le, i32_eq, i64_lt, i64_le, i64_w, SX5.x_cornersNow, SX4.x_walks, SX7_town.x_townCorners, SX7_town.x_townEnds, SX4.x_length, SX7_text.x_length, l32_0, l64_0, l32_1, l64_1, l32_2, l64_2, l32_3, l64_3, l32_4, l64_4, l32_5, l64_5, l32_7, l64_7, l32_8, l64_8, l32_12, l64_12, l32_20, l64_20, l32_300, l64_300, l32_m1, l64_m1, l32_m2, l64_m2, l32_m3, l64_m3, l32_m4, l64_m4] at *; omega)

set_option maxHeartbeats 4000000 in
set_option maxRecDepth 100000 in
theorem v_X7_doubt {p1 : Int32} {Q : Int32 → SX7_laid → Prop} (h : ∀ (g_laid : SX7_laid), Q (if p1 = (0 : Int32) then (0 : Int32) else (-1 : Int32)) g_laid) : wX7_doubt kFuel iSX7_laid p1 Q := by
  by_cases e0 : p1 = (0 : Int32)
  · subst e0
    repeat' first
        | (exact h _)
        | (with_reducible (refine in_okh (0) (by decide +kernel) (fun _ _ => ?_) (fun _ => ?_)))
        | (with_reducible (refine fill_eq (by decide) (by decide) ?_))
        | (refine ev_v (by decide +kernel) ?_)
        | (refine ev_t (by decide +kernel) ?_)
        | (refine ev_f (by decide +kernel) ?_)
        | (refine ev_nt (by decide +kernel) ?_)
        | (refine ev_nf (by decide +kernel) ?_)
        | (refine ⟨isB_0, ?_⟩)
        | (refine ⟨isB_1, ?_⟩)
        | (refine ⟨by decide +kernel, ?_⟩)
        | (refine ev_0 (by decide +kernel) ?_)
        | (refine ev_s (by decide +kernel) ?_)
        | (refine ev_l (by decide +kernel) ?_)
        | (refine ev_sw (by decide +kernel) ?_ ?_)
        | (refine ev_d (by decide +kernel))
        | (with_reducible (refine ev_dn ?_))
        | (refine ⟨fun _ => ?_, fun _ => ?_⟩)
        | (fail)
    all_goals (exfalso; simp only [i32_lt, i32_le, i32_eq, i64_lt, i64_le, i64_w, SX5.x_cornersNow, SX4.x_walks, SX7_town.x_townCorners, SX7_town.x_townEnds, SX4.x_length, SX7_text.x_length, l32_0, l64_0, l32_1, l64_1, l32_2, l64_2, l32_3, l64_3, l32_4, l64_4, l32_5, l64_5, l32_7, l64_7, l32_8, l64_8, l32_12, l64_12, l32_20, l64_20, l32_300, l64_300, l32_m1, l64_m1, l32_m2, l64_m2, l32_m3, l64_m3, l32_m4, l64_m4] at *; omega)
  rw [if_neg e0] at h
  repeat' first
      | (exact h _)
      | (with_reducible (refine in_okh (0) (by decide +kernel) (fun _ _ => ?_) (fun _ => ?_)))
      | (with_reducible (refine fill_eq (by decide) (by decide) ?_))
      | (refine ev_v (by decide +kernel) ?_)
      | (refine ev_t (by decide +kernel) ?_)
      | (refine ev_f (by decide +kernel) ?_)
      | (refine ev_nt (by decide +kernel) ?_)
      | (refine ev_nf (by decide +kernel) ?_)
      | (refine ⟨isB_0, ?_⟩)
      | (refine ⟨isB_1, ?_⟩)
      | (refine ⟨by decide +kernel, ?_⟩)
      | (refine ev_0 (by decide +kernel) ?_)
      | (refine ev_s (by decide +kernel) ?_)
      | (refine ev_l (by decide +kernel) ?_)
      | (refine ev_sw (by decide +kernel) ?_ ?_)
      | (refine ev_d (by decide +kernel))
      | (with_reducible (refine ev_dn ?_))
      | (refine ⟨fun _ => ?_, fun _ => ?_⟩)
      | (fail)
  all_goals (exfalso; simp only [i32_lt, i32_le, i32_eq, i64_lt, i64_le, i64_w, SX5.x_cornersNow, SX4.x_walks, SX7_town.x_townCorners, SX7_town.x_townEnds, SX4.x_length, SX7_text.x_length, l32_0, l64_0, l32_1, l64_1, l32_2, l64_2, l32_3, l64_3, l32_4, l64_4, l32_5, l64_5, l32_7, l64_7, l32_8, l64_8, l32_12, l64_12, l32_20, l64_20, l32_300, l64_300, l32_m1, l64_m1, l32_m2, l64_m2, l32_m3, l64_m3, l32_m4, l64_m4] at *; omega)

set_option maxHeartbeats 4000000 in
set_option maxRecDepth 100000 in
theorem v_X6_corner {p1 : Int32} {p2 : Int32} {Q : Int32 → SX6 → SX2 → SX3 → SX0 → SX1 → SX5 → SX0 → SX1 → Prop} (h : ∀ (g : SX6) (g_joins : SX2) (g_tale : SX3) (g_tale_claims : SX0) (g_tale_ends : SX1) (g_town : SX5) (g_town_claims : SX0) (g_town_ends : SX1), Q (-1 : Int32) g g_joins g_tale g_tale_claims g_tale_ends g_town g_town_claims g_town_ends) : wX6_corner kFuel iSX6 iSX2 iSX4 iSX3 iSX0 iSX1 iSX5 iSX0 iSX1 p1 p2 Q := by
  exact ⟨fun a => h _ _ _ _ _ _ _ _, fun a => ⟨fun b => h _ _ _ _ _ _ _ _, fun b => absurd (show (0 : Int32) ≤ p1 from Int32.not_lt.mp a) b⟩⟩

set_option maxHeartbeats 4000000 in
set_option maxRecDepth 100000 in
theorem v_X7_corner {p1 : Int32} {p2 : Int32} {Q : Int32 → SX7_ends → SX7_due → SX7_rec → SX7_cor → SX7_town → SX7_tmp → Prop} (h : ∀ (g_ends : SX7_ends) (g_due : SX7_due) (g_rec : SX7_rec) (g_cor : SX7_cor) (g_town : SX7_town) (g_tmp : SX7_tmp), Q (-1 : Int32) g_ends g_due g_rec g_cor g_town g_tmp) : wX7_corner kFuel iSX7_laid iSX7_ends iSX7_due iSX7_rec iSX7_cor iSX7_town iSX7_tmp p1 p2 Q := by
  repeat' first
      | (exact h _ _ _ _ _ _)
      | (with_reducible (refine in_no (by decide +kernel) ?_))
      | (with_reducible (refine fill_eq (by decide) (by decide) ?_))
      | (refine ev_v (by decide +kernel) ?_)
      | (refine ev_t (by decide +kernel) ?_)
      | (refine ev_f (by decide +kernel) ?_)
      | (refine ev_nt (by decide +kernel) ?_)
      | (refine ev_nf (by decide +kernel) ?_)
      | (refine ⟨isB_0, ?_⟩)
      | (refine ⟨isB_1, ?_⟩)
      | (refine ⟨by decide +kernel, ?_⟩)
      | (refine ev_0 (by decide +kernel) ?_)
      | (refine ev_s (by decide +kernel) ?_)
      | (refine ev_l (by decide +kernel) ?_)
      | (refine ev_sw (by decide +kernel) ?_ ?_)
      | (refine ev_d (by decide +kernel))
      | (with_reducible (refine ev_dn ?_))
      | (refine ⟨fun _ => ?_, fun _ => ?_⟩)
      | (fail)
  all_goals (exfalso; simp only [i32_lt, i32_le, i32_eq, i64_lt, i64_le, i64_w, SX5.x_cornersNow, SX4.x_walks, SX7_town.x_townCorners, SX7_town.x_townEnds, SX4.x_length, SX7_text.x_length, l32_0, l64_0, l32_1, l64_1, l32_2, l64_2, l32_3, l64_3, l32_4, l64_4, l32_5, l64_5, l32_7, l64_7, l32_8, l64_8, l32_12, l64_12, l32_20, l64_20, l32_300, l64_300, l32_m1, l64_m1, l32_m2, l64_m2, l32_m3, l64_m3, l32_m4, l64_m4] at *; omega)

set_option maxHeartbeats 4000000 in
set_option maxRecDepth 100000 in
theorem v_X6_count {p1 : Int32} {Q : Int32 → Prop} (h : Q (if p1 = (0 : Int32) then (0 : Int32) else if p1 = (1 : Int32) then (0 : Int32) else if p1 = (2 : Int32) then (0 : Int32) else if p1 = (3 : Int32) then (0 : Int32) else if p1 = (4 : Int32) then (0 : Int32) else (-1 : Int32))) : wX6_count kFuel iSX6 iSX4 iSX4 p1 Q := by
  by_cases e0 : p1 = (0 : Int32)
  · subst e0
    repeat' first
        | (exact h )
        | (with_reducible (refine fill_eq (by decide) (by decide) ?_))
        | (refine ev_v (by decide +kernel) ?_)
        | (refine ev_t (by decide +kernel) ?_)
        | (refine ev_f (by decide +kernel) ?_)
        | (refine ev_nt (by decide +kernel) ?_)
        | (refine ev_nf (by decide +kernel) ?_)
        | (refine ⟨isB_0, ?_⟩)
        | (refine ⟨isB_1, ?_⟩)
        | (refine ⟨by decide +kernel, ?_⟩)
        | (refine ev_0 (by decide +kernel) ?_)
        | (refine ev_s (by decide +kernel) ?_)
        | (refine ev_l (by decide +kernel) ?_)
        | (refine ev_sw (by decide +kernel) ?_ ?_)
        | (refine ev_d (by decide +kernel))
        | (with_reducible (refine ev_dn ?_))
        | (refine ⟨fun _ => ?_, fun _ => ?_⟩)
        | (fail)
    all_goals (exfalso; simp only [i32_lt, i32_le, i32_eq, i64_lt, i64_le, i64_w, SX5.x_cornersNow, SX4.x_walks, SX7_town.x_townCorners, SX7_town.x_townEnds, SX4.x_length, SX7_text.x_length, l32_0, l64_0, l32_1, l64_1, l32_2, l64_2, l32_3, l64_3, l32_4, l64_4, l32_5, l64_5, l32_7, l64_7, l32_8, l64_8, l32_12, l64_12, l32_20, l64_20, l32_300, l64_300, l32_m1, l64_m1, l32_m2, l64_m2, l32_m3, l64_m3, l32_m4, l64_m4] at *; omega)
  by_cases e1 : p1 = (1 : Int32)
  · subst e1
    repeat' first
        | (exact h )
        | (with_reducible (refine fill_eq (by decide) (by decide) ?_))
        | (refine ev_v (by decide +kernel) ?_)
        | (refine ev_t (by decide +kernel) ?_)
        | (refine ev_f (by decide +kernel) ?_)
        | (refine ev_nt (by decide +kernel) ?_)
        | (refine ev_nf (by decide +kernel) ?_)
        | (refine ⟨isB_0, ?_⟩)
        | (refine ⟨isB_1, ?_⟩)
        | (refine ⟨by decide +kernel, ?_⟩)
        | (refine ev_0 (by decide +kernel) ?_)
        | (refine ev_s (by decide +kernel) ?_)
        | (refine ev_l (by decide +kernel) ?_)
        | (refine ev_sw (by decide +kernel) ?_ ?_)
        | (refine ev_d (by decide +kernel))
        | (with_reducible (refine ev_dn ?_))
        | (refine ⟨fun _ => ?_, fun _ => ?_⟩)
        | (fail)
    all_goals (exfalso; simp only [i32_lt, i32_le, i32_eq, i64_lt, i64_le, i64_w, SX5.x_cornersNow, SX4.x_walks, SX7_town.x_townCorners, SX7_town.x_townEnds, SX4.x_length, SX7_text.x_length, l32_0, l64_0, l32_1, l64_1, l32_2, l64_2, l32_3, l64_3, l32_4, l64_4, l32_5, l64_5, l32_7, l64_7, l32_8, l64_8, l32_12, l64_12, l32_20, l64_20, l32_300, l64_300, l32_m1, l64_m1, l32_m2, l64_m2, l32_m3, l64_m3, l32_m4, l64_m4] at *; omega)
  by_cases e2 : p1 = (2 : Int32)
  · subst e2
    repeat' first
        | (exact h )
        | (with_reducible (refine fill_eq (by decide) (by decide) ?_))
        | (refine ev_v (by decide +kernel) ?_)
        | (refine ev_t (by decide +kernel) ?_)
        | (refine ev_f (by decide +kernel) ?_)
        | (refine ev_nt (by decide +kernel) ?_)
        | (refine ev_nf (by decide +kernel) ?_)
        | (refine ⟨isB_0, ?_⟩)
        | (refine ⟨isB_1, ?_⟩)
        | (refine ⟨by decide +kernel, ?_⟩)
        | (refine ev_0 (by decide +kernel) ?_)
        | (refine ev_s (by decide +kernel) ?_)
        | (refine ev_l (by decide +kernel) ?_)
        | (refine ev_sw (by decide +kernel) ?_ ?_)
        | (refine ev_d (by decide +kernel))
        | (with_reducible (refine ev_dn ?_))
        | (refine ⟨fun _ => ?_, fun _ => ?_⟩)
        | (fail)
    all_goals (exfalso; simp only [i32_lt, i32_le, i32_eq, i64_lt, i64_le, i64_w, SX5.x_cornersNow, SX4.x_walks, SX7_town.x_townCorners, SX7_town.x_townEnds, SX4.x_length, SX7_text.x_length, l32_0, l64_0, l32_1, l64_1, l32_2, l64_2, l32_3, l64_3, l32_4, l64_4, l32_5, l64_5, l32_7, l64_7, l32_8, l64_8, l32_12, l64_12, l32_20, l64_20, l32_300, l64_300, l32_m1, l64_m1, l32_m2, l64_m2, l32_m3, l64_m3, l32_m4, l64_m4] at *; omega)
  by_cases e3 : p1 = (3 : Int32)
  · subst e3
    repeat' first
        | (exact h )
        | (with_reducible (refine fill_eq (by decide) (by decide) ?_))
        | (refine ev_v (by decide +kernel) ?_)
        | (refine ev_t (by decide +kernel) ?_)
        | (refine ev_f (by decide +kernel) ?_)
        | (refine ev_nt (by decide +kernel) ?_)
        | (refine ev_nf (by decide +kernel) ?_)
        | (refine ⟨isB_0, ?_⟩)
        | (refine ⟨isB_1, ?_⟩)
        | (refine ⟨by decide +kernel, ?_⟩)
        | (refine ev_0 (by decide +kernel) ?_)
        | (refine ev_s (by decide +kernel) ?_)
        | (refine ev_l (by decide +kernel) ?_)
        | (refine ev_sw (by decide +kernel) ?_ ?_)
        | (refine ev_d (by decide +kernel))
        | (with_reducible (refine ev_dn ?_))
        | (refine ⟨fun _ => ?_, fun _ => ?_⟩)
        | (fail)
    all_goals (exfalso; simp only [i32_lt, i32_le, i32_eq, i64_lt, i64_le, i64_w, SX5.x_cornersNow, SX4.x_walks, SX7_town.x_townCorners, SX7_town.x_townEnds, SX4.x_length, SX7_text.x_length, l32_0, l64_0, l32_1, l64_1, l32_2, l64_2, l32_3, l64_3, l32_4, l64_4, l32_5, l64_5, l32_7, l64_7, l32_8, l64_8, l32_12, l64_12, l32_20, l64_20, l32_300, l64_300, l32_m1, l64_m1, l32_m2, l64_m2, l32_m3, l64_m3, l32_m4, l64_m4] at *; omega)
  by_cases e4 : p1 = (4 : Int32)
  · subst e4
    repeat' first
        | (exact h )
        | (with_reducible (refine fill_eq (by decide) (by decide) ?_))
        | (refine ev_v (by decide +kernel) ?_)
        | (refine ev_t (by decide +kernel) ?_)
        | (refine ev_f (by decide +kernel) ?_)
        | (refine ev_nt (by decide +kernel) ?_)
        | (refine ev_nf (by decide +kernel) ?_)
        | (refine ⟨isB_0, ?_⟩)
        | (refine ⟨isB_1, ?_⟩)
        | (refine ⟨by decide +kernel, ?_⟩)
        | (refine ev_0 (by decide +kernel) ?_)
        | (refine ev_s (by decide +kernel) ?_)
        | (refine ev_l (by decide +kernel) ?_)
        | (refine ev_sw (by decide +kernel) ?_ ?_)
        | (refine ev_d (by decide +kernel))
        | (with_reducible (refine ev_dn ?_))
        | (refine ⟨fun _ => ?_, fun _ => ?_⟩)
        | (fail)
    all_goals (exfalso; simp only [i32_lt, i32_le, i32_eq, i64_lt, i64_le, i64_w, SX5.x_cornersNow, SX4.x_walks, SX7_town.x_townCorners, SX7_town.x_townEnds, SX4.x_length, SX7_text.x_length, l32_0, l64_0, l32_1, l64_1, l32_2, l64_2, l32_3, l64_3, l32_4, l64_4, l32_5, l64_5, l32_7, l64_7, l32_8, l64_8, l32_12, l64_12, l32_20, l64_20, l32_300, l64_300, l32_m1, l64_m1, l32_m2, l64_m2, l32_m3, l64_m3, l32_m4, l64_m4] at *; omega)
  rw [if_neg e0, if_neg e1, if_neg e2, if_neg e3, if_neg e4] at h
  exact ⟨fun q => absurd q e0, fun q => absurd q e1, fun q => absurd q e2, fun q => absurd q e3, fun q => absurd q e4, fun _ _ _ _ _ => h⟩

set_option maxHeartbeats 4000000 in
set_option maxRecDepth 100000 in
theorem v_X7_count {p1 : Int32} {Q : Int32 → Prop} (h : Q (if p1 = (0 : Int32) then (0 : Int32) else if p1 = (1 : Int32) then (0 : Int32) else if p1 = (2 : Int32) then (0 : Int32) else if p1 = (3 : Int32) then (0 : Int32) else if p1 = (4 : Int32) then (0 : Int32) else (-1 : Int32))) : wX7_count kFuel iSX7_text iSX7_laid p1 Q := by
  by_cases e0 : p1 = (0 : Int32)
  · subst e0
    repeat' first
        | (exact h )
        | (with_reducible (refine fill_eq (by decide) (by decide) ?_))
        | (refine ev_v (by decide +kernel) ?_)
        | (refine ev_t (by decide +kernel) ?_)
        | (refine ev_f (by decide +kernel) ?_)
        | (refine ev_nt (by decide +kernel) ?_)
        | (refine ev_nf (by decide +kernel) ?_)
        | (refine ⟨isB_0, ?_⟩)
        | (refine ⟨isB_1, ?_⟩)
        | (refine ⟨by decide +kernel, ?_⟩)
        | (refine ev_0 (by decide +kernel) ?_)
        | (refine ev_s (by decide +kernel) ?_)
        | (refine ev_l (by decide +kernel) ?_)
        | (refine ev_sw (by decide +kernel) ?_ ?_)
        | (refine ev_d (by decide +kernel))
        | (with_reducible (refine ev_dn ?_))
        | (refine ⟨fun _ => ?_, fun _ => ?_⟩)
        | (fail)
    all_goals (exfalso; simp only [i32_lt, i32_le, i32_eq, i64_lt, i64_le, i64_w, SX5.x_cornersNow, SX4.x_walks, SX7_town.x_townCorners, SX7_town.x_townEnds, SX4.x_length, SX7_text.x_length, l32_0, l64_0, l32_1, l64_1, l32_2, l64_2, l32_3, l64_3, l32_4, l64_4, l32_5, l64_5, l32_7, l64_7, l32_8, l64_8, l32_12, l64_12, l32_20, l64_20, l32_300, l64_300, l32_m1, l64_m1, l32_m2, l64_m2, l32_m3, l64_m3, l32_m4, l64_m4] at *; omega)
  by_cases e1 : p1 = (1 : Int32)
  · subst e1
    repeat' first
        | (exact h )
        | (with_reducible (refine fill_eq (by decide) (by decide) ?_))
        | (refine ev_v (by decide +kernel) ?_)
        | (refine ev_t (by decide +kernel) ?_)
        | (refine ev_f (by decide +kernel) ?_)
        | (refine ev_nt (by decide +kernel) ?_)
        | (refine ev_nf (by decide +kernel) ?_)
        | (refine ⟨isB_0, ?_⟩)
        | (refine ⟨isB_1, ?_⟩)
        | (refine ⟨by decide +kernel, ?_⟩)
        | (refine ev_0 (by decide +kernel) ?_)
        | (refine ev_s (by decide +kernel) ?_)
        | (refine ev_l (by decide +kernel) ?_)
        | (refine ev_sw (by decide +kernel) ?_ ?_)
        | (refine ev_d (by decide +kernel))
        | (with_reducible (refine ev_dn ?_))
        | (refine ⟨fun _ => ?_, fun _ => ?_⟩)
        | (fail)
    all_goals (exfalso; simp only [i32_lt, i32_le, i32_eq, i64_lt, i64_le, i64_w, SX5.x_cornersNow, SX4.x_walks, SX7_town.x_townCorners, SX7_town.x_townEnds, SX4.x_length, SX7_text.x_length, l32_0, l64_0, l32_1, l64_1, l32_2, l64_2, l32_3, l64_3, l32_4, l64_4, l32_5, l64_5, l32_7, l64_7, l32_8, l64_8, l32_12, l64_12, l32_20, l64_20, l32_300, l64_300, l32_m1, l64_m1, l32_m2, l64_m2, l32_m3, l64_m3, l32_m4, l64_m4] at *; omega)
  by_cases e2 : p1 = (2 : Int32)
  · subst e2
    repeat' first
        | (exact h )
        | (with_reducible (refine fill_eq (by decide) (by decide) ?_))
        | (refine ev_v (by decide +kernel) ?_)
        | (refine ev_t (by decide +kernel) ?_)
        | (refine ev_f (by decide +kernel) ?_)
        | (refine ev_nt (by decide +kernel) ?_)
        | (refine ev_nf (by decide +kernel) ?_)
        | (refine ⟨isB_0, ?_⟩)
        | (refine ⟨isB_1, ?_⟩)
        | (refine ⟨by decide +kernel, ?_⟩)
        | (refine ev_0 (by decide +kernel) ?_)
        | (refine ev_s (by decide +kernel) ?_)
        | (refine ev_l (by decide +kernel) ?_)
        | (refine ev_sw (by decide +kernel) ?_ ?_)
        | (refine ev_d (by decide +kernel))
        | (with_reducible (refine ev_dn ?_))
        | (refine ⟨fun _ => ?_, fun _ => ?_⟩)
        | (fail)
    all_goals (exfalso; simp only [i32_lt, i32_le, i32_eq, i64_lt, i64_le, i64_w, SX5.x_cornersNow, SX4.x_walks, SX7_town.x_townCorners, SX7_town.x_townEnds, SX4.x_length, SX7_text.x_length, l32_0, l64_0, l32_1, l64_1, l32_2, l64_2, l32_3, l64_3, l32_4, l64_4, l32_5, l64_5, l32_7, l64_7, l32_8, l64_8, l32_12, l64_12, l32_20, l64_20, l32_300, l64_300, l32_m1, l64_m1, l32_m2, l64_m2, l32_m3, l64_m3, l32_m4, l64_m4] at *; omega)
  by_cases e3 : p1 = (3 : Int32)
  · subst e3
    repeat' first
        | (exact h )
        | (with_reducible (refine fill_eq (by decide) (by decide) ?_))
        | (refine ev_v (by decide +kernel) ?_)
        | (refine ev_t (by decide +kernel) ?_)
        | (refine ev_f (by decide +kernel) ?_)
        | (refine ev_nt (by decide +kernel) ?_)
        | (refine ev_nf (by decide +kernel) ?_)
        | (refine ⟨isB_0, ?_⟩)
        | (refine ⟨isB_1, ?_⟩)
        | (refine ⟨by decide +kernel, ?_⟩)
        | (refine ev_0 (by decide +kernel) ?_)
        | (refine ev_s (by decide +kernel) ?_)
        | (refine ev_l (by decide +kernel) ?_)
        | (refine ev_sw (by decide +kernel) ?_ ?_)
        | (refine ev_d (by decide +kernel))
        | (with_reducible (refine ev_dn ?_))
        | (refine ⟨fun _ => ?_, fun _ => ?_⟩)
        | (fail)
    all_goals (exfalso; simp only [i32_lt, i32_le, i32_eq, i64_lt, i64_le, i64_w, SX5.x_cornersNow, SX4.x_walks, SX7_town.x_townCorners, SX7_town.x_townEnds, SX4.x_length, SX7_text.x_length, l32_0, l64_0, l32_1, l64_1, l32_2, l64_2, l32_3, l64_3, l32_4, l64_4, l32_5, l64_5, l32_7, l64_7, l32_8, l64_8, l32_12, l64_12, l32_20, l64_20, l32_300, l64_300, l32_m1, l64_m1, l32_m2, l64_m2, l32_m3, l64_m3, l32_m4, l64_m4] at *; omega)
  by_cases e4 : p1 = (4 : Int32)
  · subst e4
    repeat' first
        | (exact h )
        | (with_reducible (refine fill_eq (by decide) (by decide) ?_))
        | (refine ev_v (by decide +kernel) ?_)
        | (refine ev_t (by decide +kernel) ?_)
        | (refine ev_f (by decide +kernel) ?_)
        | (refine ev_nt (by decide +kernel) ?_)
        | (refine ev_nf (by decide +kernel) ?_)
        | (refine ⟨isB_0, ?_⟩)
        | (refine ⟨isB_1, ?_⟩)
        | (refine ⟨by decide +kernel, ?_⟩)
        | (refine ev_0 (by decide +kernel) ?_)
        | (refine ev_s (by decide +kernel) ?_)
        | (refine ev_l (by decide +kernel) ?_)
        | (refine ev_sw (by decide +kernel) ?_ ?_)
        | (refine ev_d (by decide +kernel))
        | (with_reducible (refine ev_dn ?_))
        | (refine ⟨fun _ => ?_, fun _ => ?_⟩)
        | (fail)
    all_goals (exfalso; simp only [i32_lt, i32_le, i32_eq, i64_lt, i64_le, i64_w, SX5.x_cornersNow, SX4.x_walks, SX7_town.x_townCorners, SX7_town.x_townEnds, SX4.x_length, SX7_text.x_length, l32_0, l64_0, l32_1, l64_1, l32_2, l64_2, l32_3, l64_3, l32_4, l64_4, l32_5, l64_5, l32_7, l64_7, l32_8, l64_8, l32_12, l64_12, l32_20, l64_20, l32_300, l64_300, l32_m1, l64_m1, l32_m2, l64_m2, l32_m3, l64_m3, l32_m4, l64_m4] at *; omega)
  rw [if_neg e0, if_neg e1, if_neg e2, if_neg e3, if_neg e4] at h
  exact ⟨fun q => absurd q e0, fun q => absurd q e1, fun q => absurd q e2, fun q => absurd q e3, fun q => absurd q e4, fun _ _ _ _ _ => h⟩

