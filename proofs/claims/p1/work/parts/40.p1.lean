theorem p_tell {g : SX3} {gc : SX0} {ge : SX1} {g4 : SX4} {p2 : Int32} {Q : Int32 → SX3 → SX0 → SX1 → Prop} (hw : g4.x_walks = 0) (h : ∀ (gc' : SX0) (ge' : SX1), gc'.x_turns = 0 → gc'.x_rounds = 0 → gc'.x_aparts = 0 → (∀ t : Nat, t < 8 → gc'.x_firstEnd t = -1) → ge'.x_used = 0 → Q (-4) g gc' ge') : wX3_tell kFuel g gc ge g4 p2 Q := by
  unfold wX3_tell wX1_dropAll wX0_dropClaims
  refine fill_ok (by decide) (by decide) (fun f hf _ => ?_)
  exact ev_t (by rw [hw]; decide) (h _ _ rfl rfl rfl hf rfl)
theorem p_fillR {m : Nat} {f : Nat → Int32} {hi v : Int32} {Q : (Nat → Int32) → Prop} (hm : (0 : Int32) ≤ Int32.ofNat m) (hu : hi = 0) (h : Q f) : wJ7_fill_fda19 m kFuel f 0 hi v Q := by
  subst hu
  exact ev_t (by decide) (ev_t (by decide) (ev_t hm (ev_t (by decide) h)))
theorem p_c7 {ge : SX1} {tc : SX0} {te : SX1} {Q : SX5 → SX0 → Prop} (ht : tc.x_turns = 0) (hr : tc.x_rounds = 0) (ha : tc.x_aparts = 0) (hf : ∀ t : Nat, t < 8 → tc.x_firstEnd t = -1) : ∀ (j i n : Nat) (g : SX5) (gc : SX0), i + j = 8 → j < n → (∀ t : Nat, t < i → gc.x_firstEnd t = -1) → (∀ (g' : SX5) (gc' : SX0), g'.x_cornersNow = g.x_cornersNow → g'.x_barringWalk = g.x_barringWalk → (∀ t : Nat, t < 8 → gc'.x_firstEnd t = -1) → Q g' gc') → wX5_numberClaims_H7 kFuel ge tc te Q n (nI i) g gc
  | j, i, 0, g, gc, _, h, _, _ => absurd h (Nat.not_lt_zero _)
  | 0, i, n + 1, g, gc, hi, _, hp, h => by
    have e : i = 8 := by omega
    subst e
    refine ev_t (show nI 8 ≤ nI 8 from nI_le (Nat.le_refl _) (by omega)) ?_
    refine fill_ok (by decide) (by decide) (fun f1 _ _ => ev_t (by rw [ht]; decide) ?_)
    refine fill_ok (by decide) (by decide) (fun f2 _ _ => ev_t (by rw [hr]; decide) ?_)
    refine fill_ok (by decide) (by decide) (fun f3 _ _ => ev_t (by rw [ha]; decide) ?_)
    exact h _ _ rfl rfl hp
  | j + 1, i, n + 1, g, gc, hi, hn, hp, h => by
    have hc : (nI i).toNatClampNeg = i := nI_clamp (by omega)
    refine ev_f (show ¬ nI 8 ≤ nI i from nI_ge (by omega) (by omega)) ⟨vp_in_nI (by omega) (by omega), ?_⟩
    refine ev_t (show tc.x_firstEnd (nI i).toNatClampNeg < 0 by rw [hc, hf i (by omega)]; decide) (ev_t rfl ⟨vp_in_nI (by omega) (by omega), ?_⟩)
    show wX5_numberClaims_H7 kFuel ge tc te Q n (nI i + 1) g _
    rw [nI_1]
    refine p_c7 ht hr ha hf j (i + 1) n g _ (by omega) (by omega) (fun t hti => ?_) h
    show upd gc.x_firstEnd (nI i).toNatClampNeg (-1) t = -1
    rw [hc]
    rcases Nat.eq_or_lt_of_le (Nat.le_of_lt_succ hti) with e | e
    · subst e; exact pk_us
    · rw [pk_un (by omega)]; exact hp t e
theorem p_numberAll {g : SX5} {gc : SX0} {ge : SX1} {g3 : SX3} {g4 : SX4} {tc : SX0} {te : SX1} {p3 : Int32} {Q : Int32 → SX5 → SX0 → SX1 → Prop} (hw : g4.x_walks = 0) (hu : te.x_used = 0) (ht : tc.x_turns = 0) (hr : tc.x_rounds = 0) (ha : tc.x_aparts = 0) (hf : ∀ t : Nat, t < 8 → tc.x_firstEnd t = -1) (h : ∀ (g' : SX5) (gc' : SX0) (ge' : SX1), g'.x_cornersNow = 0 → g'.x_barringWalk = g.x_barringWalk → (∀ t : Nat, t < 8 → gc'.x_firstEnd t = -1) → ge'.x_used = 0 → Q 0 g' gc' ge') : wX5_numberAll kFuel g gc ge g3 g4 tc te p3 Q := by
  unfold wX5_numberAll wX1_dropAll wX0_dropClaims
  refine fill_ok (by decide) (by decide) (fun f1 _ _ => ev_v (by decide) ?_)
  refine p_fillR (by decide) hu ?_
  refine ev_t (by rw [hw]; decide) ?_
  refine ev_t (by rw [hu]; decide) ?_
  exact p_c7 ht hr ha hf 8 0 kFuel _ _ (by omega) (by decide) (fun t h => absurd h (Nat.not_lt_zero _)) (fun g' gc' h1 h2 h3 => h _ _ _ h1 h2 h3 rfl)
theorem p_settle {Q : Int32 → SX6 → SX2 → SX3 → SX0 → SX1 → SX5 → SX0 → SX1 → Prop} (h : ∀ (g : SX6) (g_joins : SX2) (g_tale : SX3) (g_tale_claims : SX0) (g_tale_ends : SX1) (g_town : SX5) (g_town_claims : SX0) (g_town_ends : SX1), g_town.x_cornersNow = 0 → g_town.x_barringWalk = -4 → g_town_ends.x_used = 0 → (∀ t : Nat, t < 8 → g_town_claims.x_firstEnd t = -1) → g_joins.x_least = -1 → Q 0 g g_joins g_tale g_tale_claims g_tale_ends g_town g_town_claims g_town_ends) : wX6_settle kFuel iSX6 iSX2 iSX4 iSX3 iSX0 iSX1 iSX5 iSX0 iSX1 Q := by
  refine ev_nf rfl ?_
  refine allWalks0 ?_
  refine p_tell rfl (fun gc' ge' h1 h2 h3 h4 h5 => ev_t rfl ?_)
  refine p_numberAll rfl h5 h1 h2 h3 h4 (fun g' gc2 ge2 k1 k2 k3 k4 => ?_)
  unfold wX6_settle_B75 wX2_forgetAnswers
  refine fill_ok (by decide) (by decide) (fun f1 _ _ => ?_)
  exact h _ _ _ _ _ _ _ _ k1 k2 k4 k3 rfl
theorem v_X6_why {Q : Int32 → SX6 → SX2 → SX3 → SX0 → SX1 → SX5 → SX0 → SX1 → Prop} (h : ∀ (g : SX6) (g_joins : SX2) (g_tale : SX3) (g_tale_claims : SX0) (g_tale_ends : SX1) (g_town : SX5) (g_town_claims : SX0) (g_town_ends : SX1), Q (-4) g g_joins g_tale g_tale_claims g_tale_ends g_town g_town_claims g_town_ends) : wX6_why kFuel iSX6 iSX2 iSX4 iSX3 iSX0 iSX1 iSX5 iSX0 iSX1 Q :=
  p_settle (fun _ _ _ _ _ g _ _ _ h2 _ _ _ => by show Q g.x_barringWalk _ _ _ _ _ _ _ _; rw [h2]; exact h _ _ _ _ _ _ _ _)
theorem v_X6_corners {Q : Int32 → SX6 → SX2 → SX3 → SX0 → SX1 → SX5 → SX0 → SX1 → Prop} (h : ∀ (g : SX6) (g_joins : SX2) (g_tale : SX3) (g_tale_claims : SX0) (g_tale_ends : SX1) (g_town : SX5) (g_town_claims : SX0) (g_town_ends : SX1), Q 0 g g_joins g_tale g_tale_claims g_tale_ends g_town g_town_claims g_town_ends) : wX6_corners kFuel iSX6 iSX2 iSX4 iSX3 iSX0 iSX1 iSX5 iSX0 iSX1 Q :=
  p_settle (fun _ _ _ _ _ g _ _ h1 _ _ _ _ => ev_t rfl (by show Q g.x_cornersNow _ _ _ _ _ _ _ _; rw [h1]; exact h _ _ _ _ _ _ _ _))
theorem v_X6_about {p1 p2 : Int32} {Q : Int32 → SX6 → SX2 → SX3 → SX0 → SX1 → SX5 → SX0 → SX1 → Prop} (h : ∀ (g : SX6) (g_joins : SX2) (g_tale : SX3) (g_tale_claims : SX0) (g_tale_ends : SX1) (g_town : SX5) (g_town_claims : SX0) (g_town_ends : SX1), Q (-1) g g_joins g_tale g_tale_claims g_tale_ends g_town g_town_claims g_town_ends) : wX6_about kFuel iSX6 iSX2 iSX4 iSX3 iSX0 iSX1 iSX5 iSX0 iSX1 p1 p2 Q :=
  ⟨fun _ => h _ _ _ _ _ _ _ _, fun _ => ⟨fun _ => p_settle (fun _ _ _ _ _ _ _ _ h1 _ _ _ _ => ev_t rfl (isCorner0 h1 (ev_nf rfl (h _ _ _ _ _ _ _ _)))), fun _ => h _ _ _ _ _ _ _ _⟩⟩
theorem v_X6_may {p1 p2 : Int32} {Q : Int32 → SX6 → SX2 → SX1 → SX3 → SX0 → SX1 → SX5 → SX0 → SX1 → Prop} (h : ∀ (g : SX6) (g_joins : SX2) (g_joins_trial : SX1) (g_tale : SX3) (g_tale_claims : SX0) (g_tale_ends : SX1) (g_town : SX5) (g_town_claims : SX0) (g_town_ends : SX1), Q (-1) g g_joins g_joins_trial g_tale g_tale_claims g_tale_ends g_town g_town_claims g_town_ends) : wX6_may kFuel iSX6 iSX2 iSX1 iSX4 iSX3 iSX0 iSX1 iSX5 iSX0 iSX1 p1 p2 Q :=
  p_settle (fun _ _ _ _ _ _ _ _ h1 _ _ _ _ => ev_t rfl (isCorner0 h1 (ev_t rfl (h _ _ _ _ _ _ _ _ _))))
theorem v_X6_way {p1 p2 p3 : Int32} {Q : Int32 → SX6 → SX2 → SX3 → SX0 → SX1 → SX5 → SX0 → SX1 → Prop} (h : ∀ (g : SX6) (g_joins : SX2) (g_tale : SX3) (g_tale_claims : SX0) (g_tale_ends : SX1) (g_town : SX5) (g_town_claims : SX0) (g_town_ends : SX1), Q (-1) g g_joins g_tale g_tale_claims g_tale_ends g_town g_town_claims g_town_ends) : wX6_way kFuel iSX6 iSX2 iSX4 iSX3 iSX0 iSX1 iSX5 iSX0 iSX1 p1 p2 p3 Q :=
  ⟨fun _ => ev_t rfl (h _ _ _ _ _ _ _ _), fun _ => ⟨fun _ => ev_t rfl (h _ _ _ _ _ _ _ _), fun _ => ev_f (by decide) ⟨fun _ => p_settle (fun _ _ _ _ _ _ _ _ h1 _ _ _ _ => ev_t rfl (isCorner0 h1 (ev_nf rfl (h _ _ _ _ _ _ _ _)))), fun _ => h _ _ _ _ _ _ _ _⟩⟩⟩
theorem p_lanes {g : SX5} {ge : SX1} {Q : Int32 → Prop} (hc : g.x_cornersNow = 0) (hu : ge.x_used = 0) (h : Q 0) : wX5_lanes kFuel g ge Q := by
  refine ev_t (by rw [hc]; decide) ⟨by decide, ?_⟩
  rw [hu]
  exact h
theorem p_parts {g : SX5} {ge : SX1} {Q : Int32 → SX5 → Prop} (hc : g.x_cornersNow = 0) (hu : ge.x_used = 0) (h : ∀ g', Q 0 g') : wX5_parts kFuel g ge Q := by
  refine ev_t (by rw [hc]; decide) (ev_t (by rw [hu]; decide) ?_)
  rw [hc]
  exact h _
theorem p_isFlat {g : SX5} {ge : SX1} {Q : Int32 → SX5 → Prop} (hc : g.x_cornersNow = 0) (hu : ge.x_used = 0) (h : ∀ g', Q 1 g') : wX5_isFlat kFuel g ge Q := by
  refine p_lanes hc hu ?_
  refine p_fillR (by decide) hu ?_
  refine ev_t (by rw [hu]; decide) ?_
  refine ev_t (show g.x_cornersNow ≤ 0 by rw [hc]; decide) ?_
  refine p_parts hc hu (fun g' => ?_)
  refine ev_nf ?_ (h g')
  rw [hc]; decide
theorem v_X6_town {p1 : Int32} {Q : Int32 → SX6 → SX2 → SX3 → SX0 → SX1 → SX5 → SX0 → SX1 → Prop} (h : ∀ (g : SX6) (g_joins : SX2) (g_tale : SX3) (g_tale_claims : SX0) (g_tale_ends : SX1) (g_town : SX5) (g_town_claims : SX0) (g_town_ends : SX1), Q (if p1 = (0 : Int32) then (0 : Int32) else if p1 = (1 : Int32) then (0 : Int32) else if p1 = (2 : Int32) then (1 : Int32) else if p1 = (3 : Int32) then (0 : Int32) else (-1 : Int32)) g g_joins g_tale g_tale_claims g_tale_ends g_town g_town_claims g_town_ends) : wX6_town kFuel iSX6 iSX2 iSX4 iSX3 iSX0 iSX1 iSX5 iSX0 iSX1 p1 Q := by
  refine ⟨fun a => ?_, fun a => ⟨fun b => ?_, fun b => ?_⟩⟩
  · have e0 : ¬ p1 = 0 := fun e => by subst e; exact absurd a (by decide)
    have e1 : ¬ p1 = 1 := fun e => by subst e; exact absurd a (by decide)
    have e2 : ¬ p1 = 2 := fun e => by subst e; exact absurd a (by decide)
    have e3 : ¬ p1 = 3 := fun e => by subst e; exact absurd a (by decide)
    rw [if_neg e0, if_neg e1, if_neg e2, if_neg e3] at h
    exact h _ _ _ _ _ _ _ _
  · refine p_settle (fun _ _ _ _ _ g _ ge h1 _ hu _ _ => ev_t rfl ⟨fun e => ?_, fun e => ?_, fun e => ?_, fun e0 e1 e2 => ?_⟩)
    · subst e; exact p_lanes h1 hu (h _ _ _ _ _ _ _ _)
    · subst e; exact p_lanes h1 hu (by rw [hu]; exact h _ _ _ _ _ _ _ _)
    · subst e; exact p_isFlat h1 hu (fun _ => ev_f (by decide) (h _ _ _ _ _ _ _ _))
    · have e3 : p1 = 3 := by simp only [i32_lt, i32_le, i32_eq, l32_0, l32_1, l32_2, l32_3] at *; omega
      subst e3
      exact p_parts h1 hu (fun _ => h _ _ _ _ _ _ _ _)
  · have e0 : ¬ p1 = 0 := fun e => by subst e; exact absurd b (by decide)
    have e1 : ¬ p1 = 1 := fun e => by subst e; exact absurd b (by decide)
    have e2 : ¬ p1 = 2 := fun e => by subst e; exact absurd b (by decide)
    have e3 : ¬ p1 = 3 := fun e => by subst e; exact absurd b (by decide)
    rw [if_neg e0, if_neg e1, if_neg e2, if_neg e3] at h
    exact h _ _ _ _ _ _ _ _
theorem v_X6_pairs {p1 : Int32} {Q : Int32 → SX6 → SX2 → SX1 → SX3 → SX0 → SX1 → SX5 → SX0 → SX1 → Prop} (h1 : ¬ -1 ≤ p1 → ∀ (g : SX6) (g_joins : SX2) (g_joins_trial : SX1) (g_tale : SX3) (g_tale_claims : SX0) (g_tale_ends : SX1) (g_town : SX5) (g_town_claims : SX0) (g_town_ends : SX1), Q (-1) g g_joins g_joins_trial g_tale g_tale_claims g_tale_ends g_town g_town_claims g_town_ends) (h2 : p1 = -1 → ∀ (g : SX6) (g_joins : SX2) (g_joins_trial : SX1) (g_tale : SX3) (g_tale_claims : SX0) (g_tale_ends : SX1) (g_town : SX5) (g_town_claims : SX0) (g_town_ends : SX1), Q 0 g g_joins g_joins_trial g_tale g_tale_claims g_tale_ends g_town g_town_claims g_town_ends) (h3 : -1 ≤ p1 → ¬ p1 = -1 → ∀ (g : SX6) (g_joins : SX2) (g_joins_trial : SX1) (g_tale : SX3) (g_tale_claims : SX0) (g_tale_ends : SX1) (g_town : SX5) (g_town_claims : SX0) (g_town_ends : SX1), Q (-4) g g_joins g_joins_trial g_tale g_tale_claims g_tale_ends g_town g_town_claims g_town_ends) : wX6_pairs kFuel iSX6 iSX2 iSX1 iSX4 iSX3 iSX0 iSX1 iSX5 iSX0 iSX1 p1 Q :=
  ⟨fun a => p_settle (fun _ _ _ _ _ _ _ _ hc _ _ _ _ => ev_t rfl (ev_t (by rw [hc]; decide) ⟨fun b => h3 a b _ _ _ _ _ _ _ _ _, fun b => h2 b _ _ _ _ _ _ _ _ _⟩)), fun a => h1 a _ _ _ _ _ _ _ _ _⟩
theorem v_X6_smallest {Q : Int32 → SX6 → SX2 → SX1 → SX3 → SX0 → SX1 → SX5 → SX0 → SX1 → Prop} (h : ∀ (g : SX6) (g_joins : SX2) (g_joins_trial : SX1) (g_tale : SX3) (g_tale_claims : SX0) (g_tale_ends : SX1) (g_town : SX5) (g_town_claims : SX0) (g_town_ends : SX1), Q 0 g g_joins g_joins_trial g_tale g_tale_claims g_tale_ends g_town g_town_claims g_town_ends) : wX6_smallest kFuel iSX6 iSX2 iSX1 iSX4 iSX3 iSX0 iSX1 iSX5 iSX0 iSX1 Q := by
  refine p_settle (fun _ gj _ _ _ g _ ge hc _ hu _ hl => ev_nf rfl (ev_f (by rw [hc]; decide) (ev_t (by rw [hu]; decide) ?_)))
  refine ev_nf hl (ev_t (by rw [hc]; decide) ?_)
  show wX2_searchD kFuel 6 _ _ _ _ _ _ _ _ _ _
  refine ev_t (show (0 : Int32) ≤ 0 by decide) ?_
  rw [hc]
  exact h _ _ _ _ _ _ _ _ _
theorem v_X6_fewest {Q : Int32 → SX6 → SX3 → SX0 → SX1 → Prop} (h : ∀ (g : SX6) (g_tale : SX3) (g_tale_claims : SX0) (g_tale_ends : SX1), Q 0 g g_tale g_tale_claims g_tale_ends) : wX6_fewest kFuel iSX6 iSX4 iSX3 iSX0 iSX1 Q := by
  refine ev_nf rfl (allWalks0 ?_)
  exact p_tell rfl (fun _ _ _ _ _ _ _ => ev_nf rfl (ev_nt (show ¬ (0 : Int32) = -1 by decide) (h _ _ _ _)))
theorem q_walkMany {gl : SX7_laid} {Q : Int32 → Prop} (h0 : gl.x_laidLong 0 = 0) (h : Q 0) : wX7_walkMany kFuel gl Q :=
  ev_v (by decide) (ev_t (show gl.x_laidLong (0 : Int32).toNatClampNeg ≤ 0 by rw [sb_cl0, h0]; decide) h)
theorem q_l27 {gl : SX7_laid} {ge : SX7_ends} {gd : SX7_due} {p1 : Int32} {Q : SX7_ends → SX7_due → SX7_rec → Prop} (h0 : gl.x_laidLong 0 = 0) : ∀ (j i n : Nat) (gr : SX7_rec), i + j = 8 → j < n → (∀ t : Nat, t < i → gr.x_first t = -4) → (∀ gr' : SX7_rec, gr'.x_stopMany = gr.x_stopMany → gr'.x_turnMany = gr.x_turnMany → gr'.x_ringMany = gr.x_ringMany → gr'.x_unlikeMany = gr.x_unlikeMany → (∀ t : Nat, t < 8 → gr'.x_first t = -4) → Q ge gd gr') → wX7_layEnds_H27 kFuel gl Q n p1 (nI i) ge gd gr
  | j, i, 0, gr, _, h, _, _ => absurd h (Nat.not_lt_zero _)
  | 0, i, n + 1, gr, hi, _, hp, h => by
    have e : i = 8 := by omega
    subst e
    refine ev_t (show nI 8 ≤ nI 8 from nI_le (Nat.le_refl _) (by omega)) (ev_v (by decide) ?_)
    exact ev_t (show gl.x_laidLong (0 : Int32).toNatClampNeg ≤ 0 by rw [sb_cl0, h0]; decide) (h _ rfl rfl rfl rfl hp)
  | j + 1, i, n + 1, gr, hi, hn, hp, h => by
    have hc : (nI i).toNatClampNeg = i := nI_clamp (by omega)
    refine ev_f (show ¬ nI 8 ≤ nI i from nI_ge (by omega) (by omega)) ⟨vp_in_nI (by omega) (by omega), ?_⟩
    show wX7_layEnds_H27 kFuel gl Q n p1 (nI i + 1) ge gd _
    rw [nI_1]
    refine q_l27 h0 j (i + 1) n _ (by omega) (by omega) (fun t hti => ?_) h
    show upd gr.x_first (nI i).toNatClampNeg (-4) t = -4
    rw [hc]
    rcases Nat.eq_or_lt_of_le (Nat.le_of_lt_succ hti) with e | e
    · subst e; exact pk_us
    · rw [pk_un (by omega)]; exact hp t e
theorem q_b10 {ge : SX7_ends} {gr : SX7_rec} {gc : SX7_cor} {Q : Int32 → Prop} {K : Int32 → Prop} {a : Nat} (ha : a < 8) (hf : ∀ t : Nat, t < 8 → gr.x_first t = -4) (hK : K (nI a + 1)) : ∀ (j b n : Nat), b + j = a → j < n → wX7_bars_H10 kFuel ge gr gc Q K n (nI a) (nI b)
  | j, b, 0, _, h => absurd h (Nat.not_lt_zero _)
  | 0, b, n + 1, hb, _ => ev_t (nI_le (by omega) (by omega)) hK
  | j + 1, b, n + 1, hb, hn => by
    refine ev_f (nI_ge (by omega) (by omega)) ⟨vp_in_nI (by omega) (by omega), ?_⟩
    refine ev_t (show gr.x_first (nI a).toNatClampNeg < 0 by rw [nI_clamp (by omega), hf a ha]; decide) ?_
    show wX7_bars_H10 kFuel ge gr gc Q K n (nI a) (nI b + 1)
    rw [nI_1]
    exact q_b10 ha hf hK j (b + 1) n (by omega) (by omega)
theorem q_b2 {ge : SX7_ends} {gr : SX7_rec} {gc : SX7_cor} {Q : Int32 → Prop} (he : ge.x_endMany = 0) (ht : gr.x_turnMany = 0) (hr : gr.x_ringMany = 0) (hu : gr.x_unlikeMany = 0) (hf : ∀ t : Nat, t < 8 → gr.x_first t = -4) (h : Q 0) : ∀ (j a n : Nat), a + j = 8 → j < n → wX7_bars_H2 kFuel ge gr gc Q n (nI a)
  | j, a, 0, _, h => absurd h (Nat.not_lt_zero _)
  | 0, a, n + 1, ha, _ => by
    have e : a = 8 := by omega
    subst e
    exact ev_t (show nI 8 ≤ nI 8 from nI_le (Nat.le_refl _) (by omega)) (ev_t (by rw [he]; decide) (ev_t (by rw [ht]; decide) (ev_t (by rw [hr]; decide) (ev_t (by rw [hu]; decide) h))))
  | j + 1, a, n + 1, ha, hn => by
    refine ev_f (show ¬ nI 8 ≤ nI a from nI_ge (by omega) (by omega)) ?_
    refine q_b10 (by omega) hf ?_ a 0 kFuel (by omega) (by unfold kFuel; omega)
    rw [nI_1]
    exact q_b2 he ht hr hu hf h j (a + 1) n (by omega) (by omega)
theorem q_barsBy {gl : SX7_laid} {ge : SX7_ends} {gd : SX7_due} {gr : SX7_rec} {gc : SX7_cor} {p1 : Int32} {Q : Int32 → SX7_ends → SX7_due → SX7_rec → SX7_cor → Prop} (h0 : gl.x_laidLong 0 = 0) (h : ∀ (ge' : SX7_ends) (gr' : SX7_rec) (gc' : SX7_cor), ge'.x_endMany = 0 → gr'.x_stopMany = 0 → gr'.x_turnMany = 0 → gr'.x_ringMany = 0 → gr'.x_unlikeMany = 0 → (∀ t : Nat, t < 8 → gr'.x_first t = -4) → gc'.x_cornerMany = 0 → Q 0 ge' gd gr' gc') : wX7_barsBy kFuel gl ge gd gr gc p1 Q := by
  show wX7_layEnds_H27 kFuel gl _ kFuel p1 (nI 0) _ gd _
  refine q_l27 h0 8 0 kFuel _ (by omega) (by decide) (fun t h => absurd h (Nat.not_lt_zero _)) (fun gr' s1 s2 s3 s4 s5 => ?_)
  refine ev_t (show (0 : Int32) ≤ 0 by decide) (ev_t (show (0 : Int32) ≤ 0 by decide) ?_)
  exact q_b2 rfl s2 s3 s4 s5 ⟨isB_0, h _ _ _ rfl s1 s2 s3 s4 s5 rfl⟩ 8 0 kFuel (by omega) (by decide)
