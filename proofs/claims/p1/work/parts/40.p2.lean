theorem q_l291 {gl : SX7_laid} {Q : Int32 → SX7_ends → SX7_due → SX7_rec → SX7_cor → SX7_town → SX7_tmp → Prop} {ge : SX7_ends} {gd : SX7_due} {gr : SX7_rec} {gc : SX7_cor} {gm : SX7_tmp} (ht : gr.x_turnMany = 0) (hr : gr.x_ringMany = 0) (hu : gr.x_unlikeMany = 0) (hf : ∀ t : Nat, t < 8 → gr.x_first t = -4) : ∀ (j i n : Nat) (gw : SX7_town), i + j = 8 → j < n → (∀ t : Nat, t < i → gw.x_townFirst t = -4) → (∀ gw' : SX7_town, gw'.x_townEnds = gw.x_townEnds → gw'.x_townCorners = gw.x_townCorners → gw'.x_townTurns = 0 → gw'.x_townRings = 0 → gw'.x_townUnlikes = 0 → (∀ t : Nat, t < 8 → gw'.x_townFirst t = -4) → Q 0 ge gd gr gc gw' gm) → wX7_layTown_H291 kFuel gl Q n (nI i) ge gd gr gc gw gm
  | j, i, 0, gw, _, h, _, _ => absurd h (Nat.not_lt_zero _)
  | 0, i, n + 1, gw, hi, _, hp, h => by
    have e : i = 8 := by omega
    subst e
    refine ev_t (show nI 8 ≤ nI 8 from nI_le (Nat.le_refl _) (by omega)) ?_
    refine ev_t (by rw [ht]; decide) (ev_t (by rw [hr]; decide) (ev_t (by rw [hu]; decide) ?_))
    exact h _ rfl rfl ht hr hu hp
  | j + 1, i, n + 1, gw, hi, hn, hp, h => by
    have hc : (nI i).toNatClampNeg = i := nI_clamp (by omega)
    refine ev_f (show ¬ nI 8 ≤ nI i from nI_ge (by omega) (by omega)) ⟨vp_in_nI (by omega) (by omega), ?_⟩
    refine ev_f (show ¬ 0 ≤ gr.x_first (nI i).toNatClampNeg by rw [hc, hf i (by omega)]; decide) ⟨vp_in_nI (by omega) (by omega), ?_⟩
    show wX7_layTown_H291 kFuel gl Q n (nI i + 1) ge gd gr gc _ gm
    rw [nI_1]
    refine q_l291 ht hr hu hf j (i + 1) n _ (by omega) (by omega) (fun t hti => ?_) h
    show upd gw.x_townFirst (nI i).toNatClampNeg (-4) t = -4
    rw [hc]
    rcases Nat.eq_or_lt_of_le (Nat.le_of_lt_succ hti) with e | e
    · subst e; exact pk_us
    · rw [pk_un (by omega)]; exact hp t e
theorem p_layTown {Q : Int32 → SX7_ends → SX7_due → SX7_rec → SX7_cor → SX7_town → SX7_tmp → Prop} (h : ∀ (g_ends : SX7_ends) (g_due : SX7_due) (g_rec : SX7_rec) (g_cor : SX7_cor) (g_town : SX7_town) (g_tmp : SX7_tmp), g_town.x_townEnds = 0 → g_town.x_townCorners = 0 → g_town.x_townTurns = 0 → g_town.x_townRings = 0 → g_town.x_townUnlikes = 0 → (∀ t : Nat, t < 8 → g_town.x_townFirst t = -4) → Q 0 g_ends g_due g_rec g_cor g_town g_tmp) : wX7_layTown kFuel iSX7_laid iSX7_ends iSX7_due iSX7_rec iSX7_cor iSX7_town iSX7_tmp Q := by
  refine q_walkMany rfl (ev_v (by decide) ?_)
  refine q_barsBy rfl (fun ge' gr' gc' e1 s1 s2 s3 s4 s5 c1 => ev_t rfl ?_)
  refine ev_t (by rw [e1]; decide) (ev_t (by rw [c1]; decide) (ev_t (by rw [s1]; decide) ?_))
  refine ev_f (show ¬ (200 : Int32) < 0 by decide) (ev_t (show (0 : Int32) ≤ 20 by decide) ?_)
  refine ev_t (by rw [e1]; decide) ?_
  exact q_l291 s2 s3 s4 s5 8 0 kFuel _ (by omega) (by decide) (fun t h => absurd h (Nat.not_lt_zero _)) (fun gw' a1 a2 a3 a4 a5 a6 => h _ _ _ _ _ _ a1 a2 a3 a4 a5 a6)
theorem q_isCorner {g : SX7_town} {p : Int32} {Q : Int32 → Prop} (hc : g.x_townCorners = 0) (h : Q 0) : wX7_isCorner kFuel g p Q := by
  show wX7_in kFuel p.toInt64 0 ((g.x_townCorners - 1).toInt64) _
  rw [hc]
  exact in_no (by decide) ⟨isB_0, h⟩
theorem v_X7_why {Q : Int32 → SX7_ends → SX7_due → SX7_rec → SX7_cor → Prop} (h : ∀ (g_ends : SX7_ends) (g_due : SX7_due) (g_rec : SX7_rec) (g_cor : SX7_cor), Q (-4) g_ends g_due g_rec g_cor) : wX7_why kFuel iSX7_laid iSX7_ends iSX7_due iSX7_rec iSX7_cor Q :=
  q_walkMany rfl (ev_t (by decide) (h _ _ _ _))
theorem v_X7_fewest {Q : Int32 → SX7_ends → SX7_due → SX7_rec → SX7_cor → Prop} (h : ∀ (g_ends : SX7_ends) (g_due : SX7_due) (g_rec : SX7_rec) (g_cor : SX7_cor), Q 0 g_ends g_due g_rec g_cor) : wX7_fewest kFuel iSX7_laid iSX7_ends iSX7_due iSX7_rec iSX7_cor Q := by
  refine q_walkMany rfl (ev_f (by decide) (ev_t rfl ?_))
  exact q_barsBy rfl (fun _ _ _ _ _ _ _ _ _ _ => ev_nf rfl (ev_t (by decide) (h _ _ _ _)))
theorem v_X7_corners {Q : Int32 → SX7_ends → SX7_due → SX7_rec → SX7_cor → SX7_town → SX7_tmp → Prop} (h : ∀ (g_ends : SX7_ends) (g_due : SX7_due) (g_rec : SX7_rec) (g_cor : SX7_cor) (g_town : SX7_town) (g_tmp : SX7_tmp), Q 0 g_ends g_due g_rec g_cor g_town g_tmp) : wX7_corners kFuel iSX7_laid iSX7_ends iSX7_due iSX7_rec iSX7_cor iSX7_town iSX7_tmp Q :=
  p_layTown (fun _ _ _ _ g _ _ h2 _ _ _ _ => ev_t (by decide) (by show Q g.x_townCorners _ _ _ _ _ _; rw [h2]; exact h _ _ _ _ _ _))
theorem v_X7_about {p1 p2 : Int32} {Q : Int32 → SX7_ends → SX7_due → SX7_rec → SX7_cor → SX7_town → SX7_tmp → Prop} (h : ∀ (g_ends : SX7_ends) (g_due : SX7_due) (g_rec : SX7_rec) (g_cor : SX7_cor) (g_town : SX7_town) (g_tmp : SX7_tmp), Q (-1) g_ends g_due g_rec g_cor g_town g_tmp) : wX7_about kFuel iSX7_laid iSX7_ends iSX7_due iSX7_rec iSX7_cor iSX7_town iSX7_tmp p1 p2 Q :=
  in_ok (fun _ _ => ev_nt (by decide) (p_layTown (fun _ _ _ _ _ _ _ h2 _ _ _ _ => ev_t (by decide) (q_isCorner h2 (ev_nf rfl (h _ _ _ _ _ _)))))) (fun _ => ev_nf rfl (h _ _ _ _ _ _))
theorem v_X7_may {p1 p2 : Int32} {Q : Int32 → SX7_ends → SX7_due → SX7_rec → SX7_cor → SX7_town → SX7_tmp → Prop} (h : ∀ (g_ends : SX7_ends) (g_due : SX7_due) (g_rec : SX7_rec) (g_cor : SX7_cor) (g_town : SX7_town) (g_tmp : SX7_tmp), Q (-1) g_ends g_due g_rec g_cor g_town g_tmp) : wX7_may kFuel iSX7_laid iSX7_ends iSX7_due iSX7_rec iSX7_cor iSX7_town iSX7_tmp p1 p2 Q :=
  p_layTown (fun _ _ _ _ _ _ _ h2 _ _ _ _ => ev_t (by decide) (q_isCorner h2 (ev_t rfl (h _ _ _ _ _ _))))
theorem v_X7_way {p1 p2 p3 : Int32} {Q : Int32 → SX7_ends → SX7_due → SX7_rec → SX7_cor → SX7_town → SX7_tmp → SX7_way → Prop} (h : ∀ (g_ends : SX7_ends) (g_due : SX7_due) (g_rec : SX7_rec) (g_cor : SX7_cor) (g_town : SX7_town) (g_tmp : SX7_tmp) (g_way : SX7_way), Q (-1) g_ends g_due g_rec g_cor g_town g_tmp g_way) : wX7_way kFuel iSX7_laid iSX7_ends iSX7_due iSX7_rec iSX7_cor iSX7_town iSX7_tmp iSX7_way p1 p2 p3 Q :=
  in_ok (fun _ _ => ev_f (by decide) ⟨fun _ => p_layTown (fun _ _ _ _ _ _ _ h2 _ _ _ _ => ev_t (by decide) (q_isCorner h2 (ev_nf rfl (h _ _ _ _ _ _ _)))), fun _ => h _ _ _ _ _ _ _⟩) (fun _ => ev_t rfl (h _ _ _ _ _ _ _))
theorem q_layParts {g : SX7_town} {gp : SX7_part} {Q : Int32 → SX7_part → Prop} (he : g.x_townEnds = 0) (hc : g.x_townCorners = 0) (h : ∀ gp', Q 0 gp') : wX7_layParts kFuel g gp Q := by
  refine ev_t (by rw [hc]; decide) (ev_f (by decide) (ev_t (by rw [he]; decide) (ev_t rfl (ev_t (by rw [hc]; decide) (h _)))))
theorem v_X7_town {p1 : Int32} {Q : Int32 → SX7_ends → SX7_due → SX7_rec → SX7_cor → SX7_town → SX7_tmp → SX7_part → Prop} (h : ∀ (g_ends : SX7_ends) (g_due : SX7_due) (g_rec : SX7_rec) (g_cor : SX7_cor) (g_town : SX7_town) (g_tmp : SX7_tmp) (g_part : SX7_part), Q (if p1 = (0 : Int32) then (0 : Int32) else if p1 = (1 : Int32) then (0 : Int32) else if p1 = (2 : Int32) then (1 : Int32) else if p1 = (3 : Int32) then (0 : Int32) else (-1 : Int32)) g_ends g_due g_rec g_cor g_town g_tmp g_part) : wX7_town kFuel iSX7_laid iSX7_ends iSX7_due iSX7_rec iSX7_cor iSX7_town iSX7_tmp iSX7_part p1 Q := by
  refine in_ok (fun a b => ev_nt (by decide) ?_) (fun a => ev_nf rfl ?_)
  · refine p_layTown (fun _ _ _ _ g _ he hc _ _ _ _ => ev_t (by decide) ⟨fun e3 => ⟨fun e2 => ?_, fun e2 => ?_⟩, fun e3 => ?_⟩)
    · refine ev_t (by rw [he]; decide) ⟨fun e1 => ⟨by decide, ?_⟩, fun e1 => ?_⟩
      · have e0 : p1 = 0 := by simp only [i32_eq, i64_lt, i64_w, l32_0, l32_1, l32_2, l32_3, l64_0, l64_3] at *; omega
        subst e0; rw [he]; exact h _ _ _ _ _ _ _
      · subst e1; exact h _ _ _ _ _ _ _
    · subst e2
      exact q_layParts he hc (fun _ => ev_t (by rw [hc]; decide) (ev_f (by decide) (h _ _ _ _ _ _ _)))
    · subst e3
      exact q_layParts he hc (fun _ => h _ _ _ _ _ _ _)
  · have e0 : ¬ p1 = 0 := fun e => by subst e; exact absurd a (by decide)
    have e1 : ¬ p1 = 1 := fun e => by subst e; exact absurd a (by decide)
    have e2 : ¬ p1 = 2 := fun e => by subst e; exact absurd a (by decide)
    have e3 : ¬ p1 = 3 := fun e => by subst e; exact absurd a (by decide)
    rw [if_neg e0, if_neg e1, if_neg e2, if_neg e3] at h
    exact h _ _ _ _ _ _ _
theorem v_X7_pairs {p1 : Int32} {Q : Int32 → SX7_ends → SX7_due → SX7_rec → SX7_cor → SX7_town → SX7_tmp → Prop} (h1 : ¬ -1 ≤ p1 → ∀ (g_ends : SX7_ends) (g_due : SX7_due) (g_rec : SX7_rec) (g_cor : SX7_cor) (g_town : SX7_town) (g_tmp : SX7_tmp), Q (-1) g_ends g_due g_rec g_cor g_town g_tmp) (h2 : p1 = -1 → ∀ (g_ends : SX7_ends) (g_due : SX7_due) (g_rec : SX7_rec) (g_cor : SX7_cor) (g_town : SX7_town) (g_tmp : SX7_tmp), Q 0 g_ends g_due g_rec g_cor g_town g_tmp) (h3 : -1 ≤ p1 → ¬ p1 = -1 → ∀ (g_ends : SX7_ends) (g_due : SX7_due) (g_rec : SX7_rec) (g_cor : SX7_cor) (g_town : SX7_town) (g_tmp : SX7_tmp), Q (-4) g_ends g_due g_rec g_cor g_town g_tmp) : wX7_pairs kFuel iSX7_laid iSX7_ends iSX7_due iSX7_rec iSX7_cor iSX7_town iSX7_tmp p1 Q :=
  ⟨fun a => p_layTown (fun _ _ _ _ _ _ _ hc _ _ _ _ => ev_t (by decide) (ev_t (by rw [hc]; decide) ⟨fun b => h3 a (fun e => by subst e; exact absurd b (by decide)) _ _ _ _ _ _, fun b => h2 (by simp only [i32_le, i32_eq, l32_0, l32_m1] at *; omega) _ _ _ _ _ _⟩)), fun a => h1 a _ _ _ _ _ _⟩
theorem q_lr2 {gw : SX7_town} {Q : SX7_rec → Prop} (ht : gw.x_townTurns = 0) (hr : gw.x_townRings = 0) (hu : gw.x_townUnlikes = 0) (h : ∀ gr, Q gr) : ∀ (j i n : Nat) (gr : SX7_rec), i + j = 8 → j < n → wX7_loadRecords_H2 kFuel gw Q n (nI i) gr
  | j, i, 0, gr, _, h => absurd h (Nat.not_lt_zero _)
  | 0, i, n + 1, gr, hi, _ => by
    have e : i = 8 := by omega
    subst e
    refine ev_t (show nI 8 ≤ nI 8 from nI_le (Nat.le_refl _) (by omega)) ?_
    exact ev_t (by rw [ht]; decide) (ev_t (by rw [hr]; decide) (ev_t (by rw [hu]; decide) (h _)))
  | j + 1, i, n + 1, gr, hi, hn => by
    refine ev_f (show ¬ nI 8 ≤ nI i from nI_ge (by omega) (by omega)) ⟨vp_in_nI (by omega) (by omega), vp_in_nI (by omega) (by omega), ?_⟩
    show wX7_loadRecords_H2 kFuel gw Q n (nI i + 1) _
    rw [nI_1]
    exact q_lr2 ht hr hu h j (i + 1) n _ (by omega) (by omega)
theorem v_X7_smallest {Q : Int32 → SX7_ends → SX7_due → SX7_rec → SX7_cor → SX7_town → SX7_tmp → SX7_keep → Prop} (h : ∀ (g_ends : SX7_ends) (g_due : SX7_due) (g_rec : SX7_rec) (g_cor : SX7_cor) (g_town : SX7_town) (g_tmp : SX7_tmp) (g_keep : SX7_keep), Q 0 g_ends g_due g_rec g_cor g_town g_tmp g_keep) : wX7_smallest kFuel iSX7_laid iSX7_ends iSX7_due iSX7_rec iSX7_cor iSX7_town iSX7_tmp iSX7_keep Q := by
  refine p_layTown (fun _ _ _ _ g _ he hc ht hr hu _ => ev_t (by decide) (ev_f (by rw [hc]; decide) (ev_t (by rw [he]; decide) ?_)))
  refine ev_t (by rw [he]; decide) ?_
  refine q_lr2 ht hr hu (fun gr => ?_) 8 0 kFuel _ (by omega) (by decide)
  refine ev_t (by rw [he]; decide) (ev_v (by decide) ?_)
  refine ev_f (by decide) (ev_t (by rw [hc]; decide) ?_)
  rw [hc]
  exact h _ _ _ _ _ _ _
