set_option maxHeartbeats 4000000 in
set_option maxRecDepth 100000 in
theorem b_doubt {xs : Nat → Int32} {K : Int32 → SX6 → SX2 → SX1 → SX4 → SX4 → SX4 → SX3 → SX0 → SX1 → SX4 → SX5 → SX0 → SX1 → SX7_text → SX7_laid → SX7_ends → SX7_due → SX7_rec → SX7_cor → SX7_town → SX7_tmp → SX7_part → SX7_keep → SX7_way → Prop} (hK : ∀ (g_x : SX6) (g_x_joins : SX2) (g_x_joins_trial : SX1) (g_x_kept0 : SX4) (g_x_kept1 : SX4) (g_x_laid : SX4) (g_x_tale : SX3) (g_x_tale_claims : SX0) (g_x_tale_ends : SX1) (g_x_text : SX4) (g_x_town : SX5) (g_x_town_claims : SX0) (g_x_town_ends : SX1) (g_m_text : SX7_text) (g_m_laid : SX7_laid) (g_m_ends : SX7_ends) (g_m_due : SX7_due) (g_m_rec : SX7_rec) (g_m_cor : SX7_cor) (g_m_town : SX7_town) (g_m_tmp : SX7_tmp) (g_m_part : SX7_part) (g_m_keep : SX7_keep) (g_m_way : SX7_way), K ((0 : Int32) + 6) g_x g_x_joins g_x_joins_trial g_x_kept0 g_x_kept1 g_x_laid g_x_tale g_x_tale_claims g_x_tale_ends g_x_text g_x_town g_x_town_claims g_x_town_ends g_m_text g_m_laid g_m_ends g_m_due g_m_rec g_m_cor g_m_town g_m_tmp g_m_part g_m_keep g_m_way) : wL_law_B226 kFuel 6 xs K 0 iSX6 iSX2 iSX1 iSX4 iSX4 iSX4 iSX3 iSX0 iSX1 iSX4 iSX5 iSX0 iSX1 iSX7_text iSX7_laid iSX7_ends iSX7_due iSX7_rec iSX7_cor iSX7_town iSX7_tmp iSX7_part iSX7_keep iSX7_way := by
  unfold wL_law_B226
  repeat (with_reducible (refine ev_v (by decide +kernel) ?_))
  refine v_X6_doubt (fun _ => ?_)
  repeat (with_reducible (refine ev_v (by decide +kernel) ?_))
  refine v_X7_doubt (fun _ => ?_)
  exact ev_t rfl (hK _ _ _ _ _ _ _ _ _ _ _ _ _ _ _ _ _ _ _ _ _ _ _ _)

set_option maxHeartbeats 4000000 in
set_option maxRecDepth 100000 in
theorem b_corner {xs : Nat → Int32} {K : Int32 → SX6 → SX2 → SX1 → SX4 → SX4 → SX4 → SX3 → SX0 → SX1 → SX4 → SX5 → SX0 → SX1 → SX7_text → SX7_laid → SX7_ends → SX7_due → SX7_rec → SX7_cor → SX7_town → SX7_tmp → SX7_part → SX7_keep → SX7_way → Prop} (hK : ∀ (g_x : SX6) (g_x_joins : SX2) (g_x_joins_trial : SX1) (g_x_kept0 : SX4) (g_x_kept1 : SX4) (g_x_laid : SX4) (g_x_tale : SX3) (g_x_tale_claims : SX0) (g_x_tale_ends : SX1) (g_x_text : SX4) (g_x_town : SX5) (g_x_town_claims : SX0) (g_x_town_ends : SX1) (g_m_text : SX7_text) (g_m_laid : SX7_laid) (g_m_ends : SX7_ends) (g_m_due : SX7_due) (g_m_rec : SX7_rec) (g_m_cor : SX7_cor) (g_m_town : SX7_town) (g_m_tmp : SX7_tmp) (g_m_part : SX7_part) (g_m_keep : SX7_keep) (g_m_way : SX7_way), K ((0 : Int32) + 6) g_x g_x_joins g_x_joins_trial g_x_kept0 g_x_kept1 g_x_laid g_x_tale g_x_tale_claims g_x_tale_ends g_x_text g_x_town g_x_town_claims g_x_town_ends g_m_text g_m_laid g_m_ends g_m_due g_m_rec g_m_cor g_m_town g_m_tmp g_m_part g_m_keep g_m_way) : wL_law_B288 kFuel 6 xs K 0 iSX6 iSX2 iSX1 iSX4 iSX4 iSX4 iSX3 iSX0 iSX1 iSX4 iSX5 iSX0 iSX1 iSX7_text iSX7_laid iSX7_ends iSX7_due iSX7_rec iSX7_cor iSX7_town iSX7_tmp iSX7_part iSX7_keep iSX7_way := by
  unfold wL_law_B288
  repeat (with_reducible (refine ev_v (by decide +kernel) ?_))
  refine v_X6_corner (fun _ _ _ _ _ _ _ _ => ?_)
  repeat (with_reducible (refine ev_v (by decide +kernel) ?_))
  refine v_X7_corner (fun _ _ _ _ _ _ => ?_)
  exact ev_t rfl (hK _ _ _ _ _ _ _ _ _ _ _ _ _ _ _ _ _ _ _ _ _ _ _ _)

set_option maxHeartbeats 4000000 in
set_option maxRecDepth 100000 in
theorem b_about {xs : Nat → Int32} {K : Int32 → SX6 → SX2 → SX1 → SX4 → SX4 → SX4 → SX3 → SX0 → SX1 → SX4 → SX5 → SX0 → SX1 → SX7_text → SX7_laid → SX7_ends → SX7_due → SX7_rec → SX7_cor → SX7_town → SX7_tmp → SX7_part → SX7_keep → SX7_way → Prop} (hK : ∀ (g_x : SX6) (g_x_joins : SX2) (g_x_joins_trial : SX1) (g_x_kept0 : SX4) (g_x_kept1 : SX4) (g_x_laid : SX4) (g_x_tale : SX3) (g_x_tale_claims : SX0) (g_x_tale_ends : SX1) (g_x_text : SX4) (g_x_town : SX5) (g_x_town_claims : SX0) (g_x_town_ends : SX1) (g_m_text : SX7_text) (g_m_laid : SX7_laid) (g_m_ends : SX7_ends) (g_m_due : SX7_due) (g_m_rec : SX7_rec) (g_m_cor : SX7_cor) (g_m_town : SX7_town) (g_m_tmp : SX7_tmp) (g_m_part : SX7_part) (g_m_keep : SX7_keep) (g_m_way : SX7_way), K ((0 : Int32) + 6) g_x g_x_joins g_x_joins_trial g_x_kept0 g_x_kept1 g_x_laid g_x_tale g_x_tale_claims g_x_tale_ends g_x_text g_x_town g_x_town_claims g_x_town_ends g_m_text g_m_laid g_m_ends g_m_due g_m_rec g_m_cor g_m_town g_m_tmp g_m_part g_m_keep g_m_way) : wL_law_B321 kFuel 6 xs K 0 iSX6 iSX2 iSX1 iSX4 iSX4 iSX4 iSX3 iSX0 iSX1 iSX4 iSX5 iSX0 iSX1 iSX7_text iSX7_laid iSX7_ends iSX7_due iSX7_rec iSX7_cor iSX7_town iSX7_tmp iSX7_part iSX7_keep iSX7_way := by
  unfold wL_law_B321
  repeat (with_reducible (refine ev_v (by decide +kernel) ?_))
  refine v_X6_about (fun _ _ _ _ _ _ _ _ => ?_)
  repeat (with_reducible (refine ev_v (by decide +kernel) ?_))
  refine v_X7_about (fun _ _ _ _ _ _ => ?_)
  exact ev_t rfl (hK _ _ _ _ _ _ _ _ _ _ _ _ _ _ _ _ _ _ _ _ _ _ _ _)

set_option maxHeartbeats 4000000 in
set_option maxRecDepth 100000 in
theorem b_town {xs : Nat → Int32} {K : Int32 → SX6 → SX2 → SX1 → SX4 → SX4 → SX4 → SX3 → SX0 → SX1 → SX4 → SX5 → SX0 → SX1 → SX7_text → SX7_laid → SX7_ends → SX7_due → SX7_rec → SX7_cor → SX7_town → SX7_tmp → SX7_part → SX7_keep → SX7_way → Prop} (hK : ∀ (g_x : SX6) (g_x_joins : SX2) (g_x_joins_trial : SX1) (g_x_kept0 : SX4) (g_x_kept1 : SX4) (g_x_laid : SX4) (g_x_tale : SX3) (g_x_tale_claims : SX0) (g_x_tale_ends : SX1) (g_x_text : SX4) (g_x_town : SX5) (g_x_town_claims : SX0) (g_x_town_ends : SX1) (g_m_text : SX7_text) (g_m_laid : SX7_laid) (g_m_ends : SX7_ends) (g_m_due : SX7_due) (g_m_rec : SX7_rec) (g_m_cor : SX7_cor) (g_m_town : SX7_town) (g_m_tmp : SX7_tmp) (g_m_part : SX7_part) (g_m_keep : SX7_keep) (g_m_way : SX7_way), K ((0 : Int32) + 6) g_x g_x_joins g_x_joins_trial g_x_kept0 g_x_kept1 g_x_laid g_x_tale g_x_tale_claims g_x_tale_ends g_x_text g_x_town g_x_town_claims g_x_town_ends g_m_text g_m_laid g_m_ends g_m_due g_m_rec g_m_cor g_m_town g_m_tmp g_m_part g_m_keep g_m_way) : wL_law_B354 kFuel 6 xs K 0 iSX6 iSX2 iSX1 iSX4 iSX4 iSX4 iSX3 iSX0 iSX1 iSX4 iSX5 iSX0 iSX1 iSX7_text iSX7_laid iSX7_ends iSX7_due iSX7_rec iSX7_cor iSX7_town iSX7_tmp iSX7_part iSX7_keep iSX7_way := by
  unfold wL_law_B354
  repeat (with_reducible (refine ev_v (by decide +kernel) ?_))
  refine v_X6_town (fun _ _ _ _ _ _ _ _ => ?_)
  repeat (with_reducible (refine ev_v (by decide +kernel) ?_))
  refine v_X7_town (fun _ _ _ _ _ _ _ => ?_)
  exact ev_t rfl (hK _ _ _ _ _ _ _ _ _ _ _ _ _ _ _ _ _ _ _ _ _ _ _ _)

set_option maxHeartbeats 4000000 in
set_option maxRecDepth 100000 in
theorem b_may {xs : Nat → Int32} {K : Int32 → SX6 → SX2 → SX1 → SX4 → SX4 → SX4 → SX3 → SX0 → SX1 → SX4 → SX5 → SX0 → SX1 → SX7_text → SX7_laid → SX7_ends → SX7_due → SX7_rec → SX7_cor → SX7_town → SX7_tmp → SX7_part → SX7_keep → SX7_way → Prop} (hK : ∀ (g_x : SX6) (g_x_joins : SX2) (g_x_joins_trial : SX1) (g_x_kept0 : SX4) (g_x_kept1 : SX4) (g_x_laid : SX4) (g_x_tale : SX3) (g_x_tale_claims : SX0) (g_x_tale_ends : SX1) (g_x_text : SX4) (g_x_town : SX5) (g_x_town_claims : SX0) (g_x_town_ends : SX1) (g_m_text : SX7_text) (g_m_laid : SX7_laid) (g_m_ends : SX7_ends) (g_m_due : SX7_due) (g_m_rec : SX7_rec) (g_m_cor : SX7_cor) (g_m_town : SX7_town) (g_m_tmp : SX7_tmp) (g_m_part : SX7_part) (g_m_keep : SX7_keep) (g_m_way : SX7_way), K ((0 : Int32) + 6) g_x g_x_joins g_x_joins_trial g_x_kept0 g_x_kept1 g_x_laid g_x_tale g_x_tale_claims g_x_tale_ends g_x_text g_x_town g_x_town_claims g_x_town_ends g_m_text g_m_laid g_m_ends g_m_due g_m_rec g_m_cor g_m_town g_m_tmp g_m_part g_m_keep g_m_way) : wL_law_B377 kFuel 6 xs K 0 iSX6 iSX2 iSX1 iSX4 iSX4 iSX4 iSX3 iSX0 iSX1 iSX4 iSX5 iSX0 iSX1 iSX7_text iSX7_laid iSX7_ends iSX7_due iSX7_rec iSX7_cor iSX7_town iSX7_tmp iSX7_part iSX7_keep iSX7_way := by
  unfold wL_law_B377
  repeat (with_reducible (refine ev_v (by decide +kernel) ?_))
  refine v_X6_may (fun _ _ _ _ _ _ _ _ _ => ?_)
  repeat (with_reducible (refine ev_v (by decide +kernel) ?_))
  refine v_X7_may (fun _ _ _ _ _ _ => ?_)
  exact ev_t rfl (hK _ _ _ _ _ _ _ _ _ _ _ _ _ _ _ _ _ _ _ _ _ _ _ _)

set_option maxHeartbeats 4000000 in
set_option maxRecDepth 100000 in
theorem b_way {xs : Nat → Int32} {K : Int32 → SX6 → SX2 → SX1 → SX4 → SX4 → SX4 → SX3 → SX0 → SX1 → SX4 → SX5 → SX0 → SX1 → SX7_text → SX7_laid → SX7_ends → SX7_due → SX7_rec → SX7_cor → SX7_town → SX7_tmp → SX7_part → SX7_keep → SX7_way → Prop} (hK : ∀ (g_x : SX6) (g_x_joins : SX2) (g_x_joins_trial : SX1) (g_x_kept0 : SX4) (g_x_kept1 : SX4) (g_x_laid : SX4) (g_x_tale : SX3) (g_x_tale_claims : SX0) (g_x_tale_ends : SX1) (g_x_text : SX4) (g_x_town : SX5) (g_x_town_claims : SX0) (g_x_town_ends : SX1) (g_m_text : SX7_text) (g_m_laid : SX7_laid) (g_m_ends : SX7_ends) (g_m_due : SX7_due) (g_m_rec : SX7_rec) (g_m_cor : SX7_cor) (g_m_town : SX7_town) (g_m_tmp : SX7_tmp) (g_m_part : SX7_part) (g_m_keep : SX7_keep) (g_m_way : SX7_way), K ((0 : Int32) + 6) g_x g_x_joins g_x_joins_trial g_x_kept0 g_x_kept1 g_x_laid g_x_tale g_x_tale_claims g_x_tale_ends g_x_text g_x_town g_x_town_claims g_x_town_ends g_m_text g_m_laid g_m_ends g_m_due g_m_rec g_m_cor g_m_town g_m_tmp g_m_part g_m_keep g_m_way) : wL_law_B446 kFuel 6 xs K 0 iSX6 iSX2 iSX1 iSX4 iSX4 iSX4 iSX3 iSX0 iSX1 iSX4 iSX5 iSX0 iSX1 iSX7_text iSX7_laid iSX7_ends iSX7_due iSX7_rec iSX7_cor iSX7_town iSX7_tmp iSX7_part iSX7_keep iSX7_way := by
  unfold wL_law_B446
  repeat (with_reducible (refine ev_v (by decide +kernel) ?_))
  refine v_X6_way (fun _ _ _ _ _ _ _ _ => ?_)
  repeat (with_reducible (refine ev_v (by decide +kernel) ?_))
  refine v_X7_way (fun _ _ _ _ _ _ _ => ?_)
  exact ev_t rfl (hK _ _ _ _ _ _ _ _ _ _ _ _ _ _ _ _ _ _ _ _ _ _ _ _)

set_option maxHeartbeats 4000000 in
set_option maxRecDepth 100000 in
theorem b_count {xs : Nat → Int32} {K : Int32 → SX6 → SX2 → SX1 → SX4 → SX4 → SX4 → SX3 → SX0 → SX1 → SX4 → SX5 → SX0 → SX1 → SX7_text → SX7_laid → SX7_ends → SX7_due → SX7_rec → SX7_cor → SX7_town → SX7_tmp → SX7_part → SX7_keep → SX7_way → Prop} (hK : ∀ (g_x : SX6) (g_x_joins : SX2) (g_x_joins_trial : SX1) (g_x_kept0 : SX4) (g_x_kept1 : SX4) (g_x_laid : SX4) (g_x_tale : SX3) (g_x_tale_claims : SX0) (g_x_tale_ends : SX1) (g_x_text : SX4) (g_x_town : SX5) (g_x_town_claims : SX0) (g_x_town_ends : SX1) (g_m_text : SX7_text) (g_m_laid : SX7_laid) (g_m_ends : SX7_ends) (g_m_due : SX7_due) (g_m_rec : SX7_rec) (g_m_cor : SX7_cor) (g_m_town : SX7_town) (g_m_tmp : SX7_tmp) (g_m_part : SX7_part) (g_m_keep : SX7_keep) (g_m_way : SX7_way), K ((0 : Int32) + 6) g_x g_x_joins g_x_joins_trial g_x_kept0 g_x_kept1 g_x_laid g_x_tale g_x_tale_claims g_x_tale_ends g_x_text g_x_town g_x_town_claims g_x_town_ends g_m_text g_m_laid g_m_ends g_m_due g_m_rec g_m_cor g_m_town g_m_tmp g_m_part g_m_keep g_m_way) : wL_law_B598 kFuel 6 xs K 0 iSX6 iSX2 iSX1 iSX4 iSX4 iSX4 iSX3 iSX0 iSX1 iSX4 iSX5 iSX0 iSX1 iSX7_text iSX7_laid iSX7_ends iSX7_due iSX7_rec iSX7_cor iSX7_town iSX7_tmp iSX7_part iSX7_keep iSX7_way := by
  unfold wL_law_B598
  repeat (with_reducible (refine ev_v (by decide +kernel) ?_))
  refine v_X6_count ?_
  repeat (with_reducible (refine ev_v (by decide +kernel) ?_))
  refine v_X7_count ?_
  exact ev_t rfl (hK _ _ _ _ _ _ _ _ _ _ _ _ _ _ _ _ _ _ _ _ _ _ _ _)

set_option maxHeartbeats 4000000 in
set_option maxRecDepth 100000 in
theorem b_why {xs : Nat → Int32} {K : Int32 → SX6 → SX2 → SX1 → SX4 → SX4 → SX4 → SX3 → SX0 → SX1 → SX4 → SX5 → SX0 → SX1 → SX7_text → SX7_laid → SX7_ends → SX7_due → SX7_rec → SX7_cor → SX7_town → SX7_tmp → SX7_part → SX7_keep → SX7_way → Prop} (hK : ∀ (g_x : SX6) (g_x_joins : SX2) (g_x_joins_trial : SX1) (g_x_kept0 : SX4) (g_x_kept1 : SX4) (g_x_laid : SX4) (g_x_tale : SX3) (g_x_tale_claims : SX0) (g_x_tale_ends : SX1) (g_x_text : SX4) (g_x_town : SX5) (g_x_town_claims : SX0) (g_x_town_ends : SX1) (g_m_text : SX7_text) (g_m_laid : SX7_laid) (g_m_ends : SX7_ends) (g_m_due : SX7_due) (g_m_rec : SX7_rec) (g_m_cor : SX7_cor) (g_m_town : SX7_town) (g_m_tmp : SX7_tmp) (g_m_part : SX7_part) (g_m_keep : SX7_keep) (g_m_way : SX7_way), K ((0 : Int32) + 6) g_x g_x_joins g_x_joins_trial g_x_kept0 g_x_kept1 g_x_laid g_x_tale g_x_tale_claims g_x_tale_ends g_x_text g_x_town g_x_town_claims g_x_town_ends g_m_text g_m_laid g_m_ends g_m_due g_m_rec g_m_cor g_m_town g_m_tmp g_m_part g_m_keep g_m_way) : wL_law_B249 kFuel 6 xs K 0 iSX6 iSX2 iSX1 iSX4 iSX4 iSX4 iSX3 iSX0 iSX1 iSX4 iSX5 iSX0 iSX1 iSX7_text iSX7_laid iSX7_ends iSX7_due iSX7_rec iSX7_cor iSX7_town iSX7_tmp iSX7_part iSX7_keep iSX7_way := by
  unfold wL_law_B249
  repeat (with_reducible (refine ev_v (by decide +kernel) ?_))
  refine v_X6_why (fun _ _ _ _ _ _ _ _ => ?_)
  repeat (with_reducible (refine ev_v (by decide +kernel) ?_))
  refine v_X7_why (fun _ _ _ _ => ?_)
  exact ev_t rfl (hK _ _ _ _ _ _ _ _ _ _ _ _ _ _ _ _ _ _ _ _ _ _ _ _)

set_option maxHeartbeats 4000000 in
set_option maxRecDepth 100000 in
theorem b_fewest {xs : Nat → Int32} {K : Int32 → SX6 → SX2 → SX1 → SX4 → SX4 → SX4 → SX3 → SX0 → SX1 → SX4 → SX5 → SX0 → SX1 → SX7_text → SX7_laid → SX7_ends → SX7_due → SX7_rec → SX7_cor → SX7_town → SX7_tmp → SX7_part → SX7_keep → SX7_way → Prop} (hK : ∀ (g_x : SX6) (g_x_joins : SX2) (g_x_joins_trial : SX1) (g_x_kept0 : SX4) (g_x_kept1 : SX4) (g_x_laid : SX4) (g_x_tale : SX3) (g_x_tale_claims : SX0) (g_x_tale_ends : SX1) (g_x_text : SX4) (g_x_town : SX5) (g_x_town_claims : SX0) (g_x_town_ends : SX1) (g_m_text : SX7_text) (g_m_laid : SX7_laid) (g_m_ends : SX7_ends) (g_m_due : SX7_due) (g_m_rec : SX7_rec) (g_m_cor : SX7_cor) (g_m_town : SX7_town) (g_m_tmp : SX7_tmp) (g_m_part : SX7_part) (g_m_keep : SX7_keep) (g_m_way : SX7_way), K ((0 : Int32) + 6) g_x g_x_joins g_x_joins_trial g_x_kept0 g_x_kept1 g_x_laid g_x_tale g_x_tale_claims g_x_tale_ends g_x_text g_x_town g_x_town_claims g_x_town_ends g_m_text g_m_laid g_m_ends g_m_due g_m_rec g_m_cor g_m_town g_m_tmp g_m_part g_m_keep g_m_way) : wL_law_B262 kFuel 6 xs K 0 iSX6 iSX2 iSX1 iSX4 iSX4 iSX4 iSX3 iSX0 iSX1 iSX4 iSX5 iSX0 iSX1 iSX7_text iSX7_laid iSX7_ends iSX7_due iSX7_rec iSX7_cor iSX7_town iSX7_tmp iSX7_part iSX7_keep iSX7_way := by
  unfold wL_law_B262
  repeat (with_reducible (refine ev_v (by decide +kernel) ?_))
  refine v_X6_fewest (fun _ _ _ _ => ?_)
  repeat (with_reducible (refine ev_v (by decide +kernel) ?_))
  refine v_X7_fewest (fun _ _ _ _ => ?_)
  exact ev_t rfl (hK _ _ _ _ _ _ _ _ _ _ _ _ _ _ _ _ _ _ _ _ _ _ _ _)

set_option maxHeartbeats 4000000 in
set_option maxRecDepth 100000 in
theorem b_corners {xs : Nat → Int32} {K : Int32 → SX6 → SX2 → SX1 → SX4 → SX4 → SX4 → SX3 → SX0 → SX1 → SX4 → SX5 → SX0 → SX1 → SX7_text → SX7_laid → SX7_ends → SX7_due → SX7_rec → SX7_cor → SX7_town → SX7_tmp → SX7_part → SX7_keep → SX7_way → Prop} (hK : ∀ (g_x : SX6) (g_x_joins : SX2) (g_x_joins_trial : SX1) (g_x_kept0 : SX4) (g_x_kept1 : SX4) (g_x_laid : SX4) (g_x_tale : SX3) (g_x_tale_claims : SX0) (g_x_tale_ends : SX1) (g_x_text : SX4) (g_x_town : SX5) (g_x_town_claims : SX0) (g_x_town_ends : SX1) (g_m_text : SX7_text) (g_m_laid : SX7_laid) (g_m_ends : SX7_ends) (g_m_due : SX7_due) (g_m_rec : SX7_rec) (g_m_cor : SX7_cor) (g_m_town : SX7_town) (g_m_tmp : SX7_tmp) (g_m_part : SX7_part) (g_m_keep : SX7_keep) (g_m_way : SX7_way), K ((0 : Int32) + 6) g_x g_x_joins g_x_joins_trial g_x_kept0 g_x_kept1 g_x_laid g_x_tale g_x_tale_claims g_x_tale_ends g_x_text g_x_town g_x_town_claims g_x_town_ends g_m_text g_m_laid g_m_ends g_m_due g_m_rec g_m_cor g_m_town g_m_tmp g_m_part g_m_keep g_m_way) : wL_law_B275 kFuel 6 xs K 0 iSX6 iSX2 iSX1 iSX4 iSX4 iSX4 iSX3 iSX0 iSX1 iSX4 iSX5 iSX0 iSX1 iSX7_text iSX7_laid iSX7_ends iSX7_due iSX7_rec iSX7_cor iSX7_town iSX7_tmp iSX7_part iSX7_keep iSX7_way := by
  unfold wL_law_B275
  repeat (with_reducible (refine ev_v (by decide +kernel) ?_))
  refine v_X6_corners (fun _ _ _ _ _ _ _ _ => ?_)
  repeat (with_reducible (refine ev_v (by decide +kernel) ?_))
  refine v_X7_corners (fun _ _ _ _ _ _ => ?_)
  exact ev_t rfl (hK _ _ _ _ _ _ _ _ _ _ _ _ _ _ _ _ _ _ _ _ _ _ _ _)

set_option maxHeartbeats 4000000 in
set_option maxRecDepth 100000 in
theorem b_smallest {xs : Nat → Int32} {K : Int32 → SX6 → SX2 → SX1 → SX4 → SX4 → SX4 → SX3 → SX0 → SX1 → SX4 → SX5 → SX0 → SX1 → SX7_text → SX7_laid → SX7_ends → SX7_due → SX7_rec → SX7_cor → SX7_town → SX7_tmp → SX7_part → SX7_keep → SX7_way → Prop} (hK : ∀ (g_x : SX6) (g_x_joins : SX2) (g_x_joins_trial : SX1) (g_x_kept0 : SX4) (g_x_kept1 : SX4) (g_x_laid : SX4) (g_x_tale : SX3) (g_x_tale_claims : SX0) (g_x_tale_ends : SX1) (g_x_text : SX4) (g_x_town : SX5) (g_x_town_claims : SX0) (g_x_town_ends : SX1) (g_m_text : SX7_text) (g_m_laid : SX7_laid) (g_m_ends : SX7_ends) (g_m_due : SX7_due) (g_m_rec : SX7_rec) (g_m_cor : SX7_cor) (g_m_town : SX7_town) (g_m_tmp : SX7_tmp) (g_m_part : SX7_part) (g_m_keep : SX7_keep) (g_m_way : SX7_way), K ((0 : Int32) + 6) g_x g_x_joins g_x_joins_trial g_x_kept0 g_x_kept1 g_x_laid g_x_tale g_x_tale_claims g_x_tale_ends g_x_text g_x_town g_x_town_claims g_x_town_ends g_m_text g_m_laid g_m_ends g_m_due g_m_rec g_m_cor g_m_town g_m_tmp g_m_part g_m_keep g_m_way) : wL_law_B433 kFuel 6 xs K 0 iSX6 iSX2 iSX1 iSX4 iSX4 iSX4 iSX3 iSX0 iSX1 iSX4 iSX5 iSX0 iSX1 iSX7_text iSX7_laid iSX7_ends iSX7_due iSX7_rec iSX7_cor iSX7_town iSX7_tmp iSX7_part iSX7_keep iSX7_way := by
  unfold wL_law_B433
  repeat (with_reducible (refine ev_v (by decide +kernel) ?_))
  refine v_X6_smallest (fun _ _ _ _ _ _ _ _ _ => ?_)
  repeat (with_reducible (refine ev_v (by decide +kernel) ?_))
  refine v_X7_smallest (fun _ _ _ _ _ _ _ => ?_)
  exact ev_t rfl (hK _ _ _ _ _ _ _ _ _ _ _ _ _ _ _ _ _ _ _ _ _ _ _ _)

set_option maxHeartbeats 4000000 in
set_option maxRecDepth 100000 in
theorem b_write {xs : Nat → Int32} {K : Int32 → SX6 → SX2 → SX1 → SX4 → SX4 → SX4 → SX3 → SX0 → SX1 → SX4 → SX5 → SX0 → SX1 → SX7_text → SX7_laid → SX7_ends → SX7_due → SX7_rec → SX7_cor → SX7_town → SX7_tmp → SX7_part → SX7_keep → SX7_way → Prop} (hK : ∀ (g_x : SX6) (g_x_joins : SX2) (g_x_joins_trial : SX1) (g_x_kept0 : SX4) (g_x_kept1 : SX4) (g_x_laid : SX4) (g_x_tale : SX3) (g_x_tale_claims : SX0) (g_x_tale_ends : SX1) (g_x_text : SX4) (g_x_town : SX5) (g_x_town_claims : SX0) (g_x_town_ends : SX1) (g_m_text : SX7_text) (g_m_laid : SX7_laid) (g_m_ends : SX7_ends) (g_m_due : SX7_due) (g_m_rec : SX7_rec) (g_m_cor : SX7_cor) (g_m_town : SX7_town) (g_m_tmp : SX7_tmp) (g_m_part : SX7_part) (g_m_keep : SX7_keep) (g_m_way : SX7_way), K ((0 : Int32) + 6) g_x g_x_joins g_x_joins_trial g_x_kept0 g_x_kept1 g_x_laid g_x_tale g_x_tale_claims g_x_tale_ends g_x_text g_x_town g_x_town_claims g_x_town_ends g_m_text g_m_laid g_m_ends g_m_due g_m_rec g_m_cor g_m_town g_m_tmp g_m_part g_m_keep g_m_way) : wL_law_B124 kFuel 6 xs K 0 iSX6 iSX2 iSX1 iSX4 iSX4 iSX4 iSX3 iSX0 iSX1 iSX4 iSX5 iSX0 iSX1 iSX7_text iSX7_laid iSX7_ends iSX7_due iSX7_rec iSX7_cor iSX7_town iSX7_tmp iSX7_part iSX7_keep iSX7_way := by
  unfold wL_law_B124
  repeat (with_reducible (refine ev_v (by decide +kernel) ?_))
  refine v_X6_write (fun a _ => ?_) (fun a b _ => ?_)
  · repeat (with_reducible (refine ev_v (by decide +kernel) ?_))
    refine v_X7_write (fun _ _ => ev_t rfl (hK _ _ _ _ _ _ _ _ _ _ _ _ _ _ _ _ _ _ _ _ _ _ _ _)) (fun a1 a2 _ => (a.elim (fun q => (a1 q).elim) (fun q => (q a2).elim)))
  · repeat (with_reducible (refine ev_v (by decide +kernel) ?_))
    refine v_X7_write (fun c _ => (c.elim (fun q => (a q).elim) (fun q => (q b).elim))) (fun _ _ _ => ev_t rfl (hK _ _ _ _ _ _ _ _ _ _ _ _ _ _ _ _ _ _ _ _ _ _ _ _))

set_option maxHeartbeats 4000000 in
set_option maxRecDepth 100000 in
theorem b_told {xs : Nat → Int32} {K : Int32 → SX6 → SX2 → SX1 → SX4 → SX4 → SX4 → SX3 → SX0 → SX1 → SX4 → SX5 → SX0 → SX1 → SX7_text → SX7_laid → SX7_ends → SX7_due → SX7_rec → SX7_cor → SX7_town → SX7_tmp → SX7_part → SX7_keep → SX7_way → Prop} (hK : ∀ (g_x : SX6) (g_x_joins : SX2) (g_x_joins_trial : SX1) (g_x_kept0 : SX4) (g_x_kept1 : SX4) (g_x_laid : SX4) (g_x_tale : SX3) (g_x_tale_claims : SX0) (g_x_tale_ends : SX1) (g_x_text : SX4) (g_x_town : SX5) (g_x_town_claims : SX0) (g_x_town_ends : SX1) (g_m_text : SX7_text) (g_m_laid : SX7_laid) (g_m_ends : SX7_ends) (g_m_due : SX7_due) (g_m_rec : SX7_rec) (g_m_cor : SX7_cor) (g_m_town : SX7_town) (g_m_tmp : SX7_tmp) (g_m_part : SX7_part) (g_m_keep : SX7_keep) (g_m_way : SX7_way), K ((0 : Int32) + 6) g_x g_x_joins g_x_joins_trial g_x_kept0 g_x_kept1 g_x_laid g_x_tale g_x_tale_claims g_x_tale_ends g_x_text g_x_town g_x_town_claims g_x_town_ends g_m_text g_m_laid g_m_ends g_m_due g_m_rec g_m_cor g_m_town g_m_tmp g_m_part g_m_keep g_m_way) : wL_law_B489 kFuel 6 xs K 0 iSX6 iSX2 iSX1 iSX4 iSX4 iSX4 iSX3 iSX0 iSX1 iSX4 iSX5 iSX0 iSX1 iSX7_text iSX7_laid iSX7_ends iSX7_due iSX7_rec iSX7_cor iSX7_town iSX7_tmp iSX7_part iSX7_keep iSX7_way := by
  unfold wL_law_B489
  repeat (with_reducible (refine ev_v (by decide +kernel) ?_))
  refine v_X6_told (fun t _ _ _ _ _ _ _ _ => ?_) (fun t _ _ _ _ _ _ _ _ => ?_)
  · repeat (with_reducible (refine ev_v (by decide +kernel) ?_))
    refine v_X7_told (fun _ _ _ _ _ _ _ => ev_t rfl (hK _ _ _ _ _ _ _ _ _ _ _ _ _ _ _ _ _ _ _ _ _ _ _ _)) (fun n _ _ _ _ _ _ => absurd t n)
  · repeat (with_reducible (refine ev_v (by decide +kernel) ?_))
    refine v_X7_told (fun n _ _ _ _ _ _ => absurd n t) (fun _ _ _ _ _ _ _ => ev_t rfl (hK _ _ _ _ _ _ _ _ _ _ _ _ _ _ _ _ _ _ _ _ _ _ _ _))

set_option maxHeartbeats 4000000 in
set_option maxRecDepth 100000 in
theorem b_pairs {xs : Nat → Int32} {K : Int32 → SX6 → SX2 → SX1 → SX4 → SX4 → SX4 → SX3 → SX0 → SX1 → SX4 → SX5 → SX0 → SX1 → SX7_text → SX7_laid → SX7_ends → SX7_due → SX7_rec → SX7_cor → SX7_town → SX7_tmp → SX7_part → SX7_keep → SX7_way → Prop} (hK : ∀ (g_x : SX6) (g_x_joins : SX2) (g_x_joins_trial : SX1) (g_x_kept0 : SX4) (g_x_kept1 : SX4) (g_x_laid : SX4) (g_x_tale : SX3) (g_x_tale_claims : SX0) (g_x_tale_ends : SX1) (g_x_text : SX4) (g_x_town : SX5) (g_x_town_claims : SX0) (g_x_town_ends : SX1) (g_m_text : SX7_text) (g_m_laid : SX7_laid) (g_m_ends : SX7_ends) (g_m_due : SX7_due) (g_m_rec : SX7_rec) (g_m_cor : SX7_cor) (g_m_town : SX7_town) (g_m_tmp : SX7_tmp) (g_m_part : SX7_part) (g_m_keep : SX7_keep) (g_m_way : SX7_way), K ((0 : Int32) + 6) g_x g_x_joins g_x_joins_trial g_x_kept0 g_x_kept1 g_x_laid g_x_tale g_x_tale_claims g_x_tale_ends g_x_text g_x_town g_x_town_claims g_x_town_ends g_m_text g_m_laid g_m_ends g_m_due g_m_rec g_m_cor g_m_town g_m_tmp g_m_part g_m_keep g_m_way) : wL_law_B410 kFuel 6 xs K 0 iSX6 iSX2 iSX1 iSX4 iSX4 iSX4 iSX3 iSX0 iSX1 iSX4 iSX5 iSX0 iSX1 iSX7_text iSX7_laid iSX7_ends iSX7_due iSX7_rec iSX7_cor iSX7_town iSX7_tmp iSX7_part iSX7_keep iSX7_way := by
  unfold wL_law_B410
  repeat (with_reducible (refine ev_v (by decide +kernel) ?_))
  refine v_X6_pairs (fun a _ _ _ _ _ _ _ _ _ => ?_) (fun a _ _ _ _ _ _ _ _ _ => ?_) (fun a b _ _ _ _ _ _ _ _ _ => ?_)
  · repeat (with_reducible (refine ev_v (by decide +kernel) ?_))
    exact v_X7_pairs (fun _ _ _ _ _ _ _ => ev_t rfl (hK _ _ _ _ _ _ _ _ _ _ _ _ _ _ _ _ _ _ _ _ _ _ _ _)) (fun e _ _ _ _ _ _ => absurd (by rw [e]; decide) a) (fun b _ _ _ _ _ _ _ => absurd b a)
  · repeat (with_reducible (refine ev_v (by decide +kernel) ?_))
    exact v_X7_pairs (fun n _ _ _ _ _ _ => absurd (by rw [a]; decide) n) (fun _ _ _ _ _ _ _ => ev_t rfl (hK _ _ _ _ _ _ _ _ _ _ _ _ _ _ _ _ _ _ _ _ _ _ _ _)) (fun _ n _ _ _ _ _ _ => absurd a n)
  · repeat (with_reducible (refine ev_v (by decide +kernel) ?_))
    exact v_X7_pairs (fun n _ _ _ _ _ _ => absurd a n) (fun e _ _ _ _ _ _ => absurd e b) (fun _ _ _ _ _ _ _ _ => ev_t rfl (hK _ _ _ _ _ _ _ _ _ _ _ _ _ _ _ _ _ _ _ _ _ _ _ _))

set_option maxHeartbeats 4000000 in
set_option maxRecDepth 100000 in
theorem b_wipe {xs : Nat → Int32} {K : Int32 → SX6 → SX2 → SX1 → SX4 → SX4 → SX4 → SX3 → SX0 → SX1 → SX4 → SX5 → SX0 → SX1 → SX7_text → SX7_laid → SX7_ends → SX7_due → SX7_rec → SX7_cor → SX7_town → SX7_tmp → SX7_part → SX7_keep → SX7_way → Prop} (hK : ∀ (g_x : SX6) (g_x_joins : SX2) (g_x_joins_trial : SX1) (g_x_kept0 : SX4) (g_x_kept1 : SX4) (g_x_laid : SX4) (g_x_tale : SX3) (g_x_tale_claims : SX0) (g_x_tale_ends : SX1) (g_x_text : SX4) (g_x_town : SX5) (g_x_town_claims : SX0) (g_x_town_ends : SX1) (g_m_text : SX7_text) (g_m_laid : SX7_laid) (g_m_ends : SX7_ends) (g_m_due : SX7_due) (g_m_rec : SX7_rec) (g_m_cor : SX7_cor) (g_m_town : SX7_town) (g_m_tmp : SX7_tmp) (g_m_part : SX7_part) (g_m_keep : SX7_keep) (g_m_way : SX7_way), K ((0 : Int32) + 6) g_x g_x_joins g_x_joins_trial g_x_kept0 g_x_kept1 g_x_laid g_x_tale g_x_tale_claims g_x_tale_ends g_x_text g_x_town g_x_town_claims g_x_town_ends g_m_text g_m_laid g_m_ends g_m_due g_m_rec g_m_cor g_m_town g_m_tmp g_m_part g_m_keep g_m_way) : wL_law_B187 kFuel 6 xs K 0 iSX6 iSX2 iSX1 iSX4 iSX4 iSX4 iSX3 iSX0 iSX1 iSX4 iSX5 iSX0 iSX1 iSX7_text iSX7_laid iSX7_ends iSX7_due iSX7_rec iSX7_cor iSX7_town iSX7_tmp iSX7_part iSX7_keep iSX7_way := by
  repeat' first
    | (exact hK _ _ _ _ _ _ _ _ _ _ _ _ _ _ _ _ _ _ _ _ _ _ _ _)
    | (with_reducible (refine fill_eq (by decide) (by decide) ?_))
    | (refine ev_v (by decide +kernel) ?_)
    | (refine ev_t (by decide +kernel) ?_)
    | (refine ev_f (by decide +kernel) ?_)
    | (refine ev_nt (by decide +kernel) ?_)
    | (refine ev_nf (by decide +kernel) ?_)
    | (refine ⟨isB_0, ?_⟩)
    | (refine ⟨isB_1, ?_⟩)
    | (refine ⟨by decide +kernel, ?_⟩)
    | (refine ev_0 (by decide +kernel) ?_)
    | (refine ev_s (by decide +kernel) ?_)
    | (refine ev_l (by decide +kernel) ?_)
    | (refine ev_sw (by decide +kernel) ?_ ?_)
    | (refine ev_d (by decide +kernel))
    | (with_reducible (refine ev_dn ?_))
    | (fail)

set_option maxHeartbeats 4000000 in
set_option maxRecDepth 100000 in
theorem b_fault {xs : Nat → Int32} {K : Int32 → SX6 → SX2 → SX1 → SX4 → SX4 → SX4 → SX3 → SX0 → SX1 → SX4 → SX5 → SX0 → SX1 → SX7_text → SX7_laid → SX7_ends → SX7_due → SX7_rec → SX7_cor → SX7_town → SX7_tmp → SX7_part → SX7_keep → SX7_way → Prop} (hK : ∀ (g_x : SX6) (g_x_joins : SX2) (g_x_joins_trial : SX1) (g_x_kept0 : SX4) (g_x_kept1 : SX4) (g_x_laid : SX4) (g_x_tale : SX3) (g_x_tale_claims : SX0) (g_x_tale_ends : SX1) (g_x_text : SX4) (g_x_town : SX5) (g_x_town_claims : SX0) (g_x_town_ends : SX1) (g_m_text : SX7_text) (g_m_laid : SX7_laid) (g_m_ends : SX7_ends) (g_m_due : SX7_due) (g_m_rec : SX7_rec) (g_m_cor : SX7_cor) (g_m_town : SX7_town) (g_m_tmp : SX7_tmp) (g_m_part : SX7_part) (g_m_keep : SX7_keep) (g_m_way : SX7_way), K ((0 : Int32) + 6) g_x g_x_joins g_x_joins_trial g_x_kept0 g_x_kept1 g_x_laid g_x_tale g_x_tale_claims g_x_tale_ends g_x_text g_x_town g_x_town_claims g_x_town_ends g_m_text g_m_laid g_m_ends g_m_due g_m_rec g_m_cor g_m_town g_m_tmp g_m_part g_m_keep g_m_way) : wL_law_B200 kFuel 6 xs K 0 iSX6 iSX2 iSX1 iSX4 iSX4 iSX4 iSX3 iSX0 iSX1 iSX4 iSX5 iSX0 iSX1 iSX7_text iSX7_laid iSX7_ends iSX7_due iSX7_rec iSX7_cor iSX7_town iSX7_tmp iSX7_part iSX7_keep iSX7_way := by
  repeat' first
    | (exact hK _ _ _ _ _ _ _ _ _ _ _ _ _ _ _ _ _ _ _ _ _ _ _ _)
    | (with_reducible (refine fill_eq (by decide) (by decide) ?_))
    | (refine ev_v (by decide +kernel) ?_)
    | (refine ev_t (by decide +kernel) ?_)
    | (refine ev_f (by decide +kernel) ?_)
    | (refine ev_nt (by decide +kernel) ?_)
    | (refine ev_nf (by decide +kernel) ?_)
    | (refine ⟨isB_0, ?_⟩)
    | (refine ⟨isB_1, ?_⟩)
    | (refine ⟨by decide +kernel, ?_⟩)
    | (refine ev_0 (by decide +kernel) ?_)
    | (refine ev_s (by decide +kernel) ?_)
    | (refine ev_l (by decide +kernel) ?_)
    | (refine ev_sw (by decide +kernel) ?_ ?_)
    | (refine ev_d (by decide +kernel))
    | (with_reducible (refine ev_dn ?_))
    | (fail)

set_option maxHeartbeats 4000000 in
set_option maxRecDepth 100000 in
theorem b_lay {xs : Nat → Int32} {K : Int32 → SX6 → SX2 → SX1 → SX4 → SX4 → SX4 → SX3 → SX0 → SX1 → SX4 → SX5 → SX0 → SX1 → SX7_text → SX7_laid → SX7_ends → SX7_due → SX7_rec → SX7_cor → SX7_town → SX7_tmp → SX7_part → SX7_keep → SX7_way → Prop} (hK : ∀ (g_x : SX6) (g_x_joins : SX2) (g_x_joins_trial : SX1) (g_x_kept0 : SX4) (g_x_kept1 : SX4) (g_x_laid : SX4) (g_x_tale : SX3) (g_x_tale_claims : SX0) (g_x_tale_ends : SX1) (g_x_text : SX4) (g_x_town : SX5) (g_x_town_claims : SX0) (g_x_town_ends : SX1) (g_m_text : SX7_text) (g_m_laid : SX7_laid) (g_m_ends : SX7_ends) (g_m_due : SX7_due) (g_m_rec : SX7_rec) (g_m_cor : SX7_cor) (g_m_town : SX7_town) (g_m_tmp : SX7_tmp) (g_m_part : SX7_part) (g_m_keep : SX7_keep) (g_m_way : SX7_way), K ((0 : Int32) + 6) g_x g_x_joins g_x_joins_trial g_x_kept0 g_x_kept1 g_x_laid g_x_tale g_x_tale_claims g_x_tale_ends g_x_text g_x_town g_x_town_claims g_x_town_ends g_m_text g_m_laid g_m_ends g_m_due g_m_rec g_m_cor g_m_town g_m_tmp g_m_part g_m_keep g_m_way) : wL_law_B213 kFuel 6 xs K 0 iSX6 iSX2 iSX1 iSX4 iSX4 iSX4 iSX3 iSX0 iSX1 iSX4 iSX5 iSX0 iSX1 iSX7_text iSX7_laid iSX7_ends iSX7_due iSX7_rec iSX7_cor iSX7_town iSX7_tmp iSX7_part iSX7_keep iSX7_way := by
  repeat' first
    | (exact hK _ _ _ _ _ _ _ _ _ _ _ _ _ _ _ _ _ _ _ _ _ _ _ _)
    | (with_reducible (refine fill_eq (by decide) (by decide) ?_))
    | (refine ev_v (by decide +kernel) ?_)
    | (refine ev_t (by decide +kernel) ?_)
    | (refine ev_f (by decide +kernel) ?_)
    | (refine ev_nt (by decide +kernel) ?_)
    | (refine ev_nf (by decide +kernel) ?_)
    | (refine ⟨isB_0, ?_⟩)
    | (refine ⟨isB_1, ?_⟩)
    | (refine ⟨by decide +kernel, ?_⟩)
    | (refine ev_0 (by decide +kernel) ?_)
    | (refine ev_s (by decide +kernel) ?_)
    | (refine ev_l (by decide +kernel) ?_)
    | (refine ev_sw (by decide +kernel) ?_ ?_)
    | (refine ev_d (by decide +kernel))
    | (with_reducible (refine ev_dn ?_))
    | (fail)

set_option maxHeartbeats 4000000 in
set_option maxRecDepth 100000 in
theorem b_back {xs : Nat → Int32} {K : Int32 → SX6 → SX2 → SX1 → SX4 → SX4 → SX4 → SX3 → SX0 → SX1 → SX4 → SX5 → SX0 → SX1 → SX7_text → SX7_laid → SX7_ends → SX7_due → SX7_rec → SX7_cor → SX7_town → SX7_tmp → SX7_part → SX7_keep → SX7_way → Prop} (hK : ∀ (g_x : SX6) (g_x_joins : SX2) (g_x_joins_trial : SX1) (g_x_kept0 : SX4) (g_x_kept1 : SX4) (g_x_laid : SX4) (g_x_tale : SX3) (g_x_tale_claims : SX0) (g_x_tale_ends : SX1) (g_x_text : SX4) (g_x_town : SX5) (g_x_town_claims : SX0) (g_x_town_ends : SX1) (g_m_text : SX7_text) (g_m_laid : SX7_laid) (g_m_ends : SX7_ends) (g_m_due : SX7_due) (g_m_rec : SX7_rec) (g_m_cor : SX7_cor) (g_m_town : SX7_town) (g_m_tmp : SX7_tmp) (g_m_part : SX7_part) (g_m_keep : SX7_keep) (g_m_way : SX7_way), K ((0 : Int32) + 6) g_x g_x_joins g_x_joins_trial g_x_kept0 g_x_kept1 g_x_laid g_x_tale g_x_tale_claims g_x_tale_ends g_x_text g_x_town g_x_town_claims g_x_town_ends g_m_text g_m_laid g_m_ends g_m_due g_m_rec g_m_cor g_m_town g_m_tmp g_m_part g_m_keep g_m_way) : wL_law_B585 kFuel 6 xs K 0 iSX6 iSX2 iSX1 iSX4 iSX4 iSX4 iSX3 iSX0 iSX1 iSX4 iSX5 iSX0 iSX1 iSX7_text iSX7_laid iSX7_ends iSX7_due iSX7_rec iSX7_cor iSX7_town iSX7_tmp iSX7_part iSX7_keep iSX7_way := by
  repeat' first
    | (exact hK _ _ _ _ _ _ _ _ _ _ _ _ _ _ _ _ _ _ _ _ _ _ _ _)
    | (with_reducible (refine fill_eq (by decide) (by decide) ?_))
    | (refine ev_v (by decide +kernel) ?_)
    | (refine ev_t (by decide +kernel) ?_)
    | (refine ev_f (by decide +kernel) ?_)
    | (refine ev_nt (by decide +kernel) ?_)
    | (refine ev_nf (by decide +kernel) ?_)
    | (refine ⟨isB_0, ?_⟩)
    | (refine ⟨isB_1, ?_⟩)
    | (refine ⟨by decide +kernel, ?_⟩)
    | (refine ev_0 (by decide +kernel) ?_)
    | (refine ev_s (by decide +kernel) ?_)
    | (refine ev_l (by decide +kernel) ?_)
    | (refine ev_sw (by decide +kernel) ?_ ?_)
    | (refine ev_d (by decide +kernel))
    | (with_reducible (refine ev_dn ?_))
    | (fail)

set_option maxHeartbeats 4000000 in
set_option maxRecDepth 100000 in
theorem b_keep {xs : Nat → Int32} {K : Int32 → SX6 → SX2 → SX1 → SX4 → SX4 → SX4 → SX3 → SX0 → SX1 → SX4 → SX5 → SX0 → SX1 → SX7_text → SX7_laid → SX7_ends → SX7_due → SX7_rec → SX7_cor → SX7_town → SX7_tmp → SX7_part → SX7_keep → SX7_way → Prop} (hK : ∀ (g_x : SX6) (g_x_joins : SX2) (g_x_joins_trial : SX1) (g_x_kept0 : SX4) (g_x_kept1 : SX4) (g_x_laid : SX4) (g_x_tale : SX3) (g_x_tale_claims : SX0) (g_x_tale_ends : SX1) (g_x_text : SX4) (g_x_town : SX5) (g_x_town_claims : SX0) (g_x_town_ends : SX1) (g_m_text : SX7_text) (g_m_laid : SX7_laid) (g_m_ends : SX7_ends) (g_m_due : SX7_due) (g_m_rec : SX7_rec) (g_m_cor : SX7_cor) (g_m_town : SX7_town) (g_m_tmp : SX7_tmp) (g_m_part : SX7_part) (g_m_keep : SX7_keep) (g_m_way : SX7_way), K ((0 : Int32) + 6) g_x g_x_joins g_x_joins_trial g_x_kept0 g_x_kept1 g_x_laid g_x_tale g_x_tale_claims g_x_tale_ends g_x_text g_x_town g_x_town_claims g_x_town_ends g_m_text g_m_laid g_m_ends g_m_due g_m_rec g_m_cor g_m_town g_m_tmp g_m_part g_m_keep g_m_way) : wL_law_B572 kFuel 6 xs K 0 iSX6 iSX2 iSX1 iSX4 iSX4 iSX4 iSX3 iSX0 iSX1 iSX4 iSX5 iSX0 iSX1 iSX7_text iSX7_laid iSX7_ends iSX7_due iSX7_rec iSX7_cor iSX7_town iSX7_tmp iSX7_part iSX7_keep iSX7_way := by
  repeat' first
    | (with_reducible (refine v_X7_keep (fun _ => ?_)))
    | (exact hK _ _ _ _ _ _ _ _ _ _ _ _ _ _ _ _ _ _ _ _ _ _ _ _)
    | (with_reducible (refine fill_eq (by decide) (by decide) ?_))
    | (refine ev_v (by decide +kernel) ?_)
    | (refine ev_t (by decide +kernel) ?_)
    | (refine ev_f (by decide +kernel) ?_)
    | (refine ev_nt (by decide +kernel) ?_)
    | (refine ev_nf (by decide +kernel) ?_)
    | (refine ⟨isB_0, ?_⟩)
    | (refine ⟨isB_1, ?_⟩)
    | (refine ⟨by decide +kernel, ?_⟩)
    | (refine ev_0 (by decide +kernel) ?_)
    | (refine ev_s (by decide +kernel) ?_)
    | (refine ev_l (by decide +kernel) ?_)
    | (refine ev_sw (by decide +kernel) ?_ ?_)
    | (refine ev_d (by decide +kernel))
    | (with_reducible (refine ev_dn ?_))
    | (fail)

