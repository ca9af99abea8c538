set_option maxHeartbeats 4000000 in
set_option maxRecDepth 100000 in
theorem law_pure {L : Nat} {xs : Nat → Int32} (hL : L ≤ 6) : kPure kFuel L xs := by
  have hK : ∀ (g_x : SX6) (g_x_joins : SX2) (g_x_joins_trial : SX1) (g_x_kept0 : SX4) (g_x_kept1 : SX4) (g_x_laid : SX4) (g_x_tale : SX3) (g_x_tale_claims : SX0) (g_x_tale_ends : SX1) (g_x_text : SX4) (g_x_town : SX5) (g_x_town_claims : SX0) (g_x_town_ends : SX1) (g_m_text : SX7_text) (g_m_laid : SX7_laid) (g_m_ends : SX7_ends) (g_m_due : SX7_due) (g_m_rec : SX7_rec) (g_m_cor : SX7_cor) (g_m_town : SX7_town) (g_m_tmp : SX7_tmp) (g_m_part : SX7_part) (g_m_keep : SX7_keep) (g_m_way : SX7_way), wL_law_H18 kFuel 6 xs 999 ((0 : Int32) + 6) g_x g_x_joins g_x_joins_trial g_x_kept0 g_x_kept1 g_x_laid g_x_tale g_x_tale_claims g_x_tale_ends g_x_text g_x_town g_x_town_claims g_x_town_ends g_m_text g_m_laid g_m_ends g_m_due g_m_rec g_m_cor g_m_town g_m_tmp g_m_part g_m_keep g_m_way := fun _ _ _ _ _ _ _ _ _ _ _ _ _ _ _ _ _ _ _ _ _ _ _ _ => ⟨fun _ => trivial, fun hc => absurd (by decide) hc⟩
  show wL_law_b18 kFuel L xs (wL_law_H18 kFuel L xs 999) 0 iSX6 iSX2 iSX1 iSX4 iSX4 iSX4 iSX3 iSX0 iSX1 iSX4 iSX5 iSX0 iSX1 iSX7_text iSX7_laid iSX7_ends iSX7_due iSX7_rec iSX7_cor iSX7_town iSX7_tmp iSX7_part iSX7_keep iSX7_way
  refine ⟨fun _ => trivial, fun hc => ?_⟩
  have e : L = 6 := by
    rcases (show L = 0 ∨ L = 1 ∨ L = 2 ∨ L = 3 ∨ L = 4 ∨ L = 5 ∨ L = 6 by omega) with rfl | rfl | rfl | rfl | rfl | rfl | rfl
    · exact absurd (by decide) hc
    · exact absurd (by decide) hc
    · exact absurd (by decide) hc
    · exact absurd (by decide) hc
    · exact absurd (by decide) hc
    · exact absurd (by decide) hc
    · rfl
  subst e
  refine ev_v (by decide) ?_
  exact ⟨fun _ => b_write hK, fun _ => b_wipe hK, fun _ => b_fault hK, fun _ => b_lay hK, fun _ => b_doubt hK, fun _ => b_why hK, fun _ => b_fewest hK, fun _ => b_corners hK, fun _ => b_corner hK, fun _ => b_about hK, fun _ => b_town hK, fun _ => b_may hK, fun _ => b_pairs hK, fun _ => b_smallest hK, fun _ => b_way hK, fun _ => b_told hK, fun _ => b_keep hK, fun _ => b_back hK, fun _ => b_count hK, fun _ _ _ _ _ _ _ _ _ _ _ _ _ _ _ _ _ _ _ => hK _ _ _ _ _ _ _ _ _ _ _ _ _ _ _ _ _ _ _ _ _ _ _ _⟩
