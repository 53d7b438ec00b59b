set_option maxRecDepth 20000 in
theorem wc_law_x_make_13 : GoodIn lw_tbl (wsV RL 13 RX8 yX8_make wq_x_make) := goodIn_app (goodIn_of _ (by decide +kernel)) (fun w h => ⟨wi_x_make w h, (wg_x_make w h).2⟩)
set_option maxRecDepth 20000 in
theorem wc_law_m_make_17 : GoodIn lw_tbl (wsV RL 17 RX9 yX9_make wq_m_make) := goodIn_app (goodIn_of _ (by decide +kernel)) (fun w h => ⟨wi_m_make w h, (wg_m_make w h).2⟩)
set_option maxRecDepth 20000 in
theorem wc_law_x_life2_18 : GoodIn lw_tbl (wsV RL 18 RX8 yX8_life wq_x_life2) := goodIn_app (goodIn_of _ (by decide +kernel)) (fun w h => ⟨wi_x_life2 w h, (wg_x_life2 w h).2⟩)
set_option maxRecDepth 20000 in
theorem wc_law_m_life2_21 : GoodIn lw_tbl (wsV RL 21 RX9 yX9_life wq_m_life2) := goodIn_app (goodIn_of _ (by decide +kernel)) (fun w h => ⟨wi_m_life2 w h, (wg_m_life2 w h).2⟩)
set_option maxRecDepth 20000 in
theorem wc_law_x_again_22 : GoodIn lw_tbl (wsV RL 22 RX8 yX8_again wq_x_again) := goodIn_app (goodIn_of _ (by decide +kernel)) (fun w h => ⟨wi_x_again w h, (wg_x_again w h).2⟩)
set_option maxRecDepth 20000 in
theorem wc_law_m_again_26 : GoodIn lw_tbl (wsV RL 26 RX9 yX9_again wq_m_again) := goodIn_app (goodIn_of _ (by decide +kernel)) (fun w h => ⟨wi_m_again w h, (wg_m_again w h).2⟩)
set_option maxRecDepth 20000 in
theorem wc_law_x_relation_27 : GoodIn lw_tbl (wsV RL 27 RX8 yX8_relation wq_x_relation) := goodIn_app (goodIn_of _ (by decide +kernel)) (fun w h => ⟨wi_x_relation w h, (wg_x_relation w h).2⟩)
set_option maxRecDepth 20000 in
theorem wc_law_m_relation_30 : GoodIn lw_tbl (wsV RL 30 RX9 yX9_relation wq_m_relation) := goodIn_app (goodIn_of _ (by decide +kernel)) (fun w h => ⟨wi_m_relation w h, (wg_m_relation w h).2⟩)
set_option maxRecDepth 20000 in
theorem wc_law_x_undo_31 : GoodIn lw_tbl (wsV RL 31 RX8 yX8_undo wq_x_undo) := goodIn_app (goodIn_of _ (by decide +kernel)) (fun w h => ⟨wi_x_undo w h, (wg_x_undo w h).2⟩)
set_option maxRecDepth 20000 in
theorem wc_law_m_undo_34 : GoodIn lw_tbl (wsV RL 34 RX9 yX9_undo wq_m_undo) := goodIn_app (goodIn_of _ (by decide +kernel)) (fun w h => ⟨wi_m_undo w h, (wg_m_undo w h).2⟩)
set_option maxRecDepth 20000 in
theorem wc_law_x_order_35 : GoodIn lw_tbl (wsV RL 35 RX8 yX8_order wq_x_order) := goodIn_app (goodIn_of _ (by decide +kernel)) (fun w h => ⟨wi_x_order w h, (wg_x_order w h).2⟩)
set_option maxRecDepth 20000 in
theorem wc_law_m_order_39 : GoodIn lw_tbl (wsV RL 39 RX9 yX9_order wq_m_order) := goodIn_app (goodIn_of _ (by decide +kernel)) (fun w h => ⟨wi_m_order w h, (wg_m_order w h).2⟩)
set_option maxRecDepth 20000 in
theorem wc_law_x_tick_40 : GoodIn lw_tbl (wsV RL 40 RX8 yX8_tick wq_x_tick) := goodIn_app (goodIn_of _ (by decide +kernel)) (fun w h => ⟨wi_x_tick w h, (wg_x_tick w h).2⟩)
set_option maxRecDepth 20000 in
theorem wc_law_m_tick_44 : GoodIn lw_tbl (wsV RL 44 RX9 yX9_tick wq_m_tick) := goodIn_app (goodIn_of _ (by decide +kernel)) (fun w h => ⟨wi_m_tick w h, (wg_m_tick w h).2⟩)
set_option maxRecDepth 20000 in
theorem wc_law_x_letter_45 : GoodIn lw_tbl (wsV RL 45 RX8 yX8_letter wq_x_letter) := goodIn_app (goodIn_of _ (by decide +kernel)) (fun w h => ⟨wi_x_letter w h, (wg_x_letter w h).2⟩)
set_option maxRecDepth 20000 in
theorem wc_law_m_letter_48 : GoodIn lw_tbl (wsV RL 48 RX9 yX9_letter wq_m_letter) := goodIn_app (goodIn_of _ (by decide +kernel)) (fun w h => ⟨wi_m_letter w h, (wg_m_letter w h).2⟩)
set_option maxRecDepth 20000 in
theorem wc_law_x_about_49 : GoodIn lw_tbl (wsV RL 49 RX8 yX8_about wq_x_about) := goodIn_app (goodIn_of _ (by decide +kernel)) (fun w h => ⟨wi_x_about w h, (wg_x_about w h).2⟩)
set_option maxRecDepth 20000 in
theorem wc_law_m_about_52 : GoodIn lw_tbl (wsV RL 52 RX9 yX9_about wq_m_about) := goodIn_app (goodIn_of _ (by decide +kernel)) (fun w h => ⟨wi_m_about w h, (wg_m_about w h).2⟩)
set_option maxRecDepth 20000 in
theorem wc_law_x_in_53 : GoodIn lw_tbl (wsV RL 53 RX8 yX8_in wq_x_in) := goodIn_app (goodIn_of _ (by decide +kernel)) (fun w h => ⟨wi_x_in w h, (wg_x_in w h).2⟩)
set_option maxRecDepth 20000 in
theorem wc_law_m_in_56 : GoodIn lw_tbl (wsV RL 56 RX9 yX9_in wq_m_in) := goodIn_app (goodIn_of _ (by decide +kernel)) (fun w h => ⟨wi_m_in w h, (wg_m_in w h).2⟩)
set_option maxRecDepth 20000 in
theorem wc_law_x_count_57 : GoodIn lw_tbl (wsV RL 57 RX8 yX8_count wq_x_count) := goodIn_app (goodIn_of _ (by decide +kernel)) (fun w h => ⟨wi_x_count w h, (wg_x_count w h).2⟩)
set_option maxRecDepth 20000 in
theorem wc_law_m_count_60 : GoodIn lw_tbl (wsV RL 60 RX9 yX9_count wq_m_count) := goodIn_app (goodIn_of _ (by decide +kernel)) (fun w h => ⟨wi_m_count w h, (wg_m_count w h).2⟩)
set_option maxRecDepth 20000 in
theorem wc_law_x_related_61 : GoodIn lw_tbl (wsV RL 61 RX8 yX8_related wq_x_related) := goodIn_app (goodIn_of _ (by decide +kernel)) (fun w h => ⟨wi_x_related w h, (wg_x_related w h).2⟩)
set_option maxRecDepth 20000 in
theorem wc_law_m_related_64 : GoodIn lw_tbl (wsV RL 64 RX9 yX9_related wq_m_related) := goodIn_app (goodIn_of _ (by decide +kernel)) (fun w h => ⟨wi_m_related w h, (wg_m_related w h).2⟩)
set_option maxRecDepth 20000 in
theorem wc_law_x_waits_65 : GoodIn lw_tbl (wsV RL 65 RX8 yX8_waits wq_x_waits) := goodIn_app (goodIn_of _ (by decide +kernel)) (fun w h => ⟨wi_x_waits w h, (wg_x_waits w h).2⟩)
set_option maxRecDepth 20000 in
theorem wc_law_m_waits_68 : GoodIn lw_tbl (wsV RL 68 RX9 yX9_waits wq_m_waits) := goodIn_app (goodIn_of _ (by decide +kernel)) (fun w h => ⟨wi_m_waits w h, (wg_m_waits w h).2⟩)
set_option maxRecDepth 20000 in
theorem wc_law_x_plan_69 : GoodIn lw_tbl (wsV RL 69 RX8 yX8_plan wq_x_plan) := goodIn_app (goodIn_of _ (by decide +kernel)) (fun w h => ⟨wi_x_plan w h, (wg_x_plan w h).2⟩)
set_option maxRecDepth 20000 in
theorem wc_law_m_plan_72 : GoodIn lw_tbl (wsV RL 72 RX9 yX9_plan wq_m_plan) := goodIn_app (goodIn_of _ (by decide +kernel)) (fun w h => ⟨wi_m_plan w h, (wg_m_plan w h).2⟩)
set_option maxRecDepth 20000 in
theorem wc_law_x_planned_73 : GoodIn lw_tbl (wsV RL 73 RX8 yX8_planned wq_x_planned) := goodIn_app (goodIn_of _ (by decide +kernel)) (fun w h => ⟨wi_x_planned w h, (wg_x_planned w h).2⟩)
set_option maxRecDepth 20000 in
theorem wc_law_m_planned_76 : GoodIn lw_tbl (wsV RL 76 RX9 yX9_planned wq_m_planned) := goodIn_app (goodIn_of _ (by decide +kernel)) (fun w h => ⟨wi_m_planned w h, (wg_m_planned w h).2⟩)
set_option maxRecDepth 20000 in
theorem wc_law_x_quick_77 : GoodIn lw_tbl (wsV RL 77 RX8 yX8_quick wq_x_quick) := goodIn_app (goodIn_of _ (by decide +kernel)) (fun w h => ⟨wi_x_quick w h, (wg_x_quick w h).2⟩)
set_option maxRecDepth 20000 in
theorem wc_law_m_quick_81 : GoodIn lw_tbl (wsV RL 81 RX9 yX9_quick wq_m_quick) := goodIn_app (goodIn_of _ (by decide +kernel)) (fun w h => ⟨wi_m_quick w h, (wg_m_quick w h).2⟩)
set_option maxRecDepth 20000 in
theorem wc_law_x_ring_82 : GoodIn lw_tbl (wsV RL 82 RX8 yX8_ring wq_x_ring) := goodIn_app (goodIn_of _ (by decide +kernel)) (fun w h => ⟨wi_x_ring w h, (wg_x_ring w h).2⟩)
set_option maxRecDepth 20000 in
theorem wc_law_m_ring_85 : GoodIn lw_tbl (wsV RL 85 RX9 yX9_ring wq_m_ring) := goodIn_app (goodIn_of _ (by decide +kernel)) (fun w h => ⟨wi_m_ring w h, (wg_m_ring w h).2⟩)
set_option maxRecDepth 20000 in
theorem wc_law_x_changes_86 : GoodIn lw_tbl (wsV RL 86 RX8 yX8_changes wq_x_changes) := goodIn_app (goodIn_of _ (by decide +kernel)) (fun w h => ⟨wi_x_changes w h, (wg_x_changes w h).2⟩)
set_option maxRecDepth 20000 in
theorem wc_law_m_changes_89 : GoodIn lw_tbl (wsV RL 89 RX9 yX9_changes wq_m_changes) := goodIn_app (goodIn_of _ (by decide +kernel)) (fun w h => ⟨wi_m_changes w h, (wg_m_changes w h).2⟩)
set_option maxRecDepth 20000 in
theorem wc_law_x_change_90 : GoodIn lw_tbl (wsV RL 90 RX8 yX8_change wq_x_change) := goodIn_app (goodIn_of _ (by decide +kernel)) (fun w h => ⟨wi_x_change w h, (wg_x_change w h).2⟩)
set_option maxRecDepth 20000 in
theorem wc_law_m_change_93 : GoodIn lw_tbl (wsV RL 93 RX9 yX9_change wq_m_change) := goodIn_app (goodIn_of _ (by decide +kernel)) (fun w h => ⟨wi_m_change w h, (wg_m_change w h).2⟩)
set_option maxRecDepth 20000 in
theorem wc_law_x_check_94 : GoodIn lw_tbl (wsV RL 94 RX8 yX8_check wq_x_check) := goodIn_app (goodIn_of _ (by decide +kernel)) (fun w h => ⟨wi_x_check w h, (wg_x_check w h).2⟩)
set_option maxRecDepth 20000 in
theorem wc_law_m_check_97 : GoodIn lw_tbl (wsV RL 97 RX9 yX9_check wq_m_check) := goodIn_app (goodIn_of _ (by decide +kernel)) (fun w h => ⟨wi_m_check w h, (wg_m_check w h).2⟩)
set_option maxRecDepth 20000 in
theorem wc_law_s_tree_9 : GoodIn lw_tbl wq_s_tree := (fun w h => ⟨wi_s_tree w h, (wg_s_tree w h).2⟩)
set_option maxRecDepth 20000 in
theorem wc_law_s_model_12 : GoodIn lw_tbl wq_s_model := (fun w h => ⟨wi_s_model w h, (wg_s_model w h).2⟩)
