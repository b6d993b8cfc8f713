set_option maxRecDepth 20000 in
theorem wsL_law_i71 : ∀ w ∈ wsL_law0_r71, w ∈ lw_tbl := fun w h => (goodIn_p wsL_law0_r71 [1449, 1452, 1455, 1458, 1461, 1466, 1469] (by decide +kernel) (by decide +kernel) w h).1
set_option maxRecDepth 20000 in
theorem wsL_law_i72 : ∀ w ∈ wsL_law0_r72, w ∈ lw_tbl := fun w h => (goodIn_p wsL_law0_r72 [1478, 1481, 1484, 2476, 1494] (by decide +kernel) (by decide +kernel) w h).1
set_option maxRecDepth 20000 in
theorem wsL_law_i73 : ∀ w ∈ wsL_law0_r73, w ∈ lw_tbl := fun w h => (goodIn_p wsL_law0_r73 [1498, 1502, 1505, 1510, 1514] (by decide +kernel) (by decide +kernel) w h).1
set_option maxRecDepth 20000 in
theorem wsL_law_i74 : ∀ w ∈ wsL_law0_r74, w ∈ lw_tbl := fun w h => (goodIn_p wsL_law0_r74 [1518, 1524, 2480, 2484, 1531] (by decide +kernel) (by decide +kernel) w h).1
set_option maxRecDepth 20000 in
theorem wsL_law_i75 : ∀ w ∈ wsL_law0_r75, w ∈ lw_tbl := fun w h => (goodIn_p wsL_law0_r75 [1534, 1540, 1567, 1571] (by decide +kernel) (by decide +kernel) w h).1
set_option maxRecDepth 20000 in
theorem wsL_law_i76 : ∀ w ∈ wsL_law0_r76, w ∈ lw_tbl := fun w h => (goodIn_p wsL_law0_r76 [1575, 2488, 2492, 2497, 2501] (by decide +kernel) (by decide +kernel) w h).1
set_option maxRecDepth 20000 in
theorem wsL_law_i77 : ∀ w ∈ wsL_law0_r77, w ∈ lw_tbl := fun w h => (goodIn_p wsL_law0_r77 [1585, 2505, 233, 2509] (by decide +kernel) (by decide +kernel) w h).1
set_option maxRecDepth 20000 in
theorem wsL_law_i78 : ∀ w ∈ wsL_law0_r78, w ∈ lw_tbl := fun w h => (goodIn_p wsL_law0_r78 [1606, 1610, 2513, 2517, 1620] (by decide +kernel) (by decide +kernel) w h).1
set_option maxRecDepth 20000 in
theorem wsL_law_i79 : ∀ w ∈ wsL_law0_r79, w ∈ lw_tbl := fun w h => (goodIn_p wsL_law0_r79 [2521, 237, 241, 249, 284, 288] (by decide +kernel) (by decide +kernel) w h).1
set_option maxRecDepth 20000 in
theorem wsL_law_i80 : ∀ w ∈ wsL_law0_r80, w ∈ lw_tbl := fun w h => (goodIn_p wsL_law0_r80 [2525] (by decide +kernel) (by decide +kernel) w h).1
