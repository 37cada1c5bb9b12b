set_option maxRecDepth 100000 in
set_option maxHeartbeats 4000000 in
theorem init_x (ro : xRO) : exec ro 2000 9 M_X7_init 0 [some (.ref 3), none] [] [.inl (7, xDef 7)] 0 0 = some (106, none, (mk M0 50).take 61, 60, 1401) := rfl
set_option maxRecDepth 100000 in
set_option maxHeartbeats 4000000 in
theorem init_m (ro : xRO) : exec ro 300 9 M_X8_init 0 [some (.ref 64)] [] ((mk M0 50).take 61 ++ [.inl (8, xDef 8)]) 0 0 = some (138, none, mk M0 50, 14, 1142) := rfl
