set_option maxRecDepth 100000 in
set_option maxHeartbeats 4000000 in
theorem eD_Law_game (d : Nat) (h : mm_M) (a0 : Nat) (x1 : Int32) (a2 : Nat) : D_Law_game d h a0 x1 a2 = (cond (mm_is h a0 12 && Nat.blt 0 d) (am_cI (D_LC_game (d - 1) h a0 x1) (fun v1 h1 => cond (mm_is h1 a2 102 && mm_in 0 (mm_sz h1 a2)) (some (.inl (some (.int 0)), (mm_wJ h1 a2 (Int32.toNatClampNeg 0) (Int32.toInt64 v1)))) none) (fun e h => cond (Nat.beq e 1 == true) (some (.inl (some (.int 1)), h)) (some (.inr e, h)))) none) := am_X_blk mt_T 10 _
set_option maxRecDepth 100000 in
set_option maxHeartbeats 4000000 in
theorem eD_Law_count (d : Nat) (h : mm_M) (a0 : Nat) (x1 : Int32) (a2 : Nat) : D_Law_count d h a0 x1 a2 = (cond (mm_is h a0 12 && Nat.blt 0 d) (am_cI (D_LC_count (d - 1) h a0 x1) (fun v1 h1 => cond (mm_is h1 a2 102 && mm_in 0 (mm_sz h1 a2)) (some (.inl (some (.int 0)), (mm_wJ h1 a2 (Int32.toNatClampNeg 0) (Int32.toInt64 v1)))) none) (fun e h => cond (Nat.beq e 1 == false) (some (.inl (some (.int 1)), h)) (some (.inr e, h)))) none) := am_X_blk mt_T 10 _
set_option maxRecDepth 100000 in
set_option maxHeartbeats 4000000 in
theorem eD_Law_team (d : Nat) (h : mm_M) (a0 : Nat) (x1 : Int32) (x2 : Int32) (a3 : Nat) : D_Law_team d h a0 x1 x2 a3 = (cond (mm_is h a0 12 && Nat.blt 0 d) (am_cI (D_LC_team (d - 1) h a0 x1 x2) (fun v1 h1 => cond (mm_is h1 a3 102 && mm_in 0 (mm_sz h1 a3)) (some (.inl (some (.int 0)), (mm_wJ h1 a3 (Int32.toNatClampNeg 0) (Int32.toInt64 v1)))) none) (fun e h => cond (Nat.beq e 1 == false) (some (.inl (some (.int 1)), h)) (some (.inr e, h)))) none) := am_X_blk mt_T 11 _
set_option maxRecDepth 100000 in
set_option maxHeartbeats 4000000 in
theorem eD_Law_unit (d : Nat) (h : mm_M) (a0 : Nat) (x1 : Int32) (x2 : Int32) (x3 : Int32) (a4 : Nat) : D_Law_unit d h a0 x1 x2 x3 a4 = (cond (mm_is h a0 12 && Nat.blt 0 d) (am_cI (D_LC_unit (d - 1) h a0 x1 x2 x3) (fun v1 h1 => cond (mm_is h1 a4 102 && mm_in 0 (mm_sz h1 a4)) (some (.inl (some (.int 0)), (mm_wJ h1 a4 (Int32.toNatClampNeg 0) (Int32.toInt64 v1)))) none) (fun e h => cond (Nat.beq e 1 == false) (some (.inl (some (.int 1)), h)) (some (.inr e, h)))) none) := am_X_blk mt_T 12 _
set_option maxRecDepth 100000 in
set_option maxHeartbeats 4000000 in
theorem eD_Law_chance (d : Nat) (h : mm_M) (a0 : Nat) (x1 : Int32) (x2 : Int32) (x3 : Int32) (a4 : Nat) : D_Law_chance d h a0 x1 x2 x3 a4 = (cond (mm_is h a0 12 && Nat.blt 0 d) (am_cI (D_LC_chance (d - 1) h a0 x1 x2 x3) (fun v1 h1 => cond (mm_is h1 a4 102 && mm_in 0 (mm_sz h1 a4)) (some (.inl (some (.int 0)), (mm_wJ h1 a4 (Int32.toNatClampNeg 0) (Int32.toInt64 v1)))) none) (fun e h => cond (Nat.beq e 1 == false) (some (.inl (some (.int 1)), h)) (some (.inr e, h)))) none) := am_X_blk mt_T 12 _
set_option maxRecDepth 100000 in
set_option maxHeartbeats 4000000 in
theorem eD_Law_meeting (d : Nat) (h : mm_M) (a0 : Nat) (x1 : Int32) (x2 : Int32) (a3 : Nat) : D_Law_meeting d h a0 x1 x2 a3 = (cond (mm_is h a0 12 && Nat.blt 0 d) (am_cI (D_LC_meeting (d - 1) h a0 x1 x2) (fun v1 h1 => cond (mm_is h1 a3 102 && mm_in 0 (mm_sz h1 a3)) (some (.inl (some (.int 0)), (mm_wJ h1 a3 (Int32.toNatClampNeg 0) (Int32.toInt64 v1)))) none) (fun e h => cond (Nat.beq e 1 == false) (some (.inl (some (.int 1)), h)) (some (.inr e, h)))) none) := am_X_blk mt_T 11 _
set_option maxRecDepth 100000 in
set_option maxHeartbeats 4000000 in
theorem eD_Law_rested (d : Nat) (h : mm_M) (a0 : Nat) (x1 : Int32) (x2 : Int32) (a3 : Nat) : D_Law_rested d h a0 x1 x2 a3 = (cond (mm_is h a0 12 && Nat.blt 0 d) (am_cI (D_LC_rested (d - 1) h a0 x1 x2) (fun v1 h1 => cond (mm_is h1 a3 102 && mm_in 0 (mm_sz h1 a3)) (some (.inl (some (.int 0)), (mm_wJ h1 a3 (Int32.toNatClampNeg 0) (Int32.toInt64 v1)))) none) (fun e h => cond (Nat.beq e 1 == false) (some (.inl (some (.int 1)), h)) (some (.inr e, h)))) none) := am_X_blk mt_T 11 _
set_option maxRecDepth 100000 in
set_option maxHeartbeats 4000000 in
theorem eD_Law_value (d : Nat) (h : mm_M) (a0 : Nat) (x1 : Int32) (a2 : Nat) : D_Law_value d h a0 x1 a2 = (cond (mm_is h a0 12 && Nat.blt 0 d) (am_cI (D_LC_value (d - 1) h a0 x1) (fun v1 h1 => cond (mm_is h1 a2 102 && mm_in 0 (mm_sz h1 a2)) (some (.inl (some (.int 0)), (mm_wJ h1 a2 (Int32.toNatClampNeg 0) (Int32.toInt64 v1)))) none) (fun e h => cond (Nat.beq e 1 == true) (some (.inl (some (.int 1)), h)) (some (.inr e, h)))) none) := am_X_blk mt_T 10 _
set_option maxRecDepth 100000 in
set_option maxHeartbeats 4000000 in
theorem eD_Law_first (d : Nat) (h : mm_M) (a0 : Nat) (x1 : Int32) (a2 : Nat) : D_Law_first d h a0 x1 a2 = (cond (mm_is h a0 12 && Nat.blt 0 d) (am_cI (D_LC_first (d - 1) h a0 x1) (fun v1 h1 => cond (mm_is h1 a2 102 && mm_in 0 (mm_sz h1 a2)) (some (.inl (some (.int 0)), (mm_wJ h1 a2 (Int32.toNatClampNeg 0) (Int32.toInt64 v1)))) none) (fun e h => cond (Nat.beq e 1 == true) (some (.inl (some (.int 1)), h)) (some (.inr e, h)))) none) := am_X_blk mt_T 10 _
set_option maxRecDepth 100000 in
set_option maxHeartbeats 4000000 in
theorem eD_Law_reply (d : Nat) (h : mm_M) (a0 : Nat) (x1 : Int32) (x2 : Int32) (a3 : Nat) : D_Law_reply d h a0 x1 x2 a3 = (cond (mm_is h a0 12 && Nat.blt 0 d) (am_cI (D_LC_reply (d - 1) h a0 x1 x2) (fun v1 h1 => cond (mm_is h1 a3 102 && mm_in 0 (mm_sz h1 a3)) (some (.inl (some (.int 0)), (mm_wJ h1 a3 (Int32.toNatClampNeg 0) (Int32.toInt64 v1)))) none) (fun e h => cond (Nat.beq e 1 == false) (some (.inl (some (.int 1)), h)) (cond (Nat.beq e 1 == true) (some (.inl (some (.int 2)), h)) (some (.inr e, h))))) none) := am_X_blk mt_T 11 _
set_option maxRecDepth 100000 in
set_option maxHeartbeats 4000000 in
theorem eD_Law_by (d : Nat) (h : mm_M) (a0 : Nat) (x1 : Int32) (x2 : Int32) (x3 : Int32) (a4 : Nat) : D_Law_by d h a0 x1 x2 x3 a4 = (cond (mm_is h a0 12 && Nat.blt 0 d) (am_cI (D_LC_by (d - 1) h a0 x1 x2 x3) (fun v1 h1 => cond (mm_is h1 a4 102 && mm_in 0 (mm_sz h1 a4)) (some (.inl (some (.int 0)), (mm_wJ h1 a4 (Int32.toNatClampNeg 0) (Int32.toInt64 v1)))) none) (fun e h => cond (Nat.beq e 1 == false) (some (.inl (some (.int 1)), h)) (cond (Nat.beq e 1 == true) (some (.inl (some (.int 2)), h)) (some (.inr e, h))))) none) := am_X_blk mt_T 12 _
set_option maxRecDepth 100000 in
set_option maxHeartbeats 4000000 in
theorem eD_Law_best (d : Nat) (h : mm_M) (a0 : Nat) (x1 : Int32) (x2 : Int32) (x3 : Int32) (a4 : Nat) : D_Law_best d h a0 x1 x2 x3 a4 = (cond (mm_is h a0 12 && Nat.blt 0 d) (am_cI (D_LC_best (d - 1) h a0 x1 x2 x3) (fun v1 h1 => cond (mm_is h1 a4 102 && mm_in 0 (mm_sz h1 a4)) (some (.inl (some (.int 0)), (mm_wJ h1 a4 (Int32.toNatClampNeg 0) (Int32.toInt64 v1)))) none) (fun e h => cond (Nat.beq e 1 == false) (some (.inl (some (.int 1)), h)) (cond (Nat.beq e 1 == true) (some (.inl (some (.int 2)), h)) (some (.inr e, h))))) none) := am_X_blk mt_T 12 _
set_option maxRecDepth 100000 in
set_option maxHeartbeats 4000000 in
theorem eD_Law_cost (d : Nat) (h : mm_M) (a0 : Nat) (x1 : Int32) (x2 : Int32) (x3 : Int32) (a4 : Nat) : D_Law_cost d h a0 x1 x2 x3 a4 = (cond (mm_is h a0 12 && Nat.blt 0 d) (am_cI (D_LC_cost (d - 1) h a0 x1 x2 x3) (fun v1 h1 => cond (mm_is h1 a4 102 && mm_in 0 (mm_sz h1 a4)) (some (.inl (some (.int 0)), (mm_wJ h1 a4 (Int32.toNatClampNeg 0) (Int32.toInt64 v1)))) none) (fun e h => cond (Nat.beq e 1 == false) (some (.inl (some (.int 1)), h)) (cond (Nat.beq e 1 == true) (some (.inl (some (.int 2)), h)) (some (.inr e, h))))) none) := am_X_blk mt_T 12 _
set_option maxRecDepth 100000 in
set_option maxHeartbeats 4000000 in
theorem eD_Law_seeing (d : Nat) (h : mm_M) (a0 : Nat) (x1 : Int32) (a2 : Nat) : D_Law_seeing d h a0 x1 a2 = (cond (mm_is h a0 12 && Nat.blt 0 d) (am_cI (D_LC_seeing (d - 1) h a0 x1) (fun v1 h1 => cond (mm_is h1 a2 102 && mm_in 0 (mm_sz h1 a2)) (some (.inl (some (.int 0)), (mm_wJ h1 a2 (Int32.toNatClampNeg 0) (Int32.toInt64 v1)))) none) (fun e h => cond (Nat.beq e 1 == true) (some (.inl (some (.int 1)), h)) (some (.inr e, h)))) none) := am_X_blk mt_T 10 _
set_option maxRecDepth 100000 in
set_option maxHeartbeats 4000000 in
theorem eD_Law_blind (d : Nat) (h : mm_M) (a0 : Nat) (x1 : Int32) (x2 : Int32) (a3 : Nat) : D_Law_blind d h a0 x1 x2 a3 = (cond (mm_is h a0 12 && Nat.blt 0 d) (am_cI (D_LC_blind (d - 1) h a0 x1 x2) (fun v1 h1 => cond (mm_is h1 a3 102 && mm_in 0 (mm_sz h1 a3)) (some (.inl (some (.int 0)), (mm_wJ h1 a3 (Int32.toNatClampNeg 0) (Int32.toInt64 v1)))) none) (fun e h => cond (Nat.beq e 1 == false) (some (.inl (some (.int 1)), h)) (cond (Nat.beq e 1 == true) (some (.inl (some (.int 2)), h)) (some (.inr e, h))))) none) := am_X_blk mt_T 11 _
set_option maxRecDepth 100000 in
set_option maxHeartbeats 4000000 in
theorem eD_Law_rotation (d : Nat) (h : mm_M) (a0 : Nat) (x1 : Int32) (x2 : Int32) (x3 : Int32) (a4 : Nat) : D_Law_rotation d h a0 x1 x2 x3 a4 = (cond (mm_is h a0 12 && Nat.blt 0 d) (am_cI (D_LC_rotation (d - 1) h a0 x1 x2 x3) (fun v1 h1 => cond (mm_is h1 a4 102 && mm_in 0 (mm_sz h1 a4)) (some (.inl (some (.int 0)), (mm_wJ h1 a4 (Int32.toNatClampNeg 0) (Int32.toInt64 v1)))) none) (fun e h => cond (Nat.beq e 1 == false) (some (.inl (some (.int 1)), h)) (cond (Nat.beq e 1 == true) (some (.inl (some (.int 2)), h)) (some (.inr e, h))))) none) := am_X_blk mt_T 12 _
set_option maxRecDepth 100000 in
set_option maxHeartbeats 4000000 in
theorem eD_Law_given (d : Nat) (h : mm_M) (a0 : Nat) (x1 : Int32) (a2 : Nat) : D_Law_given d h a0 x1 a2 = (cond (mm_is h a0 12 && Nat.blt 0 d) (am_cI (D_LC_given (d - 1) h a0 x1) (fun v1 h1 => cond (mm_is h1 a2 102 && mm_in 0 (mm_sz h1 a2)) (some (.inl (some (.int 0)), (mm_wJ h1 a2 (Int32.toNatClampNeg 0) (Int32.toInt64 v1)))) none) (fun e h => cond (Nat.beq e 1 == false) (some (.inl (some (.int 1)), h)) (some (.inr e, h)))) none) := am_X_blk mt_T 10 _
set_option maxRecDepth 100000 in
set_option maxHeartbeats 4000000 in
theorem eD_Law_odds (d : Nat) (h : mm_M) (a0 : Nat) (x1 : Int32) (x2 : Int32) (x3 : Int32) (x4 : Int32) (a5 : Nat) : D_Law_odds d h a0 x1 x2 x3 x4 a5 = (cond (mm_is h a0 12 && Nat.blt 0 d) (am_cI (D_LC_odds (d - 1) h a0 x1 x2 x3 x4) (fun v1 h1 => cond (mm_is h1 a5 102 && mm_in 0 (mm_sz h1 a5)) (some (.inl (some (.int 0)), (mm_wJ h1 a5 (Int32.toNatClampNeg 0) (Int32.toInt64 v1)))) none) (fun e h => cond (Nat.beq e 1 == false) (some (.inl (some (.int 1)), h)) (cond (Nat.beq e 1 == true) (some (.inl (some (.int 2)), h)) (some (.inr e, h))))) none) := am_X_blk mt_T 13 _
set_option maxRecDepth 100000 in
set_option maxHeartbeats 4000000 in
theorem eD_Law_when (d : Nat) (h : mm_M) (a0 : Nat) (x1 : Int32) (x2 : Int32) (x3 : Int32) (a4 : Nat) : D_Law_when d h a0 x1 x2 x3 a4 = (cond (mm_is h a0 12 && Nat.blt 0 d) (am_cI (D_LC_when (d - 1) h a0 x1 x2 x3) (fun v1 h1 => cond (mm_is h1 a4 102 && mm_in 0 (mm_sz h1 a4)) (some (.inl (some (.int 0)), (mm_wJ h1 a4 (Int32.toNatClampNeg 0) (Int32.toInt64 v1)))) none) (fun e h => cond (Nat.beq e 1 == false) (some (.inl (some (.int 1)), h)) (cond (Nat.beq e 1 == true) (some (.inl (some (.int 2)), h)) (some (.inr e, h))))) none) := am_X_blk mt_T 12 _
set_option maxRecDepth 100000 in
set_option maxHeartbeats 4000000 in
theorem eD_Law_play (d : Nat) (h : mm_M) (a0 : Nat) (x1 : Int32) (x2 : Int32) (x3 : Int32) (x4 : Int32) (a5 : Nat) : D_Law_play d h a0 x1 x2 x3 x4 a5 = (cond (mm_is h a0 12 && Nat.blt 0 d) (am_cI (D_LC_play (d - 1) h a0 x1 x2 x3 x4) (fun v1 h1 => cond (mm_is h1 a5 102 && mm_in 0 (mm_sz h1 a5)) (some (.inl (some (.int 0)), (mm_wJ h1 a5 (Int32.toNatClampNeg 0) (Int32.toInt64 v1)))) none) (fun e h => cond (Nat.beq e 1 == true) (some (.inl (some (.int 1)), h)) (some (.inr e, h)))) none) := am_X_blk mt_T 13 _
set_option maxRecDepth 100000 in
set_option maxHeartbeats 4000000 in
theorem eD_Law_games (d : Nat) (h : mm_M) (a0 : Nat) (x1 : Int32) (x2 : Int32) (x3 : Int32) (x4 : Int32) (x5 : Int32) (x6 : Int32) (a7 : Nat) : D_Law_games d h a0 x1 x2 x3 x4 x5 x6 a7 = (cond (mm_is h a0 12 && Nat.blt 0 d) (am_cI (D_LC_games (d - 1) h a0 x1 x2 x3 x4 x5 x6) (fun v1 h1 => cond (mm_is h1 a7 102 && mm_in 0 (mm_sz h1 a7)) (some (.inl (some (.int 0)), (mm_wJ h1 a7 (Int32.toNatClampNeg 0) (Int32.toInt64 v1)))) none) (fun e h => cond (Nat.beq e 1 == false) (some (.inl (some (.int 1)), h)) (cond (Nat.beq e 1 == true) (some (.inl (some (.int 2)), h)) (some (.inr e, h))))) none) := am_X_blk mt_T 15 _
set_option maxRecDepth 100000 in
set_option maxHeartbeats 4000000 in
theorem eD_Law_set (d : Nat) (h : mm_M) (a0 : Nat) (x1 : Int32) (x2 : Int32) (x3 : Int32) (a4 : Nat) : D_Law_set d h a0 x1 x2 x3 a4 = (cond (mm_is h a0 12 && Nat.blt 0 d) (am_cI (D_LC_set (d - 1) h a0 x1 x2 x3) (fun v1 h1 => cond (mm_is h1 a4 102 && mm_in 0 (mm_sz h1 a4)) (some (.inl (some (.int 0)), (mm_wJ h1 a4 (Int32.toNatClampNeg 0) (Int32.toInt64 v1)))) none) (fun e h => cond (Nat.beq e 1 == false) (some (.inl (some (.int 1)), h)) (cond (Nat.beq e 1 == true) (some (.inl (some (.int 2)), h)) (some (.inr e, h))))) none) := am_X_blk mt_T 12 _
set_option maxRecDepth 100000 in
set_option maxHeartbeats 4000000 in
theorem eD_Law_see (d : Nat) (h : mm_M) (a0 : Nat) (x1 : Int32) (a2 : Nat) : D_Law_see d h a0 x1 a2 = (cond (mm_is h a0 12 && Nat.blt 0 d) (am_cI (D_LC_see (d - 1) h a0 x1) (fun v1 h1 => cond (mm_is h1 a2 102 && mm_in 0 (mm_sz h1 a2)) (some (.inl (some (.int 0)), (mm_wJ h1 a2 (Int32.toNatClampNeg 0) (Int32.toInt64 v1)))) none) (fun e h => cond (Nat.beq e 1 == false) (some (.inl (some (.int 1)), h)) (some (.inr e, h)))) none) := am_X_blk mt_T 10 _
set_option maxRecDepth 100000 in
set_option maxHeartbeats 4000000 in
theorem eD_Law_lasts (d : Nat) (h : mm_M) (a0 : Nat) (x1 : Int32) (x2 : Int32) (x3 : Int32) (a4 : Nat) : D_Law_lasts d h a0 x1 x2 x3 a4 = (cond (mm_is h a0 12 && Nat.blt 0 d) (am_cI (D_LC_lasts (d - 1) h a0 x1 x2 x3) (fun v1 h1 => cond (mm_is h1 a4 102 && mm_in 0 (mm_sz h1 a4)) (some (.inl (some (.int 0)), (mm_wJ h1 a4 (Int32.toNatClampNeg 0) (Int32.toInt64 v1)))) none) (fun e h => cond (Nat.beq e 1 == false) (some (.inl (some (.int 1)), h)) (some (.inr e, h)))) none) := am_X_blk mt_T 12 _
