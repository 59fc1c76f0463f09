set_option maxRecDepth 100000 in
theorem rl6_00000 : rl_r 6 720 (rl_t (rk_n (rk_b false false false false false)) 6) [] = true := by decide +kernel
set_option maxRecDepth 100000 in
theorem rl6_00001 : rl_r 6 720 (rl_t (rk_n (rk_b false false false false true)) 6) [] = true := by decide +kernel
set_option maxRecDepth 100000 in
theorem rl6_00010 : rl_r 6 720 (rl_t (rk_n (rk_b false false false true false)) 6) [] = true := by decide +kernel
set_option maxRecDepth 100000 in
theorem rl6_00011 : rl_r 6 720 (rl_t (rk_n (rk_b false false false true true)) 6) [] = true := by decide +kernel
set_option maxRecDepth 100000 in
theorem rl6_00100 : rl_r 6 720 (rl_t (rk_n (rk_b false false true false false)) 6) [] = true := by decide +kernel
set_option maxRecDepth 100000 in
theorem rl6_00101 : rl_r 6 720 (rl_t (rk_n (rk_b false false true false true)) 6) [] = true := by decide +kernel
set_option maxRecDepth 100000 in
theorem rl6_00110 : rl_r 6 720 (rl_t (rk_n (rk_b false false true true false)) 6) [] = true := by decide +kernel
set_option maxRecDepth 100000 in
theorem rl6_00111 : rl_r 6 720 (rl_t (rk_n (rk_b false false true true true)) 6) [] = true := by decide +kernel
set_option maxRecDepth 100000 in
theorem rl6_01000 : rl_r 6 720 (rl_t (rk_n (rk_b false true false false false)) 6) [] = true := by decide +kernel
set_option maxRecDepth 100000 in
theorem rl6_01001 : rl_r 6 720 (rl_t (rk_n (rk_b false true false false true)) 6) [] = true := by decide +kernel
set_option maxRecDepth 100000 in
theorem rl6_01010 : rl_r 6 720 (rl_t (rk_n (rk_b false true false true false)) 6) [] = true := by decide +kernel
set_option maxRecDepth 100000 in
theorem rl6_01011 : rl_r 6 720 (rl_t (rk_n (rk_b false true false true true)) 6) [] = true := by decide +kernel
set_option maxRecDepth 100000 in
theorem rl6_01100 : rl_r 6 720 (rl_t (rk_n (rk_b false true true false false)) 6) [] = true := by decide +kernel
set_option maxRecDepth 100000 in
theorem rl6_01101 : rl_r 6 720 (rl_t (rk_n (rk_b false true true false true)) 6) [] = true := by decide +kernel
set_option maxRecDepth 100000 in
theorem rl6_01110 : rl_r 6 720 (rl_t (rk_n (rk_b false true true true false)) 6) [] = true := by decide +kernel
set_option maxRecDepth 100000 in
theorem rl6_01111 : rl_r 6 720 (rl_t (rk_n (rk_b false true true true true)) 6) [] = true := by decide +kernel
set_option maxRecDepth 100000 in
theorem rl6_10000 : rl_r 6 720 (rl_t (rk_n (rk_b true false false false false)) 6) [] = true := by decide +kernel
set_option maxRecDepth 100000 in
theorem rl6_10001 : rl_r 6 720 (rl_t (rk_n (rk_b true false false false true)) 6) [] = true := by decide +kernel
set_option maxRecDepth 100000 in
theorem rl6_10010 : rl_r 6 720 (rl_t (rk_n (rk_b true false false true false)) 6) [] = true := by decide +kernel
set_option maxRecDepth 100000 in
theorem rl6_10011 : rl_r 6 720 (rl_t (rk_n (rk_b true false false true true)) 6) [] = true := by decide +kernel
set_option maxRecDepth 100000 in
theorem rl6_10100 : rl_r 6 720 (rl_t (rk_n (rk_b true false true false false)) 6) [] = true := by decide +kernel
set_option maxRecDepth 100000 in
theorem rl6_10101 : rl_r 6 720 (rl_t (rk_n (rk_b true false true false true)) 6) [] = true := by decide +kernel
set_option maxRecDepth 100000 in
theorem rl6_10110 : rl_r 6 720 (rl_t (rk_n (rk_b true false true true false)) 6) [] = true := by decide +kernel
set_option maxRecDepth 100000 in
theorem rl6_10111 : rl_r 6 720 (rl_t (rk_n (rk_b true false true true true)) 6) [] = true := by decide +kernel
set_option maxRecDepth 100000 in
theorem rl6_11000 : rl_r 6 720 (rl_t (rk_n (rk_b true true false false false)) 6) [] = true := by decide +kernel
set_option maxRecDepth 100000 in
theorem rl6_11001 : rl_r 6 720 (rl_t (rk_n (rk_b true true false false true)) 6) [] = true := by decide +kernel
set_option maxRecDepth 100000 in
theorem rl6_11010 : rl_r 6 720 (rl_t (rk_n (rk_b true true false true false)) 6) [] = true := by decide +kernel
set_option maxRecDepth 100000 in
theorem rl6_11011 : rl_r 6 720 (rl_t (rk_n (rk_b true true false true true)) 6) [] = true := by decide +kernel
set_option maxRecDepth 100000 in
theorem rl6_11100 : rl_r 6 720 (rl_t (rk_n (rk_b true true true false false)) 6) [] = true := by decide +kernel
set_option maxRecDepth 100000 in
theorem rl6_11101 : rl_r 6 720 (rl_t (rk_n (rk_b true true true false true)) 6) [] = true := by decide +kernel
set_option maxRecDepth 100000 in
theorem rl6_11110 : rl_r 6 720 (rl_t (rk_n (rk_b true true true true false)) 6) [] = true := by decide +kernel
set_option maxRecDepth 100000 in
theorem rl6_11111 : rl_r 6 720 (rl_t (rk_n (rk_b true true true true true)) 6) [] = true := by decide +kernel
theorem rl_all_6 : ∀ b0 b1 b2 b3 b4 : Bool, rl_r 6 720 (rl_t (rk_n (rk_b b0 b1 b2 b3 b4)) 6) [] = true := by
  intro b0 b1 b2 b3 b4
  cases b0 <;> cases b1 <;> cases b2 <;> cases b3 <;> cases b4
  · exact rl6_00000
  · exact rl6_00001
  · exact rl6_00010
  · exact rl6_00011
  · exact rl6_00100
  · exact rl6_00101
  · exact rl6_00110
  · exact rl6_00111
  · exact rl6_01000
  · exact rl6_01001
  · exact rl6_01010
  · exact rl6_01011
  · exact rl6_01100
  · exact rl6_01101
  · exact rl6_01110
  · exact rl6_01111
  · exact rl6_10000
  · exact rl6_10001
  · exact rl6_10010
  · exact rl6_10011
  · exact rl6_10100
  · exact rl6_10101
  · exact rl6_10110
  · exact rl6_10111
  · exact rl6_11000
  · exact rl6_11001
  · exact rl6_11010
  · exact rl6_11011
  · exact rl6_11100
  · exact rl6_11101
  · exact rl6_11110
  · exact rl6_11111
