/-! whose words the class's constructor has -/
set_option maxRecDepth 20000 in
theorem gX9_init_X0_init : GoodIn wsX9_init wsX0_init := goodIn_r _ [67, 68, 2, 3, 69, 8, 70, 71, 72, 73, 74, 75, 76, 77, 78, 152, 153, 154, 155, 156, 157, 158, 159, 160] (by decide +kernel) (by decide +kernel)
set_option maxRecDepth 20000 in
theorem gX9_init_X3_init : GoodIn wsX9_init wsX3_init := goodIn_r _ [80, 81, 2, 3, 82, 8, 83, 84, 85, 86, 87, 88, 89, 161, 162, 163, 164, 165, 166, 167] (by decide +kernel) (by decide +kernel)
set_option maxRecDepth 20000 in
theorem gX9_init_X5_init : GoodIn wsX9_init wsX5_init := goodIn_r _ [91, 92, 2, 3, 93, 8, 94, 95, 96, 97, 98, 99, 168, 169, 170, 171, 172, 173, 174] (by decide +kernel) (by decide +kernel)
set_option maxRecDepth 20000 in
theorem gX9_init_X4_init : GoodIn wsX9_init wsX4_init := goodIn_r _ [101, 102, 2, 3, 103, 8, 104, 105, 106, 175, 176, 177, 178] (by decide +kernel) (by decide +kernel)
set_option maxRecDepth 20000 in
theorem gX9_init_X8_init : GoodIn wsX9_init wsX8_init := goodIn_r _ [108, 109, 2, 3, 110, 8, 111, 112, 113, 114, 115, 179, 180, 181, 182, 183, 184] (by decide +kernel) (by decide +kernel)
set_option maxRecDepth 20000 in
theorem gX9_init_X6_init : GoodIn wsX9_init wsX6_init := goodIn_r _ [117, 118, 2, 3, 8, 119, 120, 121, 185, 186, 187] (by decide +kernel) (by decide +kernel)
set_option maxRecDepth 20000 in
theorem gX9_init_X2_init : GoodIn wsX9_init wsX2_init := goodIn_r _ [123, 124, 2, 3, 8, 125, 126, 127, 188, 189, 190] (by decide +kernel) (by decide +kernel)
