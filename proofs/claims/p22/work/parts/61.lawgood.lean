set_option maxRecDepth 20000 in
theorem ggL_cordsOf_L_cell : GoodIn wsL_cordsOf wsL_cell := goodIn_r _ [4, 5] (by decide +kernel) (by decide +kernel)
set_option maxRecDepth 20000 in
theorem gL_cordsOf_L_cell : GoodIn wsL_cordsOf (va_wsS RL 48 yL_cell wsL_cell) := goodIn_app (goodIn_of _ (by decide +kernel)) ggL_cordsOf_L_cell
set_option maxRecDepth 20000 in
theorem ggL_cordsOf_L_below : GoodIn wsL_cordsOf wsL_below := goodIn_r _ [8, 9] (by decide +kernel) (by decide +kernel)
set_option maxRecDepth 20000 in
theorem gL_cordsOf_L_below : GoodIn wsL_cordsOf (va_wsS RL 51 yL_below wsL_below) := goodIn_app (goodIn_of _ (by decide +kernel)) ggL_cordsOf_L_below
set_option maxRecDepth 20000 in
theorem ggL_speedOf_L_cell : GoodIn wsL_speedOf wsL_cell := goodIn_r _ [4, 5] (by decide +kernel) (by decide +kernel)
set_option maxRecDepth 20000 in
theorem gL_speedOf_L_cell : GoodIn wsL_speedOf (va_wsS RL 48 yL_cell wsL_cell) := goodIn_app (goodIn_of _ (by decide +kernel)) ggL_speedOf_L_cell
set_option maxRecDepth 20000 in
theorem ggL_speedOf_L_below : GoodIn wsL_speedOf wsL_below := goodIn_r _ [8, 9] (by decide +kernel) (by decide +kernel)
set_option maxRecDepth 20000 in
theorem gL_speedOf_L_below : GoodIn wsL_speedOf (va_wsS RL 51 yL_below wsL_below) := goodIn_app (goodIn_of _ (by decide +kernel)) ggL_speedOf_L_below
set_option maxRecDepth 20000 in
theorem ggL_seatOf_L_cell : GoodIn wsL_seatOf wsL_cell := goodIn_r _ [4, 5] (by decide +kernel) (by decide +kernel)
set_option maxRecDepth 20000 in
theorem gL_seatOf_L_cell : GoodIn wsL_seatOf (va_wsS RL 48 yL_cell wsL_cell) := goodIn_app (goodIn_of _ (by decide +kernel)) ggL_seatOf_L_cell
set_option maxRecDepth 20000 in
theorem ggL_seatOf_L_below : GoodIn wsL_seatOf wsL_below := goodIn_r _ [8, 9] (by decide +kernel) (by decide +kernel)
set_option maxRecDepth 20000 in
theorem gL_seatOf_L_below : GoodIn wsL_seatOf (va_wsS RL 51 yL_below wsL_below) := goodIn_app (goodIn_of _ (by decide +kernel)) ggL_seatOf_L_below
set_option maxRecDepth 20000 in
theorem ggL_signaturesOf_L_cell : GoodIn wsL_signaturesOf wsL_cell := goodIn_r _ [4, 5] (by decide +kernel) (by decide +kernel)
set_option maxRecDepth 20000 in
theorem gL_signaturesOf_L_cell : GoodIn wsL_signaturesOf (va_wsS RL 48 yL_cell wsL_cell) := goodIn_app (goodIn_of _ (by decide +kernel)) ggL_signaturesOf_L_cell
set_option maxRecDepth 20000 in
theorem ggL_signaturesOf_L_below : GoodIn wsL_signaturesOf wsL_below := goodIn_r _ [8, 9] (by decide +kernel) (by decide +kernel)
set_option maxRecDepth 20000 in
theorem gL_signaturesOf_L_below : GoodIn wsL_signaturesOf (va_wsS RL 51 yL_below wsL_below) := goodIn_app (goodIn_of _ (by decide +kernel)) ggL_signaturesOf_L_below
set_option maxRecDepth 20000 in
theorem ggL_sheetsOf_L_cell : GoodIn wsL_sheetsOf wsL_cell := goodIn_r _ [4, 5] (by decide +kernel) (by decide +kernel)
set_option maxRecDepth 20000 in
theorem gL_sheetsOf_L_cell : GoodIn wsL_sheetsOf (va_wsS RL 48 yL_cell wsL_cell) := goodIn_app (goodIn_of _ (by decide +kernel)) ggL_sheetsOf_L_cell
set_option maxRecDepth 20000 in
theorem ggL_sheetsOf_L_below : GoodIn wsL_sheetsOf wsL_below := goodIn_r _ [8, 9] (by decide +kernel) (by decide +kernel)
set_option maxRecDepth 20000 in
theorem gL_sheetsOf_L_below : GoodIn wsL_sheetsOf (va_wsS RL 51 yL_below wsL_below) := goodIn_app (goodIn_of _ (by decide +kernel)) ggL_sheetsOf_L_below
set_option maxRecDepth 20000 in
theorem ggL_edgesOf_L_cell : GoodIn wsL_edgesOf wsL_cell := goodIn_r _ [4, 5] (by decide +kernel) (by decide +kernel)
set_option maxRecDepth 20000 in
theorem gL_edgesOf_L_cell : GoodIn wsL_edgesOf (va_wsS RL 48 yL_cell wsL_cell) := goodIn_app (goodIn_of _ (by decide +kernel)) ggL_edgesOf_L_cell
set_option maxRecDepth 20000 in
theorem ggL_edgesOf_L_below : GoodIn wsL_edgesOf wsL_below := goodIn_r _ [8, 9] (by decide +kernel) (by decide +kernel)
set_option maxRecDepth 20000 in
theorem gL_edgesOf_L_below : GoodIn wsL_edgesOf (va_wsS RL 51 yL_below wsL_below) := goodIn_app (goodIn_of _ (by decide +kernel)) ggL_edgesOf_L_below
set_option maxRecDepth 20000 in
theorem ggL_shop_X4_init : GoodIn wsL_shop wsX4_init := goodIn_r _ [6, 7, 8, 9, 10, 11, 12, 13, 14, 15, 16, 17, 18, 19, 20, 21, 22, 23, 24, 25, 26, 27, 28, 29, 30, 31, 32, 33, 34, 35, 36, 37, 38, 39, 40, 41, 42, 43, 44, 45, 46, 47, 48, 49, 50, 51, 52, 53, 54, 150, 151, 152, 153, 154, 155, 156, 157, 158, 159, 160, 161, 148, 149, 162, 163, 164, 165, 166, 167, 168, 169, 170, 171, 172, 173, 174, 175, 176, 177, 178, 179, 180, 181] (by decide +kernel) (by decide +kernel)
set_option maxRecDepth 20000 in
theorem gL_shop_X4_init : GoodIn wsL_shop (wsX4_init) := ggL_shop_X4_init
set_option maxRecDepth 20000 in
theorem ggL_shop_L_cordsOf : GoodIn wsL_shop wsL_cordsOf := goodIn_r _ [58, 59, 60, 57, 61, 62, 63, 64, 65, 66] (by decide +kernel) (by decide +kernel)
set_option maxRecDepth 20000 in
theorem gL_shop_L_cordsOf : GoodIn wsL_shop (va_wsS RL 12 yL_cordsOf wsL_cordsOf) := goodIn_app (goodIn_of _ (by decide +kernel)) ggL_shop_L_cordsOf
set_option maxRecDepth 20000 in
theorem ggL_shop_X4_string : GoodIn wsL_shop wsX4_string := goodIn_ca (goodIn_ca (goodIn_ca (goodIn_r _ [70, 71, 72, 73, 74, 75, 76, 77, 78, 79, 3, 80, 81, 82, 13, 83, 178, 179, 180, 181, 148, 149, 150, 151, 152, 153, 154, 155, 156, 157, 158, 159, 160, 161] (by decide +kernel) (by decide +kernel)) (goodIn_sub (fun _ h => List.mem_cons_of_mem _ (List.mem_append_left _ (List.mem_append_left _ (List.mem_append_right _ h)))) (by decide +kernel))) (goodIn_sub (fun _ h => List.mem_cons_of_mem _ (List.mem_append_left _ (List.mem_append_right _ h))) (by decide +kernel))) (goodIn_sub (fun _ h => List.mem_cons_of_mem _ (List.mem_append_right _ h)) (by decide +kernel))
set_option maxRecDepth 20000 in
theorem gL_shop_X4_string : GoodIn wsL_shop (wsV RL 18 RX4 yX4_string wsX4_string) := goodIn_app (goodIn_of _ (by decide +kernel)) ggL_shop_X4_string
set_option maxRecDepth 20000 in
theorem ggL_shop_L_speedOf : GoodIn wsL_shop wsL_speedOf := goodIn_r _ [86, 59, 60, 57, 61, 62, 63, 64, 65, 66] (by decide +kernel) (by decide +kernel)
set_option maxRecDepth 20000 in
theorem gL_shop_L_speedOf : GoodIn wsL_shop (va_wsS RL 22 yL_speedOf wsL_speedOf) := goodIn_app (goodIn_of _ (by decide +kernel)) ggL_shop_L_speedOf
set_option maxRecDepth 20000 in
theorem ggL_shop_X4_hire : GoodIn wsL_shop wsX4_hire := goodIn_ca (goodIn_ca (goodIn_r _ [90, 71, 72, 73, 74, 13, 91, 92, 93, 94, 95, 96, 12, 97, 98, 24, 148, 149, 175, 176, 177, 150, 151, 152, 153, 154, 155, 156, 157, 158, 159, 160, 161] (by decide +kernel) (by decide +kernel)) (goodIn_sub (fun _ h => List.mem_cons_of_mem _ (List.mem_append_left _ (List.mem_append_left _ (List.mem_append_right _ h)))) (by decide +kernel))) (goodIn_sub (fun _ h => List.mem_cons_of_mem _ (List.mem_append_left _ (List.mem_append_right _ h))) (by decide +kernel))
set_option maxRecDepth 20000 in
theorem gL_shop_X4_hire : GoodIn wsL_shop (wsV RL 25 RX4 yX4_hire wsX4_hire) := goodIn_app (goodIn_of _ (by decide +kernel)) ggL_shop_X4_hire
set_option maxRecDepth 20000 in
theorem ggL_shop_L_seatOf : GoodIn wsL_shop wsL_seatOf := goodIn_r _ [101, 59, 60, 57, 61, 62, 63, 64, 65, 66] (by decide +kernel) (by decide +kernel)
set_option maxRecDepth 20000 in
theorem gL_shop_L_seatOf : GoodIn wsL_shop (va_wsS RL 29 yL_seatOf wsL_seatOf) := goodIn_app (goodIn_of _ (by decide +kernel)) ggL_shop_L_seatOf
set_option maxRecDepth 20000 in
theorem ggL_shop_X4_seat : GoodIn wsL_shop wsX4_seat := goodIn_ca (goodIn_ca (goodIn_r _ [105, 81, 82, 73, 74, 13, 106, 107, 108, 109, 3, 110, 111, 112, 113, 12, 114, 98, 24, 115, 116, 117, 118, 119, 120, 148, 149, 175, 176, 177, 150, 151, 152, 153, 154, 155, 156, 157, 158, 159, 160, 161] (by decide +kernel) (by decide +kernel)) (goodIn_sub (fun _ h => List.mem_cons_of_mem _ (List.mem_append_right _ h)) (by decide +kernel))) (goodIn_sub (fun _ h => List.mem_cons_of_mem _ (List.mem_append_left _ (List.mem_append_right _ h))) (by decide +kernel))
set_option maxRecDepth 20000 in
theorem gL_shop_X4_seat : GoodIn wsL_shop (wsV RL 32 RX4 yX4_seat wsX4_seat) := goodIn_app (goodIn_of _ (by decide +kernel)) ggL_shop_X4_seat
set_option maxRecDepth 20000 in
theorem ggL_shop_L_signaturesOf : GoodIn wsL_shop wsL_signaturesOf := goodIn_r _ [123, 59, 60, 57, 61, 62, 63, 64, 65, 66] (by decide +kernel) (by decide +kernel)
set_option maxRecDepth 20000 in
theorem gL_shop_L_signaturesOf : GoodIn wsL_shop (va_wsS RL 35 yL_signaturesOf wsL_signaturesOf) := goodIn_app (goodIn_of _ (by decide +kernel)) ggL_shop_L_signaturesOf
set_option maxRecDepth 20000 in
theorem ggL_shop_L_sheetsOf : GoodIn wsL_shop wsL_sheetsOf := goodIn_r _ [126, 59, 60, 57, 61, 62, 63, 64, 65, 66] (by decide +kernel) (by decide +kernel)
set_option maxRecDepth 20000 in
theorem gL_shop_L_sheetsOf : GoodIn wsL_shop (va_wsS RL 38 yL_sheetsOf wsL_sheetsOf) := goodIn_app (goodIn_of _ (by decide +kernel)) ggL_shop_L_sheetsOf
set_option maxRecDepth 20000 in
theorem ggL_shop_L_edgesOf : GoodIn wsL_shop wsL_edgesOf := goodIn_r _ [129, 59, 60, 57, 61, 62, 63, 64, 65, 66] (by decide +kernel) (by decide +kernel)
set_option maxRecDepth 20000 in
theorem gL_shop_L_edgesOf : GoodIn wsL_shop (va_wsS RL 41 yL_edgesOf wsL_edgesOf) := goodIn_app (goodIn_of _ (by decide +kernel)) ggL_shop_L_edgesOf
set_option maxRecDepth 20000 in
theorem ggL_shop_X4_order : GoodIn wsL_shop wsX4_order := goodIn_ca (goodIn_ca (goodIn_r _ [133, 71, 72, 73, 74, 13, 134, 135, 136, 137, 138, 12, 139, 140, 20, 141, 142, 143, 22, 144, 145, 146, 147, 40, 148, 149, 150, 151, 152, 153, 154, 155, 156, 157, 158, 159, 160, 161, 162, 163, 164, 165, 166, 167, 168, 169, 170, 171, 172, 173, 174] (by decide +kernel) (by decide +kernel)) (goodIn_sub (fun _ h => List.mem_cons_of_mem _ (List.mem_append_left _ (List.mem_append_left _ (List.mem_append_right _ h)))) (by decide +kernel))) (goodIn_sub (fun _ h => List.mem_cons_of_mem _ (List.mem_append_left _ (List.mem_append_right _ h))) (by decide +kernel))
set_option maxRecDepth 20000 in
theorem gL_shop_X4_order : GoodIn wsL_shop (wsV RL 44 RX4 yX4_order wsX4_order) := goodIn_app (goodIn_of _ (by decide +kernel)) ggL_shop_X4_order
