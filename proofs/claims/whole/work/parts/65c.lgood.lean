theorem wsL_law_in : ∀ w ∈ wsL_law, w ∈ lw_tbl := fun w h => ((goodIn_app (goodIn_app (goodIn_app (goodIn_app (goodIn_app (goodIn_app (goodIn_app (goodIn_app (goodIn_app (goodIn_app (goodIn_app (goodIn_app (goodIn_app in_wsL_law_r1 (goodIn_app in_wsL_law_r2 (goodIn_app in_wsL_law_r3 (goodIn_app in_wsL_law_r4 (goodIn_app in_wsL_law_r5 (goodIn_app in_wsL_law_r6 (goodIn_app in_wsL_law_r7 (goodIn_app in_wsL_law_r8 (goodIn_app in_wsL_law_r9 (goodIn_app in_wsL_law_r10 (goodIn_app in_wsL_law_r11 (goodIn_app in_wsL_law_r12 (goodIn_app in_wsL_law_r13 (goodIn_app in_wsL_law_r14 (goodIn_app in_wsL_law_r15 (goodIn_app in_wsL_law_r16 (goodIn_app in_wsL_law_r17 (goodIn_app in_wsL_law_r18 (goodIn_app in_wsL_law_r19 (goodIn_app in_wsL_law_r20 (goodIn_app in_wsL_law_r21 (goodIn_app in_wsL_law_r22 (goodIn_app in_wsL_law_r23 (goodIn_app in_wsL_law_r24 (goodIn_app in_wsL_law_r25 (goodIn_app in_wsL_law_r26 (goodIn_app in_wsL_law_r27 (goodIn_app in_wsL_law_r28 (goodIn_app in_wsL_law_r29 (goodIn_app in_wsL_law_r30 (goodIn_app in_wsL_law_r31 (goodIn_app in_wsL_law_r32 (goodIn_app in_wsL_law_r33 (goodIn_app in_wsL_law_r34 (goodIn_app in_wsL_law_r35 (goodIn_app in_wsL_law_r36 (goodIn_app in_wsL_law_r37 (goodIn_app in_wsL_law_r38 (goodIn_app in_wsL_law_r39 (goodIn_app in_wsL_law_r40 (goodIn_app in_wsL_law_r41 (in_wsL_law_r42)))))))))))))))))))))))))))))))))))))))))) in_wsX90) in_wsX100) in_wsX60) in_wsX80) in_wsX70) in_wsX20) in_wsX40) in_wsX50) in_wsX10) in_wsX00) in_wsX30) (fun w h => absurd h List.not_mem_nil) : GoodIn lw_tbl wsL_law) w h).1
theorem inlX0 : ∀ w ∈ wsX00, w ∈ wsL_law := fun _ h => List.mem_append_left _ (List.mem_append_left _ (List.mem_append_right _ h))
theorem inX0 : ∀ w ∈ wsX00, w ∈ lw_tbl := fun w h => wsL_law_in w (inlX0 w h)
theorem inlX1 : ∀ w ∈ wsX10, w ∈ wsL_law := fun _ h => List.mem_append_left _ (List.mem_append_left _ (List.mem_append_left _ (List.mem_append_right _ h)))
theorem inX1 : ∀ w ∈ wsX10, w ∈ lw_tbl := fun w h => wsL_law_in w (inlX1 w h)
theorem inlX2 : ∀ w ∈ wsX20, w ∈ wsL_law := fun _ h => List.mem_append_left _ (List.mem_append_left _ (List.mem_append_left _ (List.mem_append_left _ (List.mem_append_left _ (List.mem_append_left _ (List.mem_append_right _ h))))))
theorem inX2 : ∀ w ∈ wsX20, w ∈ lw_tbl := fun w h => wsL_law_in w (inlX2 w h)
theorem inlX3 : ∀ w ∈ wsX30, w ∈ wsL_law := fun _ h => List.mem_append_left _ (List.mem_append_right _ h)
theorem inX3 : ∀ w ∈ wsX30, w ∈ lw_tbl := fun w h => wsL_law_in w (inlX3 w h)
theorem inlX4 : ∀ w ∈ wsX40, w ∈ wsL_law := fun _ h => List.mem_append_left _ (List.mem_append_left _ (List.mem_append_left _ (List.mem_append_left _ (List.mem_append_left _ (List.mem_append_right _ h)))))
theorem inX4 : ∀ w ∈ wsX40, w ∈ lw_tbl := fun w h => wsL_law_in w (inlX4 w h)
theorem inlX5 : ∀ w ∈ wsX50, w ∈ wsL_law := fun _ h => List.mem_append_left _ (List.mem_append_left _ (List.mem_append_left _ (List.mem_append_left _ (List.mem_append_right _ h))))
theorem inX5 : ∀ w ∈ wsX50, w ∈ lw_tbl := fun w h => wsL_law_in w (inlX5 w h)
theorem inlX6 : ∀ w ∈ wsX60, w ∈ wsL_law := fun _ h => List.mem_append_left _ (List.mem_append_left _ (List.mem_append_left _ (List.mem_append_left _ (List.mem_append_left _ (List.mem_append_left _ (List.mem_append_left _ (List.mem_append_left _ (List.mem_append_left _ (List.mem_append_right _ h)))))))))
theorem inX6 : ∀ w ∈ wsX60, w ∈ lw_tbl := fun w h => wsL_law_in w (inlX6 w h)
theorem inlX7 : ∀ w ∈ wsX70, w ∈ wsL_law := fun _ h => List.mem_append_left _ (List.mem_append_left _ (List.mem_append_left _ (List.mem_append_left _ (List.mem_append_left _ (List.mem_append_left _ (List.mem_append_left _ (List.mem_append_right _ h)))))))
theorem inX7 : ∀ w ∈ wsX70, w ∈ lw_tbl := fun w h => wsL_law_in w (inlX7 w h)
theorem inlX8 : ∀ w ∈ wsX80, w ∈ wsL_law := fun _ h => List.mem_append_left _ (List.mem_append_left _ (List.mem_append_left _ (List.mem_append_left _ (List.mem_append_left _ (List.mem_append_left _ (List.mem_append_left _ (List.mem_append_left _ (List.mem_append_right _ h))))))))
theorem inX8 : ∀ w ∈ wsX80, w ∈ lw_tbl := fun w h => wsL_law_in w (inlX8 w h)
theorem inlX9 : ∀ w ∈ wsX90, w ∈ wsL_law := fun _ h => List.mem_append_left _ (List.mem_append_left _ (List.mem_append_left _ (List.mem_append_left _ (List.mem_append_left _ (List.mem_append_left _ (List.mem_append_left _ (List.mem_append_left _ (List.mem_append_left _ (List.mem_append_left _ (List.mem_append_left _ (List.mem_append_right _ h)))))))))))
theorem inX9 : ∀ w ∈ wsX90, w ∈ lw_tbl := fun w h => wsL_law_in w (inlX9 w h)
theorem inlX10 : ∀ w ∈ wsX100, w ∈ wsL_law := fun _ h => List.mem_append_left _ (List.mem_append_left _ (List.mem_append_left _ (List.mem_append_left _ (List.mem_append_left _ (List.mem_append_left _ (List.mem_append_left _ (List.mem_append_left _ (List.mem_append_left _ (List.mem_append_left _ (List.mem_append_right _ h))))))))))
theorem inX10 : ∀ w ∈ wsX100, w ∈ lw_tbl := fun w h => wsL_law_in w (inlX10 w h)
set_option maxRecDepth 20000 in
theorem ggL_law_X9_init : GoodIn wsL_law wsX9_init := goodIn_r _ [8, 9, 10, 11, 12, 13, 14, 15, 16, 17, 18, 19, 20, 21, 22, 23, 24, 25, 26, 27, 28, 29, 30, 31, 32, 33, 34, 35, 36, 37, 38, 39, 40, 41, 42, 43, 44, 45, 46, 47, 48, 49, 50, 51, 52, 53, 54, 55, 56, 57, 58, 59, 60, 61, 62, 63, 64, 65, 66, 67, 68, 69, 70, 71, 72, 73, 74, 75, 76, 77, 78, 79, 80, 81, 82, 83, 84, 85, 86, 87, 88, 89, 90, 91, 92, 93, 94, 95, 96, 97, 98, 99, 100, 101, 102, 103, 104, 105, 106, 107, 108, 109, 110, 111, 1033, 1034, 1035, 1036, 1037, 1038, 1039, 1040, 997, 998, 999, 1000, 1001, 1002, 1003, 1004, 1005, 1006, 1007, 1041, 1042, 1043, 1044, 1045, 1046, 1047, 1048, 1049, 1050, 1051, 1052, 1053, 1054, 1055, 1056, 1057, 1058, 1059, 1060, 1061, 1062, 1063, 1064, 1065, 1066, 1067, 1068, 1069, 1070, 1071, 1072, 1073, 1074, 1075, 1076] (by decide +kernel) (by decide +kernel)
set_option maxRecDepth 20000 in
theorem gL_law_X9_init : GoodIn wsL_law (wsX9_init) := ggL_law_X9_init
set_option maxRecDepth 20000 in
theorem ggL_law_X10_init : GoodIn wsL_law wsX10_init := goodIn_r _ [114, 115, 10, 11, 57, 116, 117, 118, 119, 120, 121, 97, 122, 123, 124, 125, 126, 127, 128, 129, 130, 131, 132, 5, 133, 134, 135, 136, 137, 138, 139, 140, 141, 142, 143, 144, 1008, 1009, 1010, 1011, 1012, 1013, 1014, 1015, 1016, 1017, 1018, 1019, 1020, 1021, 1022, 1023, 1024, 1025, 1026, 1027, 1028, 1029, 1030, 1031, 1032] (by decide +kernel) (by decide +kernel)
set_option maxRecDepth 20000 in
theorem gL_law_X10_init : GoodIn wsL_law (wsX10_init) := ggL_law_X10_init
set_option maxRecDepth 20000 in
theorem ggL_law_X9_feed : GoodIn wsL_law wsX9_feed := goodIn_r _ [148, 149, 15, 150, 151, 152, 153, 154, 14, 155, 156, 58, 997, 998, 999, 1000, 1001, 1002, 1003, 1004, 1005, 1006, 1007, 1033, 1034, 1035, 1036, 1037, 1038, 1039, 1040] (by decide +kernel) (by decide +kernel)
set_option maxRecDepth 20000 in
theorem gL_law_X9_feed : GoodIn wsL_law (wsV RL 13 RX9 yX9_feed wsX9_feed) := goodIn_app (goodIn_of _ (by decide +kernel)) ggL_law_X9_feed
set_option maxRecDepth 20000 in
theorem ggL_law_X10_feed : GoodIn wsL_law wsX10_feed := goodIn_r _ [160, 161, 162, 163, 164, 123, 142, 143, 5, 144, 1008, 1009, 1010, 1011, 1012, 1013, 1014, 1015, 1016, 1017, 1018, 1019, 1020, 1021, 1022, 1023, 1024, 1025, 1026, 1027, 1028, 1029, 1030, 1031, 1032] (by decide +kernel) (by decide +kernel)
set_option maxRecDepth 20000 in
theorem gL_law_X10_feed : GoodIn wsL_law (wsV RL 17 RX10 yX10_feed wsX10_feed) := goodIn_app (goodIn_of _ (by decide +kernel)) ggL_law_X10_feed
set_option maxRecDepth 20000 in
theorem ggL_law_X9_town : GoodIn wsL_law wsX9_town := goodIn_r _ [168, 15, 169, 19, 170, 23, 171, 28, 40, 172, 44, 173, 46, 174, 175, 176, 177, 178, 14, 179, 54, 56, 180, 59, 181, 182, 156, 183, 184, 185, 18, 186, 187, 188, 189, 190, 191, 192, 193, 194, 195, 22, 196, 70, 71, 72, 73, 197, 198, 199, 200, 201, 202, 58, 203, 204, 205, 206, 207, 208, 209, 210, 211, 212, 213, 214, 215, 216, 217, 218, 219, 220, 221, 222, 223, 224, 225, 226, 227, 228, 229, 230, 231, 232, 233, 234, 235, 236, 237, 238, 239, 240, 241, 242, 243, 244, 245, 246, 247, 248, 249, 250, 251, 252, 253, 254, 255, 256, 257, 258, 259, 63, 260, 261, 262, 263, 64, 65, 264, 265, 266, 267, 268, 269, 270, 271, 27, 272, 273, 997, 998, 999, 1000, 1001, 1002, 1003, 1004, 1005, 1006, 1007, 1033, 1034, 1035, 1036, 1037, 1038, 1039, 1040, 1064, 1065, 1066, 1067, 1068, 1069, 1070, 1071, 1072, 1073, 1074, 1075, 1076, 1041, 1042, 1043, 1044, 1045, 1046, 1047, 1048, 1049, 1050, 1051, 1052, 1053, 1054, 1055, 1056, 1057, 1058, 1059] (by decide +kernel) (by decide +kernel)
set_option maxRecDepth 20000 in
theorem gL_law_X9_town : GoodIn wsL_law (wsV RL 18 RX9 yX9_town wsX9_town) := goodIn_app (goodIn_of _ (by decide +kernel)) ggL_law_X9_town
set_option maxRecDepth 20000 in
theorem ggL_law_X10_town : GoodIn wsL_law wsX10_town := goodIn_r _ [277, 117, 278, 124, 279, 163, 280, 281, 116, 282, 283, 284, 5, 285, 286, 287, 288, 289, 290, 291, 292, 293, 123, 142, 143, 144, 294, 295, 296, 297, 298, 299, 300, 301, 302, 303, 304, 305, 306, 307, 308, 309, 310, 311, 312, 313, 314, 315, 316, 317, 318, 319, 320, 321, 139, 140, 141, 130, 131, 132, 133, 118, 134, 135, 136, 137, 138, 122, 1008, 1009, 1010, 1011, 1012, 1013, 1014, 1015, 1016, 1017, 1018, 1019, 1020, 1021, 1022, 1023, 1024, 1025, 1026, 1027, 1028, 1029, 1030, 1031, 1032] (by decide +kernel) (by decide +kernel)
set_option maxRecDepth 20000 in
theorem gL_law_X10_town : GoodIn wsL_law (wsV RL 22 RX10 yX10_town wsX10_town) := goodIn_app (goodIn_of _ (by decide +kernel)) ggL_law_X10_town
set_option maxRecDepth 20000 in
theorem ggL_law_X9_fault : GoodIn wsL_law wsX9_fault := goodIn_r _ [325, 15, 326, 997, 998, 999, 1000, 1001, 1002, 1003, 1004, 1005, 1006, 1007, 1033, 1034, 1035, 1036, 1037, 1038, 1039, 1040] (by decide +kernel) (by decide +kernel)
set_option maxRecDepth 20000 in
theorem gL_law_X9_fault : GoodIn wsL_law (wsV RL 23 RX9 yX9_fault wsX9_fault) := goodIn_app (goodIn_of _ (by decide +kernel)) ggL_law_X9_fault
set_option maxRecDepth 20000 in
theorem ggL_law_X10_fault : GoodIn wsL_law wsX10_fault := goodIn_r _ [330, 124, 1008, 1009, 1010, 1011, 1012, 1013, 1014, 1015, 1016, 1017, 1018, 1019, 1020, 1021, 1022, 1023, 1024, 1025, 1026, 1027, 1028, 1029, 1030, 1031, 1032] (by decide +kernel) (by decide +kernel)
set_option maxRecDepth 20000 in
theorem gL_law_X10_fault : GoodIn wsL_law (wsV RL 26 RX10 yX10_fault wsX10_fault) := goodIn_app (goodIn_of _ (by decide +kernel)) ggL_law_X10_fault
set_option maxRecDepth 20000 in
theorem ggL_law_X9_told : GoodIn wsL_law wsX9_told := goodIn_r _ [334, 19, 335, 336, 337, 338, 175, 15, 150, 23, 339, 340, 341, 40, 172, 44, 173, 28, 342, 149, 343, 344, 345, 22, 346, 74, 347, 73, 348, 349, 350, 351, 352, 353, 354, 355, 356, 357, 358, 359, 360, 70, 997, 998, 999, 1000, 1001, 1002, 1003, 1004, 1005, 1006, 1007, 1041, 1042, 1043, 1044, 1045, 1046, 1047, 1048, 1049, 1033, 1034, 1035, 1036, 1037, 1038, 1039, 1040, 1050, 1051, 1052, 1053, 1054, 1055, 1056, 1064, 1065, 1066, 1067, 1068, 1069, 1070, 1071, 1072, 1073, 1057, 1058, 1059] (by decide +kernel) (by decide +kernel)
set_option maxRecDepth 20000 in
theorem gL_law_X9_told : GoodIn wsL_law (wsV RL 27 RX9 yX9_told wsX9_told) := goodIn_app (goodIn_of _ (by decide +kernel)) ggL_law_X9_told
set_option maxRecDepth 20000 in
theorem ggL_law_X10_told : GoodIn wsL_law wsX10_told := goodIn_r _ [364, 116, 163, 118, 137, 138, 136, 162, 365, 366, 367, 5, 368, 369, 370, 371, 372, 373, 374, 375, 376, 1008, 1009, 1010, 1011, 1012, 1013, 1014, 1015, 1016, 1017, 1018, 1019, 1020, 1021, 1022, 1023, 1024, 1025, 1026, 1027, 1028, 1029, 1030, 1031, 1032] (by decide +kernel) (by decide +kernel)
set_option maxRecDepth 20000 in
theorem gL_law_X10_told : GoodIn wsL_law (wsV RL 30 RX10 yX10_told wsX10_told) := goodIn_app (goodIn_of _ (by decide +kernel)) ggL_law_X10_told
set_option maxRecDepth 20000 in
theorem ggL_law_X9_creditor : GoodIn wsL_law wsX9_creditor := goodIn_r _ [380, 19, 381, 23, 382, 383, 384, 385, 149, 386, 387, 388, 18, 389, 190, 390, 391, 392, 22, 393, 74, 347, 394, 395, 396, 397, 357, 358, 359, 360, 70, 398, 399, 400, 401, 72, 402, 403, 404, 405, 406, 407, 408, 409, 410, 411, 197, 997, 998, 999, 1000, 1001, 1002, 1003, 1004, 1005, 1006, 1007, 1050, 1051, 1052, 1053, 1054, 1055, 1056, 1041, 1042, 1043, 1044, 1045, 1046, 1047, 1048, 1049] (by decide +kernel) (by decide +kernel)
set_option maxRecDepth 20000 in
theorem gL_law_X9_creditor : GoodIn wsL_law (wsV RL 31 RX9 yX9_creditor wsX9_creditor) := goodIn_app (goodIn_of _ (by decide +kernel)) ggL_law_X9_creditor
set_option maxRecDepth 20000 in
theorem ggL_law_X10_creditor : GoodIn wsL_law wsX10_creditor := goodIn_r _ [415, 416, 118, 116, 162, 417, 418, 419, 5, 420, 142, 143, 144, 421, 422, 423, 424, 425, 426, 427, 428, 429, 430, 431, 1008, 1009, 1010, 1011, 1012, 1013, 1014, 1015, 1016, 1017, 1018, 1019, 1020, 1021, 1022, 1023, 1024, 1025, 1026, 1027, 1028, 1029, 1030, 1031, 1032] (by decide +kernel) (by decide +kernel)
set_option maxRecDepth 20000 in
theorem gL_law_X10_creditor : GoodIn wsL_law (wsV RL 35 RX10 yX10_creditor wsX10_creditor) := goodIn_app (goodIn_of _ (by decide +kernel)) ggL_law_X10_creditor
set_option maxRecDepth 20000 in
theorem ggL_law_X9_person : GoodIn wsL_law wsX9_person := goodIn_r _ [435, 19, 381, 23, 436, 437, 149, 438, 439, 440, 18, 441, 191, 442, 443, 444, 445, 192, 446, 447, 353, 354, 22, 355, 74, 356, 357, 358, 359, 360, 70, 448, 449, 450, 451, 394, 395, 396, 397, 398, 399, 400, 401, 72, 402, 403, 404, 405, 406, 407, 408, 409, 410, 411, 197, 452, 453, 454, 455, 456, 997, 998, 999, 1000, 1001, 1002, 1003, 1004, 1005, 1006, 1007, 1050, 1051, 1052, 1053, 1054, 1055, 1056, 1041, 1042, 1043, 1044, 1045, 1046, 1047, 1048, 1049] (by decide +kernel) (by decide +kernel)
set_option maxRecDepth 20000 in
theorem gL_law_X9_person : GoodIn wsL_law (wsV RL 36 RX9 yX9_person wsX9_person) := goodIn_app (goodIn_of _ (by decide +kernel)) ggL_law_X9_person
set_option maxRecDepth 20000 in
theorem ggL_law_X10_person : GoodIn wsL_law wsX10_person := goodIn_r _ [460, 416, 116, 118, 162, 461, 462, 463, 5, 464, 142, 143, 144, 429, 430, 431, 373, 374, 375, 376, 465, 466, 467, 468, 425, 426, 427, 428, 1008, 1009, 1010, 1011, 1012, 1013, 1014, 1015, 1016, 1017, 1018, 1019, 1020, 1021, 1022, 1023, 1024, 1025, 1026, 1027, 1028, 1029, 1030, 1031, 1032] (by decide +kernel) (by decide +kernel)
set_option maxRecDepth 20000 in
theorem gL_law_X10_person : GoodIn wsL_law (wsV RL 39 RX10 yX10_person wsX10_person) := goodIn_app (goodIn_of _ (by decide +kernel)) ggL_law_X10_person
set_option maxRecDepth 20000 in
theorem ggL_law_X9_owes : GoodIn wsL_law wsX9_owes := goodIn_r _ [472, 19, 23, 381, 473, 474, 475, 18, 476, 446, 439, 440, 441, 191, 477, 387, 388, 389, 190, 478, 358, 359, 22, 360, 70, 997, 998, 999, 1000, 1001, 1002, 1003, 1004, 1005, 1006, 1007, 1041, 1042, 1043, 1044, 1045, 1046, 1047, 1048, 1049, 1050, 1051, 1052, 1053, 1054, 1055, 1056] (by decide +kernel) (by decide +kernel)
set_option maxRecDepth 20000 in
theorem gL_law_X9_owes : GoodIn wsL_law (wsV RL 40 RX9 yX9_owes wsX9_owes) := goodIn_app (goodIn_of _ (by decide +kernel)) ggL_law_X9_owes
set_option maxRecDepth 20000 in
theorem ggL_law_X10_owes : GoodIn wsL_law wsX10_owes := goodIn_r _ [482, 118, 416, 461, 462, 463, 5, 464, 116, 142, 143, 144, 417, 418, 419, 420, 1008, 1009, 1010, 1011, 1012, 1013, 1014, 1015, 1016, 1017, 1018, 1019, 1020, 1021, 1022, 1023, 1024, 1025, 1026, 1027, 1028, 1029, 1030, 1031, 1032] (by decide +kernel) (by decide +kernel)
set_option maxRecDepth 20000 in
theorem gL_law_X10_owes : GoodIn wsL_law (wsV RL 43 RX10 yX10_owes wsX10_owes) := goodIn_app (goodIn_of _ (by decide +kernel)) ggL_law_X10_owes
set_option maxRecDepth 20000 in
theorem ggL_law_X9_temper : GoodIn wsL_law wsX9_temper := goodIn_r _ [486, 19, 23, 381, 473, 474, 475, 18, 476, 446, 439, 440, 441, 191, 477, 387, 388, 389, 190, 487, 395, 396, 22, 397, 357, 358, 359, 360, 70, 398, 399, 400, 401, 72, 402, 403, 404, 405, 74, 406, 407, 408, 409, 410, 411, 197, 997, 998, 999, 1000, 1001, 1002, 1003, 1004, 1005, 1006, 1007, 1041, 1042, 1043, 1044, 1045, 1046, 1047, 1048, 1049, 1050, 1051, 1052, 1053, 1054, 1055, 1056] (by decide +kernel) (by decide +kernel)
set_option maxRecDepth 20000 in
theorem gL_law_X9_temper : GoodIn wsL_law (wsV RL 44 RX9 yX9_temper wsX9_temper) := goodIn_app (goodIn_of _ (by decide +kernel)) ggL_law_X9_temper
set_option maxRecDepth 20000 in
theorem ggL_law_X10_temper : GoodIn wsL_law wsX10_temper := goodIn_r _ [491, 118, 416, 461, 462, 463, 5, 464, 116, 142, 143, 144, 417, 418, 419, 420, 425, 426, 427, 428, 429, 430, 431, 1008, 1009, 1010, 1011, 1012, 1013, 1014, 1015, 1016, 1017, 1018, 1019, 1020, 1021, 1022, 1023, 1024, 1025, 1026, 1027, 1028, 1029, 1030, 1031, 1032] (by decide +kernel) (by decide +kernel)
set_option maxRecDepth 20000 in
theorem gL_law_X10_temper : GoodIn wsL_law (wsV RL 47 RX10 yX10_temper wsX10_temper) := goodIn_app (goodIn_of _ (by decide +kernel)) ggL_law_X10_temper
set_option maxRecDepth 20000 in
theorem ggL_law_X9_borrow : GoodIn wsL_law wsX9_borrow := goodIn_r _ [495, 19, 381, 149, 23, 496, 28, 473, 474, 475, 18, 476, 446, 439, 440, 441, 191, 477, 387, 388, 389, 190, 497, 498, 499, 22, 500, 71, 501, 502, 503, 504, 74, 73, 505, 506, 507, 508, 192, 408, 409, 410, 411, 197, 509, 510, 511, 27, 512, 81, 513, 273, 514, 265, 266, 267, 70, 268, 261, 262, 263, 72, 198, 515, 516, 517, 518, 357, 358, 359, 360, 519, 249, 250, 251, 252, 253, 254, 255, 478, 997, 998, 999, 1000, 1001, 1002, 1003, 1004, 1005, 1006, 1007, 1041, 1042, 1043, 1044, 1045, 1046, 1047, 1048, 1049, 1050, 1051, 1052, 1053, 1054, 1055, 1056, 1057, 1058, 1059] (by decide +kernel) (by decide +kernel)
set_option maxRecDepth 20000 in
theorem gL_law_X9_borrow : GoodIn wsL_law (wsV RL 48 RX9 yX9_borrow wsX9_borrow) := goodIn_app (goodIn_of _ (by decide +kernel)) ggL_law_X9_borrow
set_option maxRecDepth 20000 in
theorem ggL_law_X10_borrow : GoodIn wsL_law wsX10_borrow := goodIn_r _ [523, 416, 524, 162, 525, 118, 461, 462, 463, 5, 464, 116, 142, 143, 144, 417, 418, 419, 420, 526, 527, 528, 529, 530, 531, 532, 533, 534, 535, 536, 537, 429, 430, 431, 538, 539, 540, 541, 136, 120, 139, 140, 141, 542, 543, 544, 545, 546, 547, 548, 1008, 1009, 1010, 1011, 1012, 1013, 1014, 1015, 1016, 1017, 1018, 1019, 1020, 1021, 1022, 1023, 1024, 1025, 1026, 1027, 1028, 1029, 1030, 1031, 1032] (by decide +kernel) (by decide +kernel)
set_option maxRecDepth 20000 in
theorem gL_law_X10_borrow : GoodIn wsL_law (wsV RL 52 RX10 yX10_borrow wsX10_borrow) := goodIn_app (goodIn_of _ (by decide +kernel)) ggL_law_X10_borrow
set_option maxRecDepth 20000 in
theorem ggL_law_X9_pay : GoodIn wsL_law wsX9_pay := goodIn_r _ [552, 19, 381, 149, 23, 496, 28, 473, 474, 475, 18, 476, 446, 439, 440, 441, 191, 477, 387, 388, 389, 190, 478, 358, 359, 22, 360, 70, 509, 510, 511, 27, 512, 81, 513, 273, 514, 265, 266, 267, 268, 261, 262, 263, 71, 72, 73, 197, 198, 553, 554, 555, 556, 74, 557, 252, 253, 254, 255, 357, 519, 249, 250, 251, 997, 998, 999, 1000, 1001, 1002, 1003, 1004, 1005, 1006, 1007, 1041, 1042, 1043, 1044, 1045, 1046, 1047, 1048, 1049, 1050, 1051, 1052, 1053, 1054, 1055, 1056, 1057, 1058, 1059] (by decide +kernel) (by decide +kernel)
set_option maxRecDepth 20000 in
theorem gL_law_X9_pay : GoodIn wsL_law (wsV RL 53 RX9 yX9_pay wsX9_pay) := goodIn_app (goodIn_of _ (by decide +kernel)) ggL_law_X9_pay
set_option maxRecDepth 20000 in
theorem ggL_law_X10_pay : GoodIn wsL_law wsX10_pay := goodIn_r _ [561, 416, 562, 162, 118, 525, 116, 461, 462, 463, 5, 464, 142, 143, 144, 417, 418, 419, 420, 538, 539, 540, 541, 136, 120, 139, 140, 141, 546, 547, 548, 1008, 1009, 1010, 1011, 1012, 1013, 1014, 1015, 1016, 1017, 1018, 1019, 1020, 1021, 1022, 1023, 1024, 1025, 1026, 1027, 1028, 1029, 1030, 1031, 1032] (by decide +kernel) (by decide +kernel)
set_option maxRecDepth 20000 in
theorem gL_law_X10_pay : GoodIn wsL_law (wsV RL 56 RX10 yX10_pay wsX10_pay) := goodIn_app (goodIn_of _ (by decide +kernel)) ggL_law_X10_pay
set_option maxRecDepth 20000 in
theorem ggL_law_X9_quarter : GoodIn wsL_law wsX9_quarter := goodIn_r _ [566, 28, 23, 567, 568, 569, 2, 570, 149, 19, 335, 496, 339, 151, 509, 510, 511, 27, 512, 81, 513, 273, 514, 265, 266, 22, 267, 70, 268, 261, 262, 263, 71, 72, 73, 197, 198, 571, 572, 573, 574, 74, 347, 356, 357, 358, 359, 360, 575, 576, 577, 18, 578, 188, 579, 253, 254, 255, 519, 249, 250, 251, 252, 408, 409, 410, 411, 580, 581, 582, 583, 394, 395, 396, 397, 398, 399, 400, 401, 402, 403, 404, 405, 406, 407, 584, 585, 586, 587, 588, 589, 590, 591, 592, 593, 594, 997, 998, 999, 1000, 1001, 1002, 1003, 1004, 1005, 1006, 1007, 1041, 1042, 1043, 1044, 1045, 1046, 1047, 1048, 1049, 1050, 1051, 1052, 1053, 1054, 1055, 1056, 1057, 1058, 1059] (by decide +kernel) (by decide +kernel)
set_option maxRecDepth 20000 in
theorem gL_law_X9_quarter : GoodIn wsL_law (wsV RL 57 RX9 yX9_quarter wsX9_quarter) := goodIn_app (goodIn_of _ (by decide +kernel)) ggL_law_X9_quarter
set_option maxRecDepth 20000 in
theorem ggL_law_X10_quarter : GoodIn wsL_law wsX10_quarter := goodIn_r _ [598, 118, 599, 600, 601, 5, 602, 603, 162, 116, 525, 164, 142, 143, 144, 538, 539, 540, 541, 136, 120, 139, 140, 141, 604, 605, 606, 607, 608, 609, 610, 611, 546, 547, 548, 612, 613, 614, 615, 425, 426, 427, 428, 429, 430, 431, 616, 617, 618, 1008, 1009, 1010, 1011, 1012, 1013, 1014, 1015, 1016, 1017, 1018, 1019, 1020, 1021, 1022, 1023, 1024, 1025, 1026, 1027, 1028, 1029, 1030, 1031, 1032] (by decide +kernel) (by decide +kernel)
set_option maxRecDepth 20000 in
theorem gL_law_X10_quarter : GoodIn wsL_law (wsV RL 60 RX10 yX10_quarter wsX10_quarter) := goodIn_app (goodIn_of _ (by decide +kernel)) ggL_law_X10_quarter
set_option maxRecDepth 20000 in
theorem ggL_law_X9_wed : GoodIn wsL_law wsX9_wed := goodIn_r _ [622, 28, 23, 623, 624, 625, 2, 626, 19, 381, 436, 496, 442, 443, 444, 18, 445, 192, 446, 439, 440, 441, 191, 627, 506, 507, 508, 509, 510, 511, 27, 512, 81, 513, 273, 514, 265, 266, 22, 267, 70, 268, 261, 262, 263, 71, 72, 73, 197, 198, 628, 629, 630, 631, 74, 356, 357, 358, 359, 360, 519, 249, 250, 251, 252, 253, 254, 255, 448, 449, 450, 451, 394, 395, 396, 397, 398, 399, 400, 401, 402, 403, 404, 405, 406, 407, 408, 409, 410, 411, 452, 453, 454, 455, 456, 997, 998, 999, 1000, 1001, 1002, 1003, 1004, 1005, 1006, 1007, 1050, 1051, 1052, 1053, 1054, 1055, 1056, 1041, 1042, 1043, 1044, 1045, 1046, 1047, 1048, 1049, 1057, 1058, 1059] (by decide +kernel) (by decide +kernel)
set_option maxRecDepth 20000 in
theorem gL_law_X9_wed : GoodIn wsL_law (wsV RL 61 RX9 yX9_wed wsX9_wed) := goodIn_app (goodIn_of _ (by decide +kernel)) ggL_law_X9_wed
set_option maxRecDepth 20000 in
theorem ggL_law_X10_wed : GoodIn wsL_law wsX10_wed := goodIn_r _ [635, 416, 525, 118, 636, 637, 638, 5, 639, 116, 461, 462, 463, 464, 142, 143, 144, 429, 430, 431, 534, 535, 536, 537, 640, 641, 642, 643, 538, 539, 540, 541, 136, 120, 139, 140, 141, 644, 645, 646, 647, 546, 547, 548, 465, 466, 467, 468, 425, 426, 427, 428, 1008, 1009, 1010, 1011, 1012, 1013, 1014, 1015, 1016, 1017, 1018, 1019, 1020, 1021, 1022, 1023, 1024, 1025, 1026, 1027, 1028, 1029, 1030, 1031, 1032] (by decide +kernel) (by decide +kernel)
set_option maxRecDepth 20000 in
theorem gL_law_X10_wed : GoodIn wsL_law (wsV RL 64 RX10 yX10_wed wsX10_wed) := goodIn_app (goodIn_of _ (by decide +kernel)) ggL_law_X10_wed
set_option maxRecDepth 20000 in
theorem ggL_law_X9_divorce : GoodIn wsL_law wsX9_divorce := goodIn_r _ [651, 19, 381, 23, 436, 496, 28, 442, 443, 444, 18, 445, 192, 446, 439, 440, 441, 191, 438, 509, 510, 511, 27, 512, 81, 513, 273, 514, 265, 266, 22, 267, 70, 268, 261, 262, 263, 71, 72, 73, 197, 198, 652, 653, 654, 655, 74, 356, 357, 358, 359, 360, 519, 249, 250, 251, 252, 253, 254, 255, 447, 353, 354, 355, 997, 998, 999, 1000, 1001, 1002, 1003, 1004, 1005, 1006, 1007, 1050, 1051, 1052, 1053, 1054, 1055, 1056, 1041, 1042, 1043, 1044, 1045, 1046, 1047, 1048, 1049, 1057, 1058, 1059] (by decide +kernel) (by decide +kernel)
set_option maxRecDepth 20000 in
theorem gL_law_X9_divorce : GoodIn wsL_law (wsV RL 65 RX9 yX9_divorce wsX9_divorce) := goodIn_app (goodIn_of _ (by decide +kernel)) ggL_law_X9_divorce
set_option maxRecDepth 20000 in
theorem ggL_law_X10_divorce : GoodIn wsL_law wsX10_divorce := goodIn_r _ [659, 416, 118, 525, 636, 637, 638, 5, 639, 116, 461, 462, 463, 464, 142, 143, 144, 429, 430, 431, 538, 539, 540, 541, 136, 120, 139, 140, 141, 373, 374, 375, 376, 1008, 1009, 1010, 1011, 1012, 1013, 1014, 1015, 1016, 1017, 1018, 1019, 1020, 1021, 1022, 1023, 1024, 1025, 1026, 1027, 1028, 1029, 1030, 1031, 1032] (by decide +kernel) (by decide +kernel)
set_option maxRecDepth 20000 in
theorem gL_law_X10_divorce : GoodIn wsL_law (wsV RL 68 RX10 yX10_divorce wsX10_divorce) := goodIn_app (goodIn_of _ (by decide +kernel)) ggL_law_X10_divorce
set_option maxRecDepth 20000 in
theorem ggL_law_X9_drift : GoodIn wsL_law wsX9_drift := goodIn_r _ [663, 28, 23, 567, 568, 569, 2, 570, 149, 19, 335, 496, 339, 151, 509, 510, 511, 27, 512, 81, 513, 273, 514, 265, 266, 22, 267, 70, 268, 261, 262, 263, 71, 72, 73, 197, 198, 664, 665, 666, 667, 175, 338, 668, 669, 670, 671, 49, 672, 673, 674, 675, 473, 474, 475, 18, 476, 446, 439, 440, 441, 191, 477, 387, 388, 389, 190, 497, 498, 499, 500, 501, 502, 503, 504, 74, 505, 506, 507, 508, 192, 408, 409, 410, 411, 515, 516, 517, 518, 357, 358, 359, 360, 519, 249, 250, 251, 252, 253, 254, 255, 571, 572, 573, 574, 347, 356, 575, 576, 577, 578, 188, 579, 580, 581, 582, 583, 394, 395, 396, 397, 398, 399, 400, 401, 402, 403, 404, 405, 406, 407, 584, 585, 586, 587, 348, 349, 350, 351, 352, 353, 354, 355, 997, 998, 999, 1000, 1001, 1002, 1003, 1004, 1005, 1006, 1007, 1041, 1042, 1043, 1044, 1045, 1046, 1047, 1048, 1049, 1050, 1051, 1052, 1053, 1054, 1055, 1056, 1057, 1058, 1059] (by decide +kernel) (by decide +kernel)
set_option maxRecDepth 20000 in
theorem gL_law_X9_drift : GoodIn wsL_law (wsV RL 69 RX9 yX9_drift wsX9_drift) := goodIn_app (goodIn_of _ (by decide +kernel)) ggL_law_X9_drift
set_option maxRecDepth 20000 in
theorem ggL_law_X10_drift : GoodIn wsL_law wsX10_drift := goodIn_r _ [679, 116, 118, 599, 600, 601, 5, 602, 603, 162, 525, 164, 142, 143, 144, 538, 539, 540, 541, 136, 120, 139, 140, 141, 680, 681, 682, 683, 684, 685, 686, 687, 688, 526, 527, 528, 529, 530, 531, 532, 533, 534, 535, 536, 537, 461, 462, 463, 464, 429, 430, 431, 542, 543, 544, 545, 546, 547, 548, 604, 605, 606, 607, 608, 609, 610, 611, 612, 613, 614, 615, 425, 426, 427, 428, 369, 370, 371, 372, 373, 374, 375, 376, 1008, 1009, 1010, 1011, 1012, 1013, 1014, 1015, 1016, 1017, 1018, 1019, 1020, 1021, 1022, 1023, 1024, 1025, 1026, 1027, 1028, 1029, 1030, 1031, 1032] (by decide +kernel) (by decide +kernel)
set_option maxRecDepth 20000 in
theorem gL_law_X10_drift : GoodIn wsL_law (wsV RL 72 RX10 yX10_drift wsX10_drift) := goodIn_app (goodIn_of _ (by decide +kernel)) ggL_law_X10_drift
set_option maxRecDepth 20000 in
theorem ggL_law_X9_undo : GoodIn wsL_law wsX9_undo := goodIn_r _ [692, 149, 28, 342, 496, 23, 339, 693, 694, 695, 27, 696, 273, 81, 513, 514, 265, 266, 22, 267, 70, 268, 261, 262, 263, 71, 72, 73, 197, 198, 997, 998, 999, 1000, 1001, 1002, 1003, 1004, 1005, 1006, 1007, 1057, 1058, 1059, 1050, 1051, 1052, 1053, 1054, 1055, 1056] (by decide +kernel) (by decide +kernel)
set_option maxRecDepth 20000 in
theorem gL_law_X9_undo : GoodIn wsL_law (wsV RL 73 RX9 yX9_undo wsX9_undo) := goodIn_app (goodIn_of _ (by decide +kernel)) ggL_law_X9_undo
set_option maxRecDepth 20000 in
theorem ggL_law_X10_undo : GoodIn wsL_law wsX10_undo := goodIn_r _ [700, 701, 162, 136, 525, 120, 118, 142, 143, 5, 144, 139, 140, 141, 1008, 1009, 1010, 1011, 1012, 1013, 1014, 1015, 1016, 1017, 1018, 1019, 1020, 1021, 1022, 1023, 1024, 1025, 1026, 1027, 1028, 1029, 1030, 1031, 1032] (by decide +kernel) (by decide +kernel)
set_option maxRecDepth 20000 in
theorem gL_law_X10_undo : GoodIn wsL_law (wsV RL 76 RX10 yX10_undo wsX10_undo) := goodIn_app (goodIn_of _ (by decide +kernel)) ggL_law_X10_undo
set_option maxRecDepth 20000 in
theorem ggL_law_X9_joined : GoodIn wsL_law wsX9_joined := goodIn_r _ [705, 23, 623, 624, 625, 2, 626, 19, 381, 436, 496, 442, 443, 444, 18, 445, 192, 446, 439, 440, 441, 191, 627, 506, 507, 508, 706, 707, 708, 22, 709, 74, 356, 252, 253, 254, 255, 398, 399, 400, 401, 72, 357, 358, 359, 360, 70, 402, 403, 404, 405, 406, 407, 408, 409, 410, 411, 197, 452, 453, 454, 455, 456, 997, 998, 999, 1000, 1001, 1002, 1003, 1004, 1005, 1006, 1007, 1050, 1051, 1052, 1053, 1054, 1055, 1056, 1041, 1042, 1043, 1044, 1045, 1046, 1047, 1048, 1049] (by decide +kernel) (by decide +kernel)
set_option maxRecDepth 20000 in
theorem gL_law_X9_joined : GoodIn wsL_law (wsV RL 77 RX9 yX9_joined wsX9_joined) := goodIn_app (goodIn_of _ (by decide +kernel)) ggL_law_X9_joined
set_option maxRecDepth 20000 in
theorem ggL_law_X10_joined : GoodIn wsL_law wsX10_joined := goodIn_r _ [713, 416, 525, 636, 637, 638, 5, 639, 116, 461, 462, 463, 464, 142, 143, 144, 429, 430, 431, 534, 535, 536, 537, 640, 641, 642, 643, 118, 714, 715, 716, 717, 119, 718, 719, 720, 721, 139, 140, 141, 644, 645, 646, 647, 546, 547, 548, 465, 466, 467, 468, 425, 426, 427, 428, 1008, 1009, 1010, 1011, 1012, 1013, 1014, 1015, 1016, 1017, 1018, 1019, 1020, 1021, 1022, 1023, 1024, 1025, 1026, 1027, 1028, 1029, 1030, 1031, 1032] (by decide +kernel) (by decide +kernel)
set_option maxRecDepth 20000 in
theorem gL_law_X10_joined : GoodIn wsL_law (wsV RL 80 RX10 yX10_joined wsX10_joined) := goodIn_app (goodIn_of _ (by decide +kernel)) ggL_law_X10_joined
set_option maxRecDepth 20000 in
theorem ggL_law_X9_least : GoodIn wsL_law wsX9_least := goodIn_r _ [725, 19, 381, 149, 23, 496, 438, 439, 440, 18, 441, 191, 726, 502, 503, 22, 504, 74, 73, 505, 506, 507, 508, 192, 446, 727, 728, 729, 730, 356, 731, 732, 733, 734, 735, 406, 394, 395, 396, 397, 357, 358, 359, 360, 70, 398, 399, 400, 401, 72, 402, 403, 404, 405, 407, 408, 409, 410, 411, 197, 736, 498, 499, 500, 71, 501, 737, 449, 450, 451, 452, 453, 454, 455, 456, 738, 739, 740, 741, 742, 743, 744, 745, 746, 997, 998, 999, 1000, 1001, 1002, 1003, 1004, 1005, 1006, 1007, 1041, 1042, 1043, 1044, 1045, 1046, 1047, 1048, 1049, 1050, 1051, 1052, 1053, 1054, 1055, 1056] (by decide +kernel) (by decide +kernel)
set_option maxRecDepth 20000 in
theorem gL_law_X9_least : GoodIn wsL_law (wsV RL 81 RX9 yX9_least wsX9_least) := goodIn_app (goodIn_of _ (by decide +kernel)) ggL_law_X9_least
set_option maxRecDepth 20000 in
theorem ggL_law_X10_least : GoodIn wsL_law wsX10_least := goodIn_r _ [750, 416, 751, 162, 525, 752, 116, 119, 461, 462, 463, 5, 464, 142, 143, 144, 530, 531, 532, 533, 118, 534, 535, 536, 537, 429, 430, 431, 753, 754, 755, 756, 718, 719, 720, 721, 139, 140, 141, 465, 466, 467, 468, 425, 426, 427, 428, 1008, 1009, 1010, 1011, 1012, 1013, 1014, 1015, 1016, 1017, 1018, 1019, 1020, 1021, 1022, 1023, 1024, 1025, 1026, 1027, 1028, 1029, 1030, 1031, 1032] (by decide +kernel) (by decide +kernel)
set_option maxRecDepth 20000 in
theorem gL_law_X10_least : GoodIn wsL_law (wsV RL 84 RX10 yX10_least wsX10_least) := goodIn_app (goodIn_of _ (by decide +kernel)) ggL_law_X10_least
set_option maxRecDepth 20000 in
theorem ggL_law_X9_plan : GoodIn wsL_law wsX9_plan := goodIn_r _ [760, 19, 381, 149, 23, 36, 761, 762, 473, 474, 475, 18, 476, 446, 439, 440, 441, 191, 477, 387, 388, 389, 190, 763, 409, 410, 22, 411, 197, 478, 358, 359, 360, 70, 764, 765, 766, 35, 767, 90, 768, 769, 770, 771, 253, 254, 255, 772, 773, 774, 775, 776, 777, 778, 779, 780, 781, 576, 577, 578, 188, 579, 782, 783, 784, 785, 63, 64, 997, 998, 999, 1000, 1001, 1002, 1003, 1004, 1005, 1006, 1007, 1061, 1062, 1063, 1041, 1042, 1043, 1044, 1045, 1046, 1047, 1048, 1049, 1050, 1051, 1052, 1053, 1054, 1055, 1056] (by decide +kernel) (by decide +kernel)
set_option maxRecDepth 20000 in
theorem gL_law_X9_plan : GoodIn wsL_law (wsV RL 85 RX9 yX9_plan wsX9_plan) := goodIn_app (goodIn_of _ (by decide +kernel)) ggL_law_X9_plan
set_option maxRecDepth 20000 in
theorem ggL_law_X10_plan : GoodIn wsL_law wsX10_plan := goodIn_r _ [789, 416, 790, 162, 118, 128, 752, 127, 791, 461, 462, 463, 5, 464, 116, 142, 143, 144, 417, 418, 419, 420, 429, 430, 431, 792, 793, 794, 795, 608, 609, 610, 611, 546, 547, 548, 139, 140, 141, 1008, 1009, 1010, 1011, 1012, 1013, 1014, 1015, 1016, 1017, 1018, 1019, 1020, 1021, 1022, 1023, 1024, 1025, 1026, 1027, 1028, 1029, 1030, 1031, 1032] (by decide +kernel) (by decide +kernel)
set_option maxRecDepth 20000 in
theorem gL_law_X10_plan : GoodIn wsL_law (wsV RL 89 RX10 yX10_plan wsX10_plan) := goodIn_app (goodIn_of _ (by decide +kernel)) ggL_law_X10_plan
set_option maxRecDepth 20000 in
theorem ggL_law_X9_matches : GoodIn wsL_law wsX9_matches := goodIn_r _ [799, 19, 381, 32, 23, 800, 442, 443, 444, 18, 445, 192, 446, 439, 440, 441, 191, 801, 802, 803, 31, 804, 86, 805, 344, 345, 22, 346, 74, 347, 73, 806, 807, 808, 809, 810, 811, 812, 813, 506, 507, 508, 814, 707, 708, 709, 356, 252, 253, 254, 255, 398, 399, 400, 401, 72, 357, 358, 359, 360, 70, 402, 403, 404, 405, 406, 407, 408, 409, 410, 411, 197, 452, 453, 454, 455, 456, 815, 449, 450, 451, 394, 395, 396, 397, 997, 998, 999, 1000, 1001, 1002, 1003, 1004, 1005, 1006, 1007, 1060, 1041, 1042, 1043, 1044, 1045, 1046, 1047, 1048, 1049, 1050, 1051, 1052, 1053, 1054, 1055, 1056] (by decide +kernel) (by decide +kernel)
set_option maxRecDepth 20000 in
theorem gL_law_X9_matches : GoodIn wsL_law (wsV RL 90 RX9 yX9_matches wsX9_matches) := goodIn_app (goodIn_of _ (by decide +kernel)) ggL_law_X9_matches
set_option maxRecDepth 20000 in
theorem ggL_law_X10_matches : GoodIn wsL_law wsX10_matches := goodIn_r _ [819, 416, 129, 636, 637, 638, 5, 639, 116, 461, 462, 463, 464, 142, 143, 144, 429, 430, 431, 820, 821, 822, 823, 824, 118, 365, 366, 367, 368, 534, 535, 536, 537, 714, 715, 716, 717, 119, 718, 719, 720, 721, 139, 140, 141, 644, 645, 646, 647, 546, 547, 548, 465, 466, 467, 468, 425, 426, 427, 428, 1008, 1009, 1010, 1011, 1012, 1013, 1014, 1015, 1016, 1017, 1018, 1019, 1020, 1021, 1022, 1023, 1024, 1025, 1026, 1027, 1028, 1029, 1030, 1031, 1032] (by decide +kernel) (by decide +kernel)
set_option maxRecDepth 20000 in
theorem gL_law_X10_matches : GoodIn wsL_law (wsV RL 93 RX10 yX10_matches wsX10_matches) := goodIn_app (goodIn_of _ (by decide +kernel)) ggL_law_X10_matches
set_option maxRecDepth 20000 in
theorem ggL_law_X9_failing : GoodIn wsL_law wsX9_failing := goodIn_r _ [828, 24, 23, 264, 265, 266, 22, 267, 70, 268, 261, 262, 263, 71, 72, 73, 197, 198, 571, 572, 573, 574, 74, 347, 356, 357, 358, 359, 360, 575, 576, 577, 18, 578, 188, 579, 253, 254, 255, 519, 249, 250, 251, 252, 408, 409, 410, 411, 580, 581, 582, 583, 394, 395, 396, 397, 398, 399, 400, 401, 402, 403, 404, 405, 406, 407, 584, 585, 586, 587, 997, 998, 999, 1000, 1001, 1002, 1003, 1004, 1005, 1006, 1007, 1050, 1051, 1052, 1053, 1054, 1055, 1056, 1041, 1042, 1043, 1044, 1045, 1046, 1047, 1048, 1049] (by decide +kernel) (by decide +kernel)
set_option maxRecDepth 20000 in
theorem gL_law_X9_failing : GoodIn wsL_law (wsV RL 94 RX9 yX9_failing wsX9_failing) := goodIn_app (goodIn_of _ (by decide +kernel)) ggL_law_X9_failing
set_option maxRecDepth 20000 in
theorem ggL_law_X10_failing : GoodIn wsL_law wsX10_failing := goodIn_r _ [832, 119, 118, 718, 719, 720, 5, 721, 139, 140, 141, 604, 605, 606, 607, 608, 609, 610, 611, 116, 546, 547, 548, 612, 613, 614, 615, 425, 426, 427, 428, 429, 430, 431, 1008, 1009, 1010, 1011, 1012, 1013, 1014, 1015, 1016, 1017, 1018, 1019, 1020, 1021, 1022, 1023, 1024, 1025, 1026, 1027, 1028, 1029, 1030, 1031, 1032] (by decide +kernel) (by decide +kernel)
set_option maxRecDepth 20000 in
theorem gL_law_X10_failing : GoodIn wsL_law (wsV RL 97 RX10 yX10_failing wsX10_failing) := goodIn_app (goodIn_of _ (by decide +kernel)) ggL_law_X10_failing
set_option maxRecDepth 20000 in
theorem ggL_law_X9_run : GoodIn wsL_law wsX9_run := goodIn_r _ [836, 149, 24, 23, 341, 264, 265, 266, 22, 267, 70, 268, 261, 262, 263, 71, 72, 73, 197, 198, 571, 572, 573, 574, 74, 347, 356, 357, 358, 359, 360, 575, 576, 577, 18, 578, 188, 579, 253, 254, 255, 519, 249, 250, 251, 252, 408, 409, 410, 411, 580, 581, 582, 583, 394, 395, 396, 397, 398, 399, 400, 401, 402, 403, 404, 405, 406, 407, 584, 585, 586, 587, 997, 998, 999, 1000, 1001, 1002, 1003, 1004, 1005, 1006, 1007, 1050, 1051, 1052, 1053, 1054, 1055, 1056, 1041, 1042, 1043, 1044, 1045, 1046, 1047, 1048, 1049] (by decide +kernel) (by decide +kernel)
set_option maxRecDepth 20000 in
theorem gL_law_X9_run : GoodIn wsL_law (wsV RL 98 RX9 yX9_run wsX9_run) := goodIn_app (goodIn_of _ (by decide +kernel)) ggL_law_X9_run
set_option maxRecDepth 20000 in
theorem ggL_law_X10_run : GoodIn wsL_law wsX10_run := goodIn_r _ [840, 603, 162, 119, 142, 143, 5, 144, 718, 719, 720, 721, 118, 139, 140, 141, 604, 605, 606, 607, 608, 609, 610, 611, 116, 546, 547, 548, 612, 613, 614, 615, 425, 426, 427, 428, 429, 430, 431, 1008, 1009, 1010, 1011, 1012, 1013, 1014, 1015, 1016, 1017, 1018, 1019, 1020, 1021, 1022, 1023, 1024, 1025, 1026, 1027, 1028, 1029, 1030, 1031, 1032] (by decide +kernel) (by decide +kernel)
set_option maxRecDepth 20000 in
theorem gL_law_X10_run : GoodIn wsL_law (wsV RL 101 RX10 yX10_run wsX10_run) := goodIn_app (goodIn_of _ (by decide +kernel)) ggL_law_X10_run
set_option maxRecDepth 20000 in
theorem ggL_law_X9_credit : GoodIn wsL_law wsX9_credit := goodIn_r _ [844, 19, 381, 23, 382, 384, 845, 253, 254, 255, 473, 474, 475, 18, 476, 446, 439, 440, 441, 191, 477, 387, 388, 389, 190, 478, 358, 359, 22, 360, 70, 497, 498, 499, 500, 71, 501, 502, 503, 504, 74, 73, 505, 506, 507, 508, 192, 408, 409, 410, 411, 197, 846, 399, 400, 401, 72, 847, 403, 404, 405, 406, 407, 997, 998, 999, 1000, 1001, 1002, 1003, 1004, 1005, 1006, 1007, 1050, 1051, 1052, 1053, 1054, 1055, 1056, 1041, 1042, 1043, 1044, 1045, 1046, 1047, 1048, 1049] (by decide +kernel) (by decide +kernel)
set_option maxRecDepth 20000 in
theorem gL_law_X9_credit : GoodIn wsL_law (wsV RL 102 RX9 yX9_credit wsX9_credit) := goodIn_app (goodIn_of _ (by decide +kernel)) ggL_law_X9_credit
set_option maxRecDepth 20000 in
theorem ggL_law_X10_credit : GoodIn wsL_law wsX10_credit := goodIn_r _ [851, 416, 119, 461, 462, 463, 5, 464, 116, 142, 143, 144, 417, 418, 419, 420, 526, 527, 528, 529, 118, 530, 531, 532, 533, 534, 535, 536, 537, 429, 430, 431, 718, 719, 720, 721, 139, 140, 141, 425, 426, 427, 428, 1008, 1009, 1010, 1011, 1012, 1013, 1014, 1015, 1016, 1017, 1018, 1019, 1020, 1021, 1022, 1023, 1024, 1025, 1026, 1027, 1028, 1029, 1030, 1031, 1032] (by decide +kernel) (by decide +kernel)
set_option maxRecDepth 20000 in
theorem gL_law_X10_credit : GoodIn wsL_law (wsV RL 105 RX10 yX10_credit wsX10_credit) := goodIn_app (goodIn_of _ (by decide +kernel)) ggL_law_X10_credit
set_option maxRecDepth 20000 in
theorem ggL_law_X9_rumours : GoodIn wsL_law wsX9_rumours := goodIn_r _ [855, 149, 856, 857] (by decide +kernel) (by decide +kernel)
set_option maxRecDepth 20000 in
theorem gL_law_X9_rumours : GoodIn wsL_law (wsV RL 106 RX9 yX9_rumours wsX9_rumours) := goodIn_app (goodIn_of _ (by decide +kernel)) ggL_law_X9_rumours
set_option maxRecDepth 20000 in
theorem ggL_law_X10_rumours : GoodIn wsL_law wsX10_rumours := goodIn_r _ [861, 862, 863, 162, 864, 142, 143, 5, 144] (by decide +kernel) (by decide +kernel)
set_option maxRecDepth 20000 in
theorem gL_law_X10_rumours : GoodIn wsL_law (wsV RL 109 RX10 yX10_rumours wsX10_rumours) := goodIn_app (goodIn_of _ (by decide +kernel)) ggL_law_X10_rumours
set_option maxRecDepth 20000 in
theorem ggL_law_X9_card : GoodIn wsL_law wsX9_card := goodIn_r _ [868, 19, 381, 149, 40, 172, 151, 473, 474, 475, 18, 476, 446, 439, 440, 441, 191, 477, 387, 388, 389, 190, 869, 870, 871, 39, 872, 873, 94, 95, 96, 98, 997, 998, 999, 1000, 1001, 1002, 1003, 1004, 1005, 1006, 1007, 1064, 1065, 1066, 1067, 1068, 1069, 1070, 1041, 1042, 1043, 1044, 1045, 1046, 1047, 1048, 1049] (by decide +kernel) (by decide +kernel)
set_option maxRecDepth 20000 in
theorem gL_law_X9_card : GoodIn wsL_law (wsV RL 110 RX9 yX9_card wsX9_card) := goodIn_app (goodIn_of _ (by decide +kernel)) ggL_law_X9_card
set_option maxRecDepth 20000 in
theorem ggL_law_X10_card : GoodIn wsL_law wsX10_card := goodIn_r _ [877, 416, 878, 162, 137, 164, 125, 461, 462, 463, 5, 464, 116, 142, 143, 144, 417, 418, 419, 420, 1008, 1009, 1010, 1011, 1012, 1013, 1014, 1015, 1016, 1017, 1018, 1019, 1020, 1021, 1022, 1023, 1024, 1025, 1026, 1027, 1028, 1029, 1030, 1031, 1032] (by decide +kernel) (by decide +kernel)
set_option maxRecDepth 20000 in
theorem gL_law_X10_card : GoodIn wsL_law (wsV RL 114 RX10 yX10_card wsX10_card) := goodIn_app (goodIn_of _ (by decide +kernel)) ggL_law_X10_card
set_option maxRecDepth 20000 in
theorem ggL_law_X9_had : GoodIn wsL_law wsX9_had := goodIn_r _ [882, 19, 381, 149, 40, 883, 473, 474, 475, 18, 476, 446, 439, 440, 441, 191, 477, 387, 388, 389, 190, 884, 885, 886, 39, 887, 888, 99, 889, 890, 891, 892, 873, 94, 95, 96, 98, 893, 894, 895, 896, 576, 577, 578, 188, 579, 253, 254, 255, 897, 783, 784, 785, 63, 64, 898, 899, 900, 901, 902, 903, 904, 905, 997, 998, 999, 1000, 1001, 1002, 1003, 1004, 1005, 1006, 1007, 1064, 1065, 1066, 1067, 1068, 1069, 1070, 1041, 1042, 1043, 1044, 1045, 1046, 1047, 1048, 1049] (by decide +kernel) (by decide +kernel)
set_option maxRecDepth 20000 in
theorem gL_law_X9_had : GoodIn wsL_law (wsV RL 115 RX9 yX9_had wsX9_had) := goodIn_app (goodIn_of _ (by decide +kernel)) ggL_law_X9_had
set_option maxRecDepth 20000 in
theorem ggL_law_X10_had : GoodIn wsL_law wsX10_had := goodIn_r _ [909, 416, 910, 162, 461, 462, 463, 5, 464, 116, 142, 143, 144, 417, 418, 419, 420, 911, 912, 913, 914, 137, 125, 915, 916, 917, 918, 608, 609, 610, 611, 546, 547, 548, 1008, 1009, 1010, 1011, 1012, 1013, 1014, 1015, 1016, 1017, 1018, 1019, 1020, 1021, 1022, 1023, 1024, 1025, 1026, 1027, 1028, 1029, 1030, 1031, 1032] (by decide +kernel) (by decide +kernel)
set_option maxRecDepth 20000 in
theorem gL_law_X10_had : GoodIn wsL_law (wsV RL 118 RX10 yX10_had wsX10_had) := goodIn_app (goodIn_of _ (by decide +kernel)) ggL_law_X10_had
set_option maxRecDepth 20000 in
theorem ggL_law_X9_lookAt : GoodIn wsL_law wsX9_lookAt := goodIn_r _ [922, 19, 381, 40, 473, 474, 475, 18, 476, 446, 439, 440, 441, 191, 477, 387, 388, 389, 190, 884, 885, 886, 39, 887, 888, 99, 889, 890, 891, 892, 873, 94, 95, 96, 98, 893, 894, 895, 896, 576, 577, 578, 188, 579, 253, 254, 255, 897, 783, 784, 785, 63, 64, 923, 924, 925, 926, 927, 928, 929, 997, 998, 999, 1000, 1001, 1002, 1003, 1004, 1005, 1006, 1007, 1041, 1042, 1043, 1044, 1045, 1046, 1047, 1048, 1049, 1064, 1065, 1066, 1067, 1068, 1069, 1070] (by decide +kernel) (by decide +kernel)
set_option maxRecDepth 20000 in
theorem gL_law_X9_lookAt : GoodIn wsL_law (wsV RL 119 RX9 yX9_lookAt wsX9_lookAt) := goodIn_app (goodIn_of _ (by decide +kernel)) ggL_law_X9_lookAt
set_option maxRecDepth 20000 in
theorem ggL_law_X10_lookAt : GoodIn wsL_law wsX10_lookAt := goodIn_r _ [933, 416, 461, 462, 463, 5, 464, 116, 142, 143, 144, 417, 418, 419, 420, 934, 907, 908, 909, 910, 162, 911, 912, 913, 914, 137, 125, 915, 916, 917, 918, 608, 609, 610, 611, 546, 547, 548, 1008, 1009, 1010, 1011, 1012, 1013, 1014, 1015, 1016, 1017, 1018, 1019, 1020, 1021, 1022, 1023, 1024, 1025, 1026, 1027, 1028, 1029, 1030, 1031, 1032] (by decide +kernel) (by decide +kernel)
set_option maxRecDepth 20000 in
theorem gL_law_X10_lookAt : GoodIn wsL_law (wsV RL 122 RX10 yX10_lookAt wsX10_lookAt) := goodIn_app (goodIn_of _ (by decide +kernel)) ggL_law_X10_lookAt
set_option maxRecDepth 20000 in
theorem ggL_law_X9_write : GoodIn wsL_law wsX9_write := goodIn_r _ [938, 19, 381, 149, 44, 173, 151, 438, 439, 440, 18, 441, 191, 939, 940, 941, 43, 942, 943, 103, 104, 997, 998, 999, 1000, 1001, 1002, 1003, 1004, 1005, 1006, 1007, 1071, 1072, 1073, 1041, 1042, 1043, 1044, 1045, 1046, 1047, 1048, 1049] (by decide +kernel) (by decide +kernel)
set_option maxRecDepth 20000 in
theorem gL_law_X9_write : GoodIn wsL_law (wsV RL 123 RX9 yX9_write wsX9_write) := goodIn_app (goodIn_of _ (by decide +kernel)) ggL_law_X9_write
set_option maxRecDepth 20000 in
theorem ggL_law_X10_write : GoodIn wsL_law wsX10_write := goodIn_r _ [947, 416, 948, 949, 162, 138, 164, 126, 461, 462, 463, 5, 464, 116, 142, 143, 144, 1008, 1009, 1010, 1011, 1012, 1013, 1014, 1015, 1016, 1017, 1018, 1019, 1020, 1021, 1022, 1023, 1024, 1025, 1026, 1027, 1028, 1029, 1030, 1031, 1032] (by decide +kernel) (by decide +kernel)
set_option maxRecDepth 20000 in
theorem gL_law_X10_write : GoodIn wsL_law (wsV RL 126 RX10 yX10_write wsX10_write) := goodIn_app (goodIn_of _ (by decide +kernel)) ggL_law_X10_write
set_option maxRecDepth 20000 in
theorem ggL_law_X9_judge : GoodIn wsL_law wsX9_judge := goodIn_r _ [953, 44, 23, 954, 955, 956, 43, 957, 943, 103, 104, 958, 449, 450, 22, 451, 74, 356, 394, 395, 396, 397, 357, 358, 359, 360, 70, 398, 399, 400, 401, 72, 402, 403, 404, 405, 406, 407, 408, 409, 410, 411, 197, 452, 453, 454, 455, 456, 997, 998, 999, 1000, 1001, 1002, 1003, 1004, 1005, 1006, 1007, 1071, 1072, 1073, 1050, 1051, 1052, 1053, 1054, 1055, 1056, 1041, 1042, 1043, 1044, 1045, 1046, 1047, 1048, 1049] (by decide +kernel) (by decide +kernel)
set_option maxRecDepth 20000 in
theorem gL_law_X9_judge : GoodIn wsL_law (wsV RL 127 RX9 yX9_judge wsX9_judge) := goodIn_app (goodIn_of _ (by decide +kernel)) ggL_law_X9_judge
set_option maxRecDepth 20000 in
theorem ggL_law_X10_judge : GoodIn wsL_law wsX10_judge := goodIn_r _ [962, 138, 118, 126, 465, 466, 467, 5, 468, 116, 425, 426, 427, 428, 429, 430, 431, 1008, 1009, 1010, 1011, 1012, 1013, 1014, 1015, 1016, 1017, 1018, 1019, 1020, 1021, 1022, 1023, 1024, 1025, 1026, 1027, 1028, 1029, 1030, 1031, 1032] (by decide +kernel) (by decide +kernel)
set_option maxRecDepth 20000 in
theorem gL_law_X10_judge : GoodIn wsL_law (wsV RL 130 RX10 yX10_judge wsX10_judge) := goodIn_app (goodIn_of _ (by decide +kernel)) ggL_law_X10_judge
set_option maxRecDepth 20000 in
theorem ggL_law_X9_tear : GoodIn wsL_law wsX9_tear := goodIn_r _ [966, 40, 172, 44, 173, 997, 998, 999, 1000, 1001, 1002, 1003, 1004, 1005, 1006, 1007, 1064, 1065, 1066, 1067, 1068, 1069, 1070, 1071, 1072, 1073] (by decide +kernel) (by decide +kernel)
set_option maxRecDepth 20000 in
theorem gL_law_X9_tear : GoodIn wsL_law (wsV RL 131 RX9 yX9_tear wsX9_tear) := goodIn_app (goodIn_of _ (by decide +kernel)) ggL_law_X9_tear
set_option maxRecDepth 20000 in
theorem ggL_law_X10_tear : GoodIn wsL_law wsX10_tear := goodIn_r _ [970, 137, 138, 1008, 1009, 1010, 1011, 1012, 1013, 1014, 1015, 1016, 1017, 1018, 1019, 1020, 1021, 1022, 1023, 1024, 1025, 1026, 1027, 1028, 1029, 1030, 1031, 1032] (by decide +kernel) (by decide +kernel)
set_option maxRecDepth 20000 in
theorem gL_law_X10_tear : GoodIn wsL_law (wsV RL 134 RX10 yX10_tear wsX10_tear) := goodIn_app (goodIn_of _ (by decide +kernel)) ggL_law_X10_tear
set_option maxRecDepth 20000 in
theorem ggL_law_X9_seed : GoodIn wsL_law wsX9_seed := goodIn_r _ [974, 149, 49, 997, 998, 999, 1000, 1001, 1002, 1003, 1004, 1005, 1006, 1007] (by decide +kernel) (by decide +kernel)
set_option maxRecDepth 20000 in
theorem gL_law_X9_seed : GoodIn wsL_law (wsV RL 135 RX9 yX9_seed wsX9_seed) := goodIn_app (goodIn_of _ (by decide +kernel)) ggL_law_X9_seed
set_option maxRecDepth 20000 in
theorem ggL_law_X10_seed : GoodIn wsL_law wsX10_seed := goodIn_r _ [978, 162, 684, 1008, 1009, 1010, 1011, 1012, 1013, 1014, 1015, 1016, 1017, 1018, 1019, 1020, 1021, 1022, 1023, 1024, 1025, 1026, 1027, 1028, 1029, 1030, 1031, 1032] (by decide +kernel) (by decide +kernel)
set_option maxRecDepth 20000 in
theorem gL_law_X10_seed : GoodIn wsL_law (wsV RL 138 RX10 yX10_seed wsX10_seed) := goodIn_app (goodIn_of _ (by decide +kernel)) ggL_law_X10_seed
set_option maxRecDepth 20000 in
theorem ggL_law_X9_keep : GoodIn wsL_law wsX9_keep := goodIn_r _ [982, 381, 46, 983, 23, 49, 984, 174, 28, 264, 265, 266, 22, 267, 70, 268, 261, 262, 263, 71, 72, 73, 197, 198, 269, 270, 271, 27, 272, 273, 997, 998, 999, 1000, 1001, 1002, 1003, 1004, 1005, 1006, 1007, 1074, 1075, 1076, 1050, 1051, 1052, 1053, 1054, 1055, 1056, 1057, 1058, 1059] (by decide +kernel) (by decide +kernel)
set_option maxRecDepth 20000 in
theorem gL_law_X9_keep : GoodIn wsL_law (wsV RL 139 RX9 yX9_keep wsX9_keep) := goodIn_app (goodIn_of _ (by decide +kernel)) ggL_law_X9_keep
set_option maxRecDepth 20000 in
theorem ggL_law_X10_keep : GoodIn wsL_law wsX10_keep := goodIn_r _ [988, 416, 118, 121, 684, 122, 136, 142, 143, 5, 144, 139, 140, 141, 1008, 1009, 1010, 1011, 1012, 1013, 1014, 1015, 1016, 1017, 1018, 1019, 1020, 1021, 1022, 1023, 1024, 1025, 1026, 1027, 1028, 1029, 1030, 1031, 1032] (by decide +kernel) (by decide +kernel)
set_option maxRecDepth 20000 in
theorem gL_law_X10_keep : GoodIn wsL_law (wsV RL 142 RX10 yX10_keep wsX10_keep) := goodIn_app (goodIn_of _ (by decide +kernel)) ggL_law_X10_keep
set_option maxRecDepth 20000 in
theorem ggL_law_X9_goBack : GoodIn wsL_law wsX9_goBack := goodIn_r _ [992, 381, 46, 174, 496, 23, 983, 984, 49, 28, 264, 265, 266, 22, 267, 70, 268, 261, 262, 263, 71, 72, 73, 197, 198, 269, 270, 271, 27, 272, 273, 997, 998, 999, 1000, 1001, 1002, 1003, 1004, 1005, 1006, 1007, 1074, 1075, 1076, 1050, 1051, 1052, 1053, 1054, 1055, 1056, 1057, 1058, 1059] (by decide +kernel) (by decide +kernel)
set_option maxRecDepth 20000 in
theorem gL_law_X9_goBack : GoodIn wsL_law (wsV RL 143 RX9 yX9_goBack wsX9_goBack) := goodIn_app (goodIn_of _ (by decide +kernel)) ggL_law_X9_goBack
set_option maxRecDepth 20000 in
theorem ggL_law_X10_goBack : GoodIn wsL_law wsX10_goBack := goodIn_r _ [996, 416, 122, 525, 121, 118, 684, 136, 142, 143, 5, 144, 139, 140, 141, 1008, 1009, 1010, 1011, 1012, 1013, 1014, 1015, 1016, 1017, 1018, 1019, 1020, 1021, 1022, 1023, 1024, 1025, 1026, 1027, 1028, 1029, 1030, 1031, 1032] (by decide +kernel) (by decide +kernel)
set_option maxRecDepth 20000 in
theorem gL_law_X10_goBack : GoodIn wsL_law (wsV RL 146 RX10 yX10_goBack wsX10_goBack) := goodIn_app (goodIn_of _ (by decide +kernel)) ggL_law_X10_goBack

