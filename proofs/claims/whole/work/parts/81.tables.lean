/-! ===== every word of wsL_law is in the statement's tables ===== -/
theorem sub_p {big : List Cond} (ws : List Cond) (ps : List Nat) (h : (ps.map (fun i => big[i]?)) = ws.map some) : ∀ w ∈ ws, w ∈ big := by
  intro w hw
  have h1 : some w ∈ ps.map (fun i => big[i]?) := by rw [h]; exact List.mem_map.mpr ⟨w, hw, rfl⟩
  obtain ⟨i, -, hi⟩ := List.mem_map.mp h1
  exact List.mem_of_getElem? hi
theorem tin_1 : ∀ w ∈ wsL_law_r1, w ∈ lw_tbl := sub_p _ [68, 69, 55, 866, 867, 64, 70, 71, 72, 73, 74, 75, 76, 77, 56, 330, 331, 205, 206, 60, 332, 222, 223, 61] (by decide +kernel)
theorem tin_2 : ∀ w ∈ wsL_law_r2, w ∈ lw_tbl := sub_p _ [333, 297, 229, 62, 334, 299, 300, 63, 335, 103, 336, 78, 79, 80, 81, 187, 82, 189, 84, 190, 191, 86, 57, 104] (by decide +kernel)
theorem tin_3 : ∀ w ∈ wsL_law_r3, w ∈ lw_tbl := sub_p _ [58, 180, 182, 181, 59, 88, 89, 90, 94, 95, 106, 107, 108, 129, 144, 145, 146, 207, 208, 209, 210, 211, 216, 213] (by decide +kernel)
theorem tin_4 : ∀ w ∈ wsL_law_r4, w ∈ lw_tbl := sub_p _ [225, 226, 227, 228, 276, 278, 231, 232, 233, 302, 303, 304, 329, 315, 868, 869, 870, 871, 873, 874, 875, 876, 878, 882] (by decide +kernel)
theorem tin_5 : ∀ w ∈ wsL_law_r5, w ∈ lw_tbl := sub_p _ [883, 872, 361, 362, 363, 364, 184, 365, 366, 367, 368, 369, 214, 370, 372, 0, 373, 374, 375, 376, 377, 183, 185, 378] (by decide +kernel)
theorem tin_6 : ∀ w ∈ wsL_law_r6, w ∈ lw_tbl := sub_p _ [379, 380, 381, 91, 382, 383, 384, 385, 386, 109, 114, 117, 120, 123, 126, 132, 134, 136, 138, 141, 387, 907, 908, 909] (by decide +kernel)
theorem tin_7 : ∀ w ∈ wsL_law_r7, w ∈ lw_tbl := sub_p _ [910, 911, 912, 914, 16, 915, 916, 918, 17, 919, 920, 877, 388, 389, 390, 391, 404, 405, 422, 92, 392, 393, 394, 395] (by decide +kernel)
theorem tin_8 : ∀ w ∈ wsL_law_r8, w ∈ lw_tbl := sub_p _ [396, 397, 398, 399, 400, 401, 402, 403, 406, 407, 408, 409, 112, 410, 411, 412, 413, 414, 415, 416, 417, 418, 419, 420] (by decide +kernel)
theorem tin_9 : ∀ w ∈ wsL_law_r9, w ∈ lw_tbl := sub_p _ [421, 423, 424, 425, 426, 921, 922, 923, 924, 937, 954, 925, 927, 18, 928, 929, 930, 931, 932, 933, 934, 935, 936, 938] (by decide +kernel)
theorem tin_10 : ∀ w ∈ wsL_law_r10, w ∈ lw_tbl := sub_p _ [940, 19, 941, 942, 944, 20, 945, 946, 948, 21, 949, 950, 952, 22, 953, 427, 428, 429, 430, 431, 432, 433, 955, 956] (by decide +kernel)
theorem tin_11 : ∀ w ∈ wsL_law_r11, w ∈ lw_tbl := sub_p _ [957, 958, 959, 434, 435, 436, 437, 438, 439, 440, 441, 442, 443, 444, 445, 960, 961, 962, 963, 964, 966, 23, 967, 968] (by decide +kernel)
theorem tin_12 : ∀ w ∈ wsL_law_r12, w ∈ lw_tbl := sub_p _ [970, 24, 971, 972, 974, 25, 975, 976, 978, 26, 979, 446, 447, 448, 449, 450, 451, 452, 453, 454, 455, 980, 981, 982] (by decide +kernel)
theorem tin_13 : ∀ w ∈ wsL_law_r13, w ∈ lw_tbl := sub_p _ [983, 984, 986, 27, 987, 456, 457, 458, 459, 460, 461, 186, 462, 463, 464, 465, 466, 467, 468, 469, 470, 471, 472, 473] (by decide +kernel)
theorem tin_14 : ∀ w ∈ wsL_law_r14, w ∈ lw_tbl := sub_p _ [474, 475, 476, 65, 477, 478, 479, 480, 481, 482, 483, 484, 485, 486, 487, 488, 489, 490, 988, 989, 990, 991, 992, 993] (by decide +kernel)
theorem tin_15 : ∀ w ∈ wsL_law_r15, w ∈ lw_tbl := sub_p _ [995, 28, 996, 491, 492, 493, 494, 131, 495, 496, 497, 498, 499, 500, 501, 502, 503, 504, 505, 506, 130, 507, 508, 509] (by decide +kernel)
theorem tin_16 : ∀ w ∈ wsL_law_r16, w ∈ lw_tbl := sub_p _ [510, 511, 512, 513, 514, 515, 997, 998, 999, 1000, 1001, 1003, 29, 1004, 1005, 1007, 30, 1008, 516, 517, 518, 519, 520, 521] (by decide +kernel)
theorem tin_17 : ∀ w ∈ wsL_law_r17, w ∈ lw_tbl := sub_p _ [522, 1009, 1010, 1011, 1012, 523, 524, 525, 526, 1013, 1014, 1015, 1016, 527, 528, 529, 530, 125, 531, 532, 533, 534, 535, 536] (by decide +kernel)
theorem tin_18 : ∀ w ∈ wsL_law_r18, w ∈ lw_tbl := sub_p _ [1017, 1018, 1019, 1020, 1021, 1023, 31, 1024, 537, 538, 539, 540, 545, 541, 542, 543, 544, 546, 547, 548, 549, 550, 551, 552] (by decide +kernel)
