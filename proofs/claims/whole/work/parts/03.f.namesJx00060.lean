set_option maxRecDepth 20000 in
theorem ggJx00060_init_d00df_J4_init_da8c8 : GoodIn wsJx00060_init_d00df wsJ4_init_da8c8 := goodIn_r _ [6, 7, 8, 9, 10, 11, 12, 13, 14, 15, 16, 17, 18, 19, 20, 21, 22, 23, 24, 25, 236, 237, 238, 239] (by decide +kernel) (by decide +kernel)
set_option maxRecDepth 20000 in
theorem gJx00060_init_d00df_J4_init_da8c8 : GoodIn wsJx00060_init_d00df (wsJ4_init_da8c8) := ggJx00060_init_d00df_J4_init_da8c8
set_option maxRecDepth 20000 in
theorem ggJx00060_init_d00df_J4_append_15ec4 : GoodIn wsJx00060_init_d00df wsJ4_append_15ec4 := goodIn_r _ [29, 30, 31, 32, 33, 9, 34, 35, 36, 37, 38, 39, 40, 16, 41, 42, 43, 44, 45, 17, 46, 47, 48, 49, 50, 51, 52, 53, 54, 55, 56, 57, 58, 59, 60, 61, 62, 63, 64, 65, 66, 67, 68, 69, 70, 71, 72, 73, 15, 74, 75, 76, 77, 78, 79, 80, 81, 82, 83, 84, 85, 14, 86, 87, 20, 88, 89, 90, 91, 92, 93, 94, 95, 96, 97, 98, 99, 100, 101, 102, 103, 104, 105, 106, 107, 108, 109, 110, 111, 112, 113, 114, 115, 116, 117, 118, 119, 120, 121, 122, 123, 124, 125, 126, 127, 128, 129, 130, 131, 132, 133, 134, 135, 136, 18, 19, 21, 22, 23, 24, 25, 137, 138, 139, 140, 141, 142, 143, 144, 145, 146, 147, 148, 149, 150, 151, 152, 153, 154, 155, 156, 157, 158, 236, 237, 238, 239, 240, 241, 242, 243] (by decide +kernel) (by decide +kernel)
set_option maxRecDepth 20000 in
theorem gJx00060_init_d00df_J4_append_15ec4 : GoodIn wsJx00060_init_d00df (wsV RJx00060 15 RJ4 yJ4_append_15ec4 wsJ4_append_15ec4) := goodIn_app (goodIn_of _ (by decide +kernel)) ggJx00060_init_d00df_J4_append_15ec4
set_option maxRecDepth 20000 in
theorem ggJx00060_init_d00df_J4_append_bf812 : GoodIn wsJx00060_init_d00df wsJ4_append_bf812 := goodIn_r _ [162, 163, 164, 32, 165, 9, 166, 35, 16, 167, 168, 169, 170, 41, 42, 43, 44, 45, 17, 46, 47, 48, 49, 50, 51, 52, 53, 54, 55, 56, 57, 58, 59, 60, 61, 62, 63, 64, 65, 66, 67, 68, 69, 70, 71, 72, 73, 15, 74, 75, 76, 77, 78, 79, 80, 81, 82, 83, 84, 85, 14, 171, 172, 173, 174, 175, 176, 177, 20, 178, 89, 90, 91, 92, 93, 94, 95, 96, 97, 98, 99, 100, 101, 102, 103, 104, 179, 180, 181, 182, 183, 105, 106, 107, 108, 109, 236, 237, 238, 239] (by decide +kernel) (by decide +kernel)
set_option maxRecDepth 20000 in
theorem gJx00060_init_d00df_J4_append_bf812 : GoodIn wsJx00060_init_d00df (wsV RJx00060 19 RJ4 yJ4_append_bf812 wsJ4_append_bf812) := goodIn_app (goodIn_of _ (by decide +kernel)) ggJx00060_init_d00df_J4_append_bf812
set_option maxRecDepth 20000 in
theorem ggJx00060_init_d00df_J4_toString_0e30d : GoodIn wsJx00060_init_d00df wsJ4_toString_0e30d := goodIn_r _ [187, 188, 189, 98, 190, 191, 192, 193, 194, 195, 196, 12, 13, 120, 114, 119, 197, 198, 199, 200, 201, 9, 202, 16, 203, 204, 205, 206, 207, 3, 208, 209, 32, 210, 211, 35, 212, 82, 83, 84, 85, 14, 17, 213, 214, 66, 215, 68, 69, 70, 71, 72, 73, 216, 217, 218, 15, 74, 75, 58, 76, 77, 78, 79, 80, 219, 220, 221, 222, 2, 223, 224, 20, 225, 226, 227, 228, 144, 145, 146, 93, 94, 95, 147, 148, 149, 100, 150, 151, 103, 152, 229, 230, 231, 89, 108, 109, 22, 23, 24, 25, 232, 233, 234, 235, 240, 241, 242, 243, 236, 237, 238, 239] (by decide +kernel) (by decide +kernel)
set_option maxRecDepth 20000 in
theorem gJx00060_init_d00df_J4_toString_0e30d : GoodIn wsJx00060_init_d00df (wsV RJx00060 22 RJ4 yJ4_toString_0e30d wsJ4_toString_0e30d) := goodIn_app (goodIn_of _ (by decide +kernel)) ggJx00060_init_d00df_J4_toString_0e30d
theorem dJx00060_init_d00df_0 : decode cJx00060_init_d00df 0 = .ok (.aload_n 0, 1) := by decide +kernel
theorem dJx00060_init_d00df_1 : decode cJx00060_init_d00df 1 = .ok (.new 10, 3) := by decide +kernel
theorem dJx00060_init_d00df_4 : decode cJx00060_init_d00df 4 = .ok (.dup, 1) := by decide +kernel
theorem dJx00060_init_d00df_5 : decode cJx00060_init_d00df 5 = .ok (.invokespecial 12, 3) := by decide +kernel
theorem dJx00060_init_d00df_8 : decode cJx00060_init_d00df 8 = .ok (.ldc 13, 2) := by decide +kernel
theorem dJx00060_init_d00df_10 : decode cJx00060_init_d00df 10 = .ok (.invokevirtual 15, 3) := by decide +kernel
theorem dJx00060_init_d00df_13 : decode cJx00060_init_d00df 13 = .ok (.iload_n 1, 1) := by decide +kernel
theorem dJx00060_init_d00df_14 : decode cJx00060_init_d00df 14 = .ok (.invokevirtual 19, 3) := by decide +kernel
theorem dJx00060_init_d00df_17 : decode cJx00060_init_d00df 17 = .ok (.invokevirtual 22, 3) := by decide +kernel
theorem dJx00060_init_d00df_20 : decode cJx00060_init_d00df 20 = .ok (.invokespecial 7, 3) := by decide +kernel
theorem dJx00060_init_d00df_23 : decode cJx00060_init_d00df 23 = .ok (.return_, 1) := by decide +kernel
