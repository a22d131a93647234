set_option maxRecDepth 100000 in
theorem mb_d0 : ∀ q ∈ mb_i0, decode prog_2_method_1_code q.1 = .ok (q.2.1, q.2.2) := by decide +kernel
set_option maxRecDepth 100000 in
theorem mb_d1 : ∀ q ∈ mb_i1, decode prog_2_method_2_code q.1 = .ok (q.2.1, q.2.2) := by decide +kernel
set_option maxRecDepth 100000 in
theorem mb_d2 : ∀ q ∈ mb_i2, decode prog_2_method_3_code q.1 = .ok (q.2.1, q.2.2) := by decide +kernel
set_option maxRecDepth 100000 in
theorem mb_d3 : ∀ q ∈ mb_i3, decode prog_2_method_4_code q.1 = .ok (q.2.1, q.2.2) := by decide +kernel
set_option maxRecDepth 100000 in
theorem mb_d4 : ∀ q ∈ mb_i4, decode prog_2_method_5_code q.1 = .ok (q.2.1, q.2.2) := by decide +kernel
set_option maxRecDepth 100000 in
theorem mb_d5 : ∀ q ∈ mb_i5, decode prog_4_method_1_code q.1 = .ok (q.2.1, q.2.2) := by decide +kernel
set_option maxRecDepth 100000 in
theorem mb_d6 : ∀ q ∈ mb_i6, decode prog_4_method_2_code q.1 = .ok (q.2.1, q.2.2) := by decide +kernel
set_option maxRecDepth 100000 in
theorem mb_d7 : ∀ q ∈ mb_i7, decode prog_4_method_3_code q.1 = .ok (q.2.1, q.2.2) := by decide +kernel
set_option maxRecDepth 100000 in
theorem mb_d8 : ∀ q ∈ mb_i8, decode prog_4_method_4_code q.1 = .ok (q.2.1, q.2.2) := by decide +kernel
set_option maxRecDepth 100000 in
theorem mb_d9 : ∀ q ∈ mb_i9, decode prog_4_method_5_code q.1 = .ok (q.2.1, q.2.2) := by decide +kernel
set_option maxRecDepth 100000 in
theorem mb_d10 : ∀ q ∈ mb_i10, decode prog_4_method_6_code q.1 = .ok (q.2.1, q.2.2) := by decide +kernel
set_option maxRecDepth 100000 in
theorem mb_d11 : ∀ q ∈ mb_i11, decode prog_4_method_7_code q.1 = .ok (q.2.1, q.2.2) := by decide +kernel
set_option maxRecDepth 100000 in
theorem mb_d12 : ∀ q ∈ mb_i12, decode prog_5_method_1_code q.1 = .ok (q.2.1, q.2.2) := by decide +kernel
set_option maxRecDepth 100000 in
theorem mb_d13 : ∀ q ∈ mb_i13, decode prog_5_method_2_code q.1 = .ok (q.2.1, q.2.2) := by decide +kernel
set_option maxRecDepth 100000 in
theorem mb_d14 : ∀ q ∈ mb_i14, decode prog_5_method_3_code q.1 = .ok (q.2.1, q.2.2) := by decide +kernel
set_option maxRecDepth 100000 in
theorem mb_d15 : ∀ q ∈ mb_i15, decode prog_5_method_4_code q.1 = .ok (q.2.1, q.2.2) := by decide +kernel
set_option maxRecDepth 100000 in
theorem mb_d16 : ∀ q ∈ mb_i16, decode prog_5_method_5_code q.1 = .ok (q.2.1, q.2.2) := by decide +kernel
set_option maxRecDepth 100000 in
theorem mb_d17 : ∀ q ∈ mb_i17, decode prog_5_method_6_code q.1 = .ok (q.2.1, q.2.2) := by decide +kernel
set_option maxRecDepth 100000 in
theorem mb_d18 : ∀ q ∈ mb_i18, decode prog_5_method_7_code q.1 = .ok (q.2.1, q.2.2) := by decide +kernel
set_option maxRecDepth 100000 in
theorem mb_d19 : ∀ q ∈ mb_i19, decode prog_5_method_8_code q.1 = .ok (q.2.1, q.2.2) := by decide +kernel
set_option maxRecDepth 100000 in
theorem mb_d20 : ∀ q ∈ mb_i20, decode prog_5_method_9_code q.1 = .ok (q.2.1, q.2.2) := by decide +kernel
set_option maxRecDepth 100000 in
theorem mb_d21 : ∀ q ∈ mb_i21, decode prog_5_method_10_code q.1 = .ok (q.2.1, q.2.2) := by decide +kernel
set_option maxRecDepth 100000 in
theorem mb_d22 : ∀ q ∈ mb_i22, decode prog_5_method_11_code q.1 = .ok (q.2.1, q.2.2) := by decide +kernel
set_option maxRecDepth 100000 in
theorem mb_d23 : ∀ q ∈ mb_i23, decode prog_5_method_12_code q.1 = .ok (q.2.1, q.2.2) := by decide +kernel
set_option maxRecDepth 100000 in
theorem mb_d24 : ∀ q ∈ mb_i24, decode prog_7_method_1_code q.1 = .ok (q.2.1, q.2.2) := by decide +kernel
set_option maxRecDepth 100000 in
theorem mb_d25 : ∀ q ∈ mb_i25, decode prog_7_method_2_code q.1 = .ok (q.2.1, q.2.2) := by decide +kernel
set_option maxRecDepth 100000 in
theorem mb_d26 : ∀ q ∈ mb_i26, decode prog_7_method_3_code q.1 = .ok (q.2.1, q.2.2) := by decide +kernel
set_option maxRecDepth 100000 in
theorem mb_d27 : ∀ q ∈ mb_i27, decode prog_7_method_4_code q.1 = .ok (q.2.1, q.2.2) := by decide +kernel
set_option maxRecDepth 100000 in
theorem mb_d28 : ∀ q ∈ mb_i28, decode prog_7_method_5_code q.1 = .ok (q.2.1, q.2.2) := by decide +kernel
set_option maxRecDepth 100000 in
theorem mb_d29 : ∀ q ∈ mb_i29, decode prog_7_method_6_code q.1 = .ok (q.2.1, q.2.2) := by decide +kernel
set_option maxRecDepth 100000 in
theorem mb_d30 : ∀ q ∈ mb_i30, decode prog_7_method_7_code q.1 = .ok (q.2.1, q.2.2) := by decide +kernel
set_option maxRecDepth 100000 in
theorem mb_d31 : ∀ q ∈ mb_i31, decode prog_7_method_8_code q.1 = .ok (q.2.1, q.2.2) := by decide +kernel
set_option maxRecDepth 100000 in
theorem mb_d32 : ∀ q ∈ mb_i32, decode prog_7_method_9_code q.1 = .ok (q.2.1, q.2.2) := by decide +kernel
set_option maxRecDepth 100000 in
theorem mb_d33 : ∀ q ∈ mb_i33, decode prog_8_method_1_code q.1 = .ok (q.2.1, q.2.2) := by decide +kernel
set_option maxRecDepth 100000 in
theorem mb_d34 : ∀ q ∈ mb_i34, decode prog_8_method_2_code q.1 = .ok (q.2.1, q.2.2) := by decide +kernel
set_option maxRecDepth 100000 in
theorem mb_d35 : ∀ q ∈ mb_i35, decode prog_8_method_3_code q.1 = .ok (q.2.1, q.2.2) := by decide +kernel
set_option maxRecDepth 100000 in
theorem mb_d36 : ∀ q ∈ mb_i36, decode prog_8_method_4_code q.1 = .ok (q.2.1, q.2.2) := by decide +kernel
set_option maxRecDepth 100000 in
theorem mb_d37 : ∀ q ∈ mb_i37, decode prog_8_method_5_code q.1 = .ok (q.2.1, q.2.2) := by decide +kernel
set_option maxRecDepth 100000 in
theorem mb_d38 : ∀ q ∈ mb_i38, decode prog_8_method_6_code q.1 = .ok (q.2.1, q.2.2) := by decide +kernel
set_option maxRecDepth 100000 in
theorem mb_d39 : ∀ q ∈ mb_i39, decode prog_8_method_7_code q.1 = .ok (q.2.1, q.2.2) := by decide +kernel
set_option maxRecDepth 100000 in
theorem mb_d40 : ∀ q ∈ mb_i40, decode prog_8_method_8_code q.1 = .ok (q.2.1, q.2.2) := by decide +kernel
set_option maxRecDepth 100000 in
theorem mb_d41 : ∀ q ∈ mb_i41, decode prog_8_method_9_code q.1 = .ok (q.2.1, q.2.2) := by decide +kernel
set_option maxRecDepth 100000 in
theorem mb_d42 : ∀ q ∈ mb_i42, decode prog_8_method_10_code q.1 = .ok (q.2.1, q.2.2) := by decide +kernel
set_option maxRecDepth 100000 in
theorem mb_d43 : ∀ q ∈ mb_i43, decode prog_8_method_11_code q.1 = .ok (q.2.1, q.2.2) := by decide +kernel
set_option maxRecDepth 100000 in
theorem mb_d44 : ∀ q ∈ mb_i44, decode prog_8_method_12_code q.1 = .ok (q.2.1, q.2.2) := by decide +kernel
set_option maxRecDepth 100000 in
theorem mb_d45 : ∀ q ∈ mb_i45, decode prog_8_method_13_code q.1 = .ok (q.2.1, q.2.2) := by decide +kernel
set_option maxRecDepth 100000 in
theorem mb_d46 : ∀ q ∈ mb_i46, decode prog_8_method_14_code q.1 = .ok (q.2.1, q.2.2) := by decide +kernel
set_option maxRecDepth 100000 in
theorem mb_d47 : ∀ q ∈ mb_i47, decode prog_8_method_15_code q.1 = .ok (q.2.1, q.2.2) := by decide +kernel
set_option maxRecDepth 100000 in
theorem mb_d48 : ∀ q ∈ mb_i48, decode prog_8_method_16_code q.1 = .ok (q.2.1, q.2.2) := by decide +kernel
set_option maxRecDepth 100000 in
theorem mb_d49 : ∀ q ∈ mb_i49, decode prog_8_method_17_code q.1 = .ok (q.2.1, q.2.2) := by decide +kernel
set_option maxRecDepth 100000 in
theorem mb_d50 : ∀ q ∈ mb_i50, decode prog_8_method_18_code q.1 = .ok (q.2.1, q.2.2) := by decide +kernel
set_option maxRecDepth 100000 in
theorem mb_d51 : ∀ q ∈ mb_i51, decode prog_8_method_19_code q.1 = .ok (q.2.1, q.2.2) := by decide +kernel
set_option maxRecDepth 100000 in
theorem mb_d52 : ∀ q ∈ mb_i52, decode prog_8_method_20_code q.1 = .ok (q.2.1, q.2.2) := by decide +kernel
set_option maxRecDepth 100000 in
theorem mb_d53 : ∀ q ∈ mb_i53, decode prog_9_method_1_code q.1 = .ok (q.2.1, q.2.2) := by decide +kernel
set_option maxRecDepth 100000 in
theorem mb_d54 : ∀ q ∈ mb_i54, decode prog_9_method_2_code q.1 = .ok (q.2.1, q.2.2) := by decide +kernel
set_option maxRecDepth 100000 in
theorem mb_d55 : ∀ q ∈ mb_i55, decode prog_9_method_3_code q.1 = .ok (q.2.1, q.2.2) := by decide +kernel
set_option maxRecDepth 100000 in
theorem mb_d56 : ∀ q ∈ mb_i56, decode prog_9_method_4_code q.1 = .ok (q.2.1, q.2.2) := by decide +kernel
set_option maxRecDepth 100000 in
theorem mb_d57 : ∀ q ∈ mb_i57, decode prog_9_method_5_code q.1 = .ok (q.2.1, q.2.2) := by decide +kernel
set_option maxRecDepth 100000 in
theorem mb_d58 : ∀ q ∈ mb_i58, decode prog_9_method_6_code q.1 = .ok (q.2.1, q.2.2) := by decide +kernel
set_option maxRecDepth 100000 in
theorem mb_d59 : ∀ q ∈ mb_i59, decode prog_9_method_7_code q.1 = .ok (q.2.1, q.2.2) := by decide +kernel
set_option maxRecDepth 100000 in
theorem mb_d60 : ∀ q ∈ mb_i60, decode prog_10_method_1_code q.1 = .ok (q.2.1, q.2.2) := by decide +kernel
set_option maxRecDepth 100000 in
theorem mb_d61 : ∀ q ∈ mb_i61, decode prog_10_method_2_code q.1 = .ok (q.2.1, q.2.2) := by decide +kernel
set_option maxRecDepth 100000 in
theorem mb_d62 : ∀ q ∈ mb_i62, decode prog_10_method_3_code q.1 = .ok (q.2.1, q.2.2) := by decide +kernel
set_option maxRecDepth 100000 in
theorem mb_d63 : ∀ q ∈ mb_i63, decode prog_10_method_4_code q.1 = .ok (q.2.1, q.2.2) := by decide +kernel
set_option maxRecDepth 100000 in
theorem mb_d64 : ∀ q ∈ mb_i64, decode prog_10_method_5_code q.1 = .ok (q.2.1, q.2.2) := by decide +kernel
set_option maxRecDepth 100000 in
theorem mb_d65 : ∀ q ∈ mb_i65, decode prog_10_method_7_code q.1 = .ok (q.2.1, q.2.2) := by decide +kernel
set_option maxRecDepth 100000 in
theorem mb_d66 : ∀ q ∈ mb_i66, decode prog_10_method_9_code q.1 = .ok (q.2.1, q.2.2) := by decide +kernel
set_option maxRecDepth 100000 in
theorem mb_d67 : ∀ q ∈ mb_i67, decode prog_10_method_10_code q.1 = .ok (q.2.1, q.2.2) := by decide +kernel
set_option maxRecDepth 100000 in
theorem mb_d68 : ∀ q ∈ mb_i68, decode prog_10_method_11_code q.1 = .ok (q.2.1, q.2.2) := by decide +kernel
set_option maxRecDepth 100000 in
theorem mb_d69 : ∀ q ∈ mb_i69, decode prog_10_method_12_code q.1 = .ok (q.2.1, q.2.2) := by decide +kernel
set_option maxRecDepth 100000 in
theorem mb_d70 : ∀ q ∈ mb_i70, decode prog_10_method_13_code q.1 = .ok (q.2.1, q.2.2) := by decide +kernel
set_option maxRecDepth 100000 in
theorem mb_d71 : ∀ q ∈ mb_i71, decode prog_10_method_14_code q.1 = .ok (q.2.1, q.2.2) := by decide +kernel
set_option maxRecDepth 100000 in
theorem mb_d72 : ∀ q ∈ mb_i72, decode prog_10_method_15_code q.1 = .ok (q.2.1, q.2.2) := by decide +kernel
set_option maxRecDepth 100000 in
theorem mb_d73 : ∀ q ∈ mb_i73, decode prog_10_method_16_code q.1 = .ok (q.2.1, q.2.2) := by decide +kernel
set_option maxRecDepth 100000 in
theorem mb_d74 : ∀ q ∈ mb_i74, decode prog_10_method_17_code q.1 = .ok (q.2.1, q.2.2) := by decide +kernel
set_option maxRecDepth 100000 in
theorem mb_d75 : ∀ q ∈ mb_i75, decode prog_10_method_18_code q.1 = .ok (q.2.1, q.2.2) := by decide +kernel
set_option maxRecDepth 100000 in
theorem mb_d76 : ∀ q ∈ mb_i76, decode prog_10_method_19_code q.1 = .ok (q.2.1, q.2.2) := by decide +kernel
set_option maxRecDepth 100000 in
theorem mb_d77 : ∀ q ∈ mb_i77, decode prog_1_method_1_code q.1 = .ok (q.2.1, q.2.2) := by decide +kernel
set_option maxRecDepth 100000 in
theorem mb_d78 : ∀ q ∈ mb_i78, decode prog_1_method_2_code q.1 = .ok (q.2.1, q.2.2) := by decide +kernel
set_option maxRecDepth 100000 in
theorem mb_d79 : ∀ q ∈ mb_i79, decode prog_1_method_3_code q.1 = .ok (q.2.1, q.2.2) := by decide +kernel
set_option maxRecDepth 100000 in
theorem mb_d80 : ∀ q ∈ mb_i80, decode prog_1_method_4_code q.1 = .ok (q.2.1, q.2.2) := by decide +kernel
set_option maxRecDepth 100000 in
theorem mb_d81 : ∀ q ∈ mb_i81, decode prog_1_method_5_code q.1 = .ok (q.2.1, q.2.2) := by decide +kernel
set_option maxRecDepth 100000 in
theorem mb_d82 : ∀ q ∈ mb_i82, decode prog_1_method_6_code q.1 = .ok (q.2.1, q.2.2) := by decide +kernel
set_option maxRecDepth 100000 in
theorem mb_d83 : ∀ q ∈ mb_i83, decode prog_1_method_7_code q.1 = .ok (q.2.1, q.2.2) := by decide +kernel
set_option maxRecDepth 100000 in
theorem mb_d84 : ∀ q ∈ mb_i84, decode prog_1_method_8_code q.1 = .ok (q.2.1, q.2.2) := by decide +kernel
set_option maxRecDepth 100000 in
theorem mb_d85 : ∀ q ∈ mb_i85, decode prog_1_method_9_code q.1 = .ok (q.2.1, q.2.2) := by decide +kernel
set_option maxRecDepth 100000 in
theorem mb_d86 : ∀ q ∈ mb_i86, decode prog_1_method_10_code q.1 = .ok (q.2.1, q.2.2) := by decide +kernel
set_option maxRecDepth 100000 in
theorem mb_d87 : ∀ q ∈ mb_i87, decode prog_1_method_11_code q.1 = .ok (q.2.1, q.2.2) := by decide +kernel
set_option maxRecDepth 100000 in
theorem mb_d88 : ∀ q ∈ mb_i88, decode prog_1_method_12_code q.1 = .ok (q.2.1, q.2.2) := by decide +kernel
set_option maxRecDepth 100000 in
theorem mb_d89 : ∀ q ∈ mb_i89, decode prog_1_method_13_code q.1 = .ok (q.2.1, q.2.2) := by decide +kernel
set_option maxRecDepth 100000 in
theorem mb_d90 : ∀ q ∈ mb_i90, decode prog_1_method_14_code q.1 = .ok (q.2.1, q.2.2) := by decide +kernel
set_option maxRecDepth 100000 in
theorem mb_d91 : ∀ q ∈ mb_i91, decode prog_1_method_15_code q.1 = .ok (q.2.1, q.2.2) := by decide +kernel
set_option maxRecDepth 100000 in
theorem mb_d92 : ∀ q ∈ mb_i92, decode prog_1_method_16_code q.1 = .ok (q.2.1, q.2.2) := by decide +kernel
set_option maxRecDepth 100000 in
theorem mb_d93 : ∀ q ∈ mb_i93, decode prog_1_method_17_code q.1 = .ok (q.2.1, q.2.2) := by decide +kernel
set_option maxRecDepth 100000 in
theorem mb_d94 : ∀ q ∈ mb_i94, decode prog_1_method_18_code q.1 = .ok (q.2.1, q.2.2) := by decide +kernel
set_option maxRecDepth 100000 in
theorem mb_d95 : ∀ q ∈ mb_i95, decode prog_1_method_19_code q.1 = .ok (q.2.1, q.2.2) := by decide +kernel
set_option maxRecDepth 100000 in
theorem mb_d96 : ∀ q ∈ mb_i96, decode prog_1_method_20_code q.1 = .ok (q.2.1, q.2.2) := by decide +kernel
set_option maxRecDepth 100000 in
theorem mb_d97 : ∀ q ∈ mb_i97, decode prog_1_method_21_code q.1 = .ok (q.2.1, q.2.2) := by decide +kernel
set_option maxRecDepth 100000 in
theorem mb_d98 : ∀ q ∈ mb_i98, decode prog_1_method_22_code q.1 = .ok (q.2.1, q.2.2) := by decide +kernel
set_option maxRecDepth 100000 in
theorem mb_d99 : ∀ q ∈ mb_i99, decode prog_1_method_23_code q.1 = .ok (q.2.1, q.2.2) := by decide +kernel
set_option maxRecDepth 100000 in
theorem mb_d100 : ∀ q ∈ mb_i100, decode prog_1_method_24_code q.1 = .ok (q.2.1, q.2.2) := by decide +kernel
set_option maxRecDepth 100000 in
theorem mb_d101 : ∀ q ∈ mb_i101, decode prog_1_method_25_code q.1 = .ok (q.2.1, q.2.2) := by decide +kernel
set_option maxRecDepth 100000 in
theorem mb_d102 : ∀ q ∈ mb_i102, decode prog_1_method_26_code q.1 = .ok (q.2.1, q.2.2) := by decide +kernel
set_option maxRecDepth 100000 in
theorem mb_d103 : ∀ q ∈ mb_i103, decode prog_1_method_27_code q.1 = .ok (q.2.1, q.2.2) := by decide +kernel
set_option maxRecDepth 100000 in
theorem mb_d104 : ∀ q ∈ mb_i104, decode prog_1_method_28_code q.1 = .ok (q.2.1, q.2.2) := by decide +kernel
set_option maxRecDepth 100000 in
theorem mb_d105 : ∀ q ∈ mb_i105, decode prog_1_method_29_code q.1 = .ok (q.2.1, q.2.2) := by decide +kernel
set_option maxRecDepth 100000 in
theorem mb_d106 : ∀ q ∈ mb_i106, decode prog_1_method_30_code q.1 = .ok (q.2.1, q.2.2) := by decide +kernel
set_option maxRecDepth 100000 in
theorem mb_d107 : ∀ q ∈ mb_i107, decode prog_1_method_31_code q.1 = .ok (q.2.1, q.2.2) := by decide +kernel
set_option maxRecDepth 100000 in
theorem mb_d108 : ∀ q ∈ mb_i108, decode prog_1_method_32_code q.1 = .ok (q.2.1, q.2.2) := by decide +kernel
set_option maxRecDepth 100000 in
theorem mb_d109 : ∀ q ∈ mb_i109, decode prog_1_method_33_code q.1 = .ok (q.2.1, q.2.2) := by decide +kernel
set_option maxRecDepth 100000 in
theorem mb_d110 : ∀ q ∈ mb_i110, decode prog_1_method_34_code q.1 = .ok (q.2.1, q.2.2) := by decide +kernel
set_option maxRecDepth 100000 in
theorem mb_d111 : ∀ q ∈ mb_i111, decode prog_1_method_35_code q.1 = .ok (q.2.1, q.2.2) := by decide +kernel
set_option maxRecDepth 100000 in
theorem mb_d112 : ∀ q ∈ mb_i112, decode prog_1_method_36_code q.1 = .ok (q.2.1, q.2.2) := by decide +kernel
set_option maxRecDepth 100000 in
theorem mb_d113 : ∀ q ∈ mb_i113, decode prog_1_method_37_code q.1 = .ok (q.2.1, q.2.2) := by decide +kernel
set_option maxRecDepth 100000 in
theorem mb_d114 : ∀ q ∈ mb_i114, decode prog_1_method_38_code q.1 = .ok (q.2.1, q.2.2) := by decide +kernel
set_option maxRecDepth 100000 in
theorem mb_d115 : ∀ q ∈ mb_i115, decode prog_1_method_39_code q.1 = .ok (q.2.1, q.2.2) := by decide +kernel
set_option maxRecDepth 100000 in
theorem mb_d116 : ∀ q ∈ mb_i116, decode prog_1_method_40_code q.1 = .ok (q.2.1, q.2.2) := by decide +kernel
set_option maxRecDepth 100000 in
theorem mb_d117 : ∀ q ∈ mb_i117, decode prog_1_method_41_code q.1 = .ok (q.2.1, q.2.2) := by decide +kernel
set_option maxRecDepth 100000 in
theorem mb_d118 : ∀ q ∈ mb_i118, decode prog_1_method_42_code q.1 = .ok (q.2.1, q.2.2) := by decide +kernel
set_option maxRecDepth 100000 in
theorem mb_d119 : ∀ q ∈ mb_i119, decode prog_1_method_43_code q.1 = .ok (q.2.1, q.2.2) := by decide +kernel
set_option maxRecDepth 100000 in
theorem mb_d120 : ∀ q ∈ mb_i120, decode prog_1_method_44_code q.1 = .ok (q.2.1, q.2.2) := by decide +kernel
set_option maxRecDepth 100000 in
theorem mb_d121 : ∀ q ∈ mb_i121, decode prog_1_method_45_code q.1 = .ok (q.2.1, q.2.2) := by decide +kernel
set_option maxRecDepth 100000 in
theorem mb_d122 : ∀ q ∈ mb_i122, decode prog_1_method_46_code q.1 = .ok (q.2.1, q.2.2) := by decide +kernel
set_option maxRecDepth 100000 in
theorem mb_d123 : ∀ q ∈ mb_i123, decode prog_1_method_47_code q.1 = .ok (q.2.1, q.2.2) := by decide +kernel
set_option maxRecDepth 100000 in
theorem mb_d124 : ∀ q ∈ mb_i124, decode prog_12_method_1_code q.1 = .ok (q.2.1, q.2.2) := by decide +kernel
set_option maxRecDepth 100000 in
theorem mb_d125 : ∀ q ∈ mb_i125, decode prog_12_method_2_code q.1 = .ok (q.2.1, q.2.2) := by decide +kernel
set_option maxRecDepth 100000 in
theorem mb_d126 : ∀ q ∈ mb_i126, decode prog_12_method_3_code q.1 = .ok (q.2.1, q.2.2) := by decide +kernel
set_option maxRecDepth 100000 in
theorem mb_d127 : ∀ q ∈ mb_i127, decode prog_12_method_4_code q.1 = .ok (q.2.1, q.2.2) := by decide +kernel
set_option maxRecDepth 100000 in
theorem mb_d128 : ∀ q ∈ mb_i128, decode prog_12_method_5_code q.1 = .ok (q.2.1, q.2.2) := by decide +kernel
set_option maxRecDepth 100000 in
theorem mb_d129 : ∀ q ∈ mb_i129, decode prog_12_method_6_code q.1 = .ok (q.2.1, q.2.2) := by decide +kernel
set_option maxRecDepth 100000 in
theorem mb_d130 : ∀ q ∈ mb_i130, decode prog_12_method_7_code q.1 = .ok (q.2.1, q.2.2) := by decide +kernel
set_option maxRecDepth 100000 in
theorem mb_d131 : ∀ q ∈ mb_i131, decode prog_12_method_8_code q.1 = .ok (q.2.1, q.2.2) := by decide +kernel
set_option maxRecDepth 100000 in
theorem mb_d132 : ∀ q ∈ mb_i132, decode prog_12_method_9_code q.1 = .ok (q.2.1, q.2.2) := by decide +kernel
set_option maxRecDepth 100000 in
theorem mb_d133 : ∀ q ∈ mb_i133, decode prog_12_method_10_code q.1 = .ok (q.2.1, q.2.2) := by decide +kernel
set_option maxRecDepth 100000 in
theorem mb_d134 : ∀ q ∈ mb_i134, decode prog_12_method_11_code q.1 = .ok (q.2.1, q.2.2) := by decide +kernel
set_option maxRecDepth 100000 in
theorem mb_d135 : ∀ q ∈ mb_i135, decode prog_12_method_12_code q.1 = .ok (q.2.1, q.2.2) := by decide +kernel
set_option maxRecDepth 100000 in
theorem mb_d136 : ∀ q ∈ mb_i136, decode prog_12_method_13_code q.1 = .ok (q.2.1, q.2.2) := by decide +kernel
set_option maxRecDepth 100000 in
theorem mb_d137 : ∀ q ∈ mb_i137, decode prog_12_method_14_code q.1 = .ok (q.2.1, q.2.2) := by decide +kernel
set_option maxRecDepth 100000 in
theorem mb_d138 : ∀ q ∈ mb_i138, decode prog_12_method_15_code q.1 = .ok (q.2.1, q.2.2) := by decide +kernel
set_option maxRecDepth 100000 in
theorem mb_d139 : ∀ q ∈ mb_i139, decode prog_12_method_16_code q.1 = .ok (q.2.1, q.2.2) := by decide +kernel
set_option maxRecDepth 100000 in
theorem mb_d140 : ∀ q ∈ mb_i140, decode prog_12_method_17_code q.1 = .ok (q.2.1, q.2.2) := by decide +kernel
set_option maxRecDepth 100000 in
theorem mb_d141 : ∀ q ∈ mb_i141, decode prog_12_method_18_code q.1 = .ok (q.2.1, q.2.2) := by decide +kernel
set_option maxRecDepth 100000 in
theorem mb_d142 : ∀ q ∈ mb_i142, decode prog_12_method_19_code q.1 = .ok (q.2.1, q.2.2) := by decide +kernel
set_option maxRecDepth 100000 in
theorem mb_d143 : ∀ q ∈ mb_i143, decode prog_12_method_20_code q.1 = .ok (q.2.1, q.2.2) := by decide +kernel
set_option maxRecDepth 100000 in
theorem mb_d144 : ∀ q ∈ mb_i144, decode prog_12_method_21_code q.1 = .ok (q.2.1, q.2.2) := by decide +kernel
set_option maxRecDepth 100000 in
theorem mb_d145 : ∀ q ∈ mb_i145, decode prog_12_method_22_code q.1 = .ok (q.2.1, q.2.2) := by decide +kernel
set_option maxRecDepth 100000 in
theorem mb_d146 : ∀ q ∈ mb_i146, decode prog_12_method_23_code q.1 = .ok (q.2.1, q.2.2) := by decide +kernel
set_option maxRecDepth 100000 in
theorem mb_d147 : ∀ q ∈ mb_i147, decode prog_12_method_24_code q.1 = .ok (q.2.1, q.2.2) := by decide +kernel
set_option maxRecDepth 100000 in
theorem mb_d148 : ∀ q ∈ mb_i148, decode prog_12_method_25_code q.1 = .ok (q.2.1, q.2.2) := by decide +kernel
set_option maxRecDepth 100000 in
theorem mb_d149 : ∀ q ∈ mb_i149, decode prog_12_method_26_code q.1 = .ok (q.2.1, q.2.2) := by decide +kernel
set_option maxRecDepth 100000 in
theorem mb_d150 : ∀ q ∈ mb_i150, decode prog_12_method_27_code q.1 = .ok (q.2.1, q.2.2) := by decide +kernel
set_option maxRecDepth 100000 in
theorem mb_d151 : ∀ q ∈ mb_i151, decode prog_12_method_28_code q.1 = .ok (q.2.1, q.2.2) := by decide +kernel
set_option maxRecDepth 100000 in
theorem mb_d152 : ∀ q ∈ mb_i152, decode prog_12_method_29_code q.1 = .ok (q.2.1, q.2.2) := by decide +kernel
set_option maxRecDepth 100000 in
theorem mb_d153 : ∀ q ∈ mb_i153, decode prog_12_method_30_code q.1 = .ok (q.2.1, q.2.2) := by decide +kernel
set_option maxRecDepth 100000 in
theorem mb_d154 : ∀ q ∈ mb_i154, decode prog_12_method_31_code q.1 = .ok (q.2.1, q.2.2) := by decide +kernel
set_option maxRecDepth 100000 in
theorem mb_d155 : ∀ q ∈ mb_i155, decode prog_12_method_32_code q.1 = .ok (q.2.1, q.2.2) := by decide +kernel
set_option maxRecDepth 100000 in
theorem mb_d156 : ∀ q ∈ mb_i156, decode prog_12_method_33_code q.1 = .ok (q.2.1, q.2.2) := by decide +kernel
set_option maxRecDepth 100000 in
theorem mb_d157 : ∀ q ∈ mb_i157, decode prog_12_method_34_code q.1 = .ok (q.2.1, q.2.2) := by decide +kernel
set_option maxRecDepth 100000 in
theorem mb_d158 : ∀ q ∈ mb_i158, decode prog_12_method_35_code q.1 = .ok (q.2.1, q.2.2) := by decide +kernel
set_option maxRecDepth 100000 in
theorem mb_d159 : ∀ q ∈ mb_i159, decode prog_12_method_36_code q.1 = .ok (q.2.1, q.2.2) := by decide +kernel
set_option maxRecDepth 100000 in
theorem mb_d160 : ∀ q ∈ mb_i160, decode prog_12_method_37_code q.1 = .ok (q.2.1, q.2.2) := by decide +kernel
set_option maxRecDepth 100000 in
theorem mb_d161 : ∀ q ∈ mb_i161, decode prog_12_method_38_code q.1 = .ok (q.2.1, q.2.2) := by decide +kernel
set_option maxRecDepth 100000 in
theorem mb_d162 : ∀ q ∈ mb_i162, decode prog_12_method_39_code q.1 = .ok (q.2.1, q.2.2) := by decide +kernel
set_option maxRecDepth 100000 in
theorem mb_d163 : ∀ q ∈ mb_i163, decode prog_12_method_40_code q.1 = .ok (q.2.1, q.2.2) := by decide +kernel
set_option maxRecDepth 100000 in
theorem mb_d164 : ∀ q ∈ mb_i164, decode prog_12_method_41_code q.1 = .ok (q.2.1, q.2.2) := by decide +kernel
set_option maxRecDepth 100000 in
theorem mb_d165 : ∀ q ∈ mb_i165, decode prog_12_method_42_code q.1 = .ok (q.2.1, q.2.2) := by decide +kernel
set_option maxRecDepth 100000 in
theorem mb_d166 : ∀ q ∈ mb_i166, decode prog_12_method_43_code q.1 = .ok (q.2.1, q.2.2) := by decide +kernel
set_option maxRecDepth 100000 in
theorem mb_d167 : ∀ q ∈ mb_i167, decode prog_12_method_44_code q.1 = .ok (q.2.1, q.2.2) := by decide +kernel
set_option maxRecDepth 100000 in
theorem mb_d168 : ∀ q ∈ mb_i168, decode prog_12_method_45_code q.1 = .ok (q.2.1, q.2.2) := by decide +kernel
set_option maxRecDepth 100000 in
theorem mb_d169 : ∀ q ∈ mb_i169, decode prog_12_method_46_code q.1 = .ok (q.2.1, q.2.2) := by decide +kernel
set_option maxRecDepth 100000 in
theorem mb_d170 : ∀ q ∈ mb_i170, decode prog_12_method_47_code q.1 = .ok (q.2.1, q.2.2) := by decide +kernel
set_option maxRecDepth 100000 in
theorem mb_d171 : ∀ q ∈ mb_i171, decode prog_12_method_48_code q.1 = .ok (q.2.1, q.2.2) := by decide +kernel
set_option maxRecDepth 100000 in
theorem mb_d172 : ∀ q ∈ mb_i172, decode prog_12_method_49_code q.1 = .ok (q.2.1, q.2.2) := by decide +kernel
set_option maxRecDepth 100000 in
theorem mb_d173 : ∀ q ∈ mb_i173, decode prog_12_method_50_code q.1 = .ok (q.2.1, q.2.2) := by decide +kernel
set_option maxRecDepth 100000 in
theorem mb_d174 : ∀ q ∈ mb_i174, decode prog_12_method_51_code q.1 = .ok (q.2.1, q.2.2) := by decide +kernel
set_option maxRecDepth 100000 in
theorem mb_d175 : ∀ q ∈ mb_i175, decode prog_12_method_52_code q.1 = .ok (q.2.1, q.2.2) := by decide +kernel
set_option maxRecDepth 100000 in
theorem mb_d176 : ∀ q ∈ mb_i176, decode prog_12_method_53_code q.1 = .ok (q.2.1, q.2.2) := by decide +kernel
set_option maxRecDepth 100000 in
theorem mb_d177 : ∀ q ∈ mb_i177, decode prog_12_method_54_code q.1 = .ok (q.2.1, q.2.2) := by decide +kernel
set_option maxRecDepth 100000 in
theorem mb_d178 : ∀ q ∈ mb_i178, decode prog_12_method_55_code q.1 = .ok (q.2.1, q.2.2) := by decide +kernel
set_option maxRecDepth 100000 in
theorem mb_d179 : ∀ q ∈ mb_i179, decode prog_12_method_56_code q.1 = .ok (q.2.1, q.2.2) := by decide +kernel
set_option maxRecDepth 100000 in
theorem mb_d180 : ∀ q ∈ mb_i180, decode prog_12_method_57_code q.1 = .ok (q.2.1, q.2.2) := by decide +kernel
set_option maxRecDepth 100000 in
theorem mb_d181 : ∀ q ∈ mb_i181, decode prog_12_method_58_code q.1 = .ok (q.2.1, q.2.2) := by decide +kernel
set_option maxRecDepth 100000 in
theorem mb_d182 : ∀ q ∈ mb_i182, decode prog_12_method_59_code q.1 = .ok (q.2.1, q.2.2) := by decide +kernel
set_option maxRecDepth 100000 in
theorem mb_d183 : ∀ q ∈ mb_i183, decode prog_12_method_60_code q.1 = .ok (q.2.1, q.2.2) := by decide +kernel
set_option maxRecDepth 100000 in
theorem mb_d184 : ∀ q ∈ mb_i184, decode prog_12_method_61_code q.1 = .ok (q.2.1, q.2.2) := by decide +kernel
set_option maxRecDepth 100000 in
theorem mb_d185 : ∀ q ∈ mb_i185, decode prog_12_method_62_code q.1 = .ok (q.2.1, q.2.2) := by decide +kernel
set_option maxRecDepth 100000 in
theorem mb_d186 : ∀ q ∈ mb_i186, decode prog_12_method_63_code q.1 = .ok (q.2.1, q.2.2) := by decide +kernel
set_option maxRecDepth 100000 in
theorem mb_d187 : ∀ q ∈ mb_i187, decode prog_12_method_64_code q.1 = .ok (q.2.1, q.2.2) := by decide +kernel
set_option maxRecDepth 100000 in
theorem mb_d188 : ∀ q ∈ mb_i188, decode prog_12_method_65_code q.1 = .ok (q.2.1, q.2.2) := by decide +kernel
set_option maxRecDepth 100000 in
theorem mb_d189 : ∀ q ∈ mb_i189, decode prog_12_method_66_code q.1 = .ok (q.2.1, q.2.2) := by decide +kernel
set_option maxRecDepth 100000 in
theorem mb_d190 : ∀ q ∈ mb_i190, decode prog_12_method_67_code q.1 = .ok (q.2.1, q.2.2) := by decide +kernel
set_option maxRecDepth 100000 in
theorem mb_d191 : ∀ q ∈ mb_i191, decode prog_12_method_68_code q.1 = .ok (q.2.1, q.2.2) := by decide +kernel
set_option maxRecDepth 100000 in
theorem mb_d192 : ∀ q ∈ mb_i192, decode prog_12_method_69_code q.1 = .ok (q.2.1, q.2.2) := by decide +kernel
set_option maxRecDepth 100000 in
theorem mb_d193 : ∀ q ∈ mb_i193, decode prog_12_method_70_code q.1 = .ok (q.2.1, q.2.2) := by decide +kernel
set_option maxRecDepth 100000 in
theorem mb_d194 : ∀ q ∈ mb_i194, decode prog_12_method_71_code q.1 = .ok (q.2.1, q.2.2) := by decide +kernel
set_option maxRecDepth 100000 in
theorem mb_d195 : ∀ q ∈ mb_i195, decode prog_3_method_2_code q.1 = .ok (q.2.1, q.2.2) := by decide +kernel
set_option maxRecDepth 100000 in
theorem mb_d196 : ∀ q ∈ mb_i196, decode prog_3_method_3_code q.1 = .ok (q.2.1, q.2.2) := by decide +kernel
set_option maxRecDepth 100000 in
theorem mb_d197 : ∀ q ∈ mb_i197, decode prog_3_method_4_code q.1 = .ok (q.2.1, q.2.2) := by decide +kernel
set_option maxRecDepth 100000 in
theorem mb_d198 : ∀ q ∈ mb_i198, decode prog_3_method_5_code q.1 = .ok (q.2.1, q.2.2) := by decide +kernel
set_option maxRecDepth 100000 in
theorem mb_d199 : ∀ q ∈ mb_i199, decode prog_3_method_6_code q.1 = .ok (q.2.1, q.2.2) := by decide +kernel
set_option maxRecDepth 100000 in
theorem mb_d200 : ∀ q ∈ mb_i200, decode prog_3_method_7_code q.1 = .ok (q.2.1, q.2.2) := by decide +kernel
set_option maxRecDepth 100000 in
theorem mb_d201 : ∀ q ∈ mb_i201, decode prog_3_method_8_code q.1 = .ok (q.2.1, q.2.2) := by decide +kernel
set_option maxRecDepth 100000 in
theorem mb_d202 : ∀ q ∈ mb_i202, decode prog_6_method_2_code q.1 = .ok (q.2.1, q.2.2) := by decide +kernel
set_option maxRecDepth 100000 in
theorem mb_d203 : ∀ q ∈ mb_i203, decode prog_6_method_3_code q.1 = .ok (q.2.1, q.2.2) := by decide +kernel
set_option maxRecDepth 100000 in
theorem mb_d204 : ∀ q ∈ mb_i204, decode prog_6_method_4_code q.1 = .ok (q.2.1, q.2.2) := by decide +kernel
set_option maxRecDepth 100000 in
theorem mb_d205 : ∀ q ∈ mb_i205, decode prog_6_method_5_code q.1 = .ok (q.2.1, q.2.2) := by decide +kernel
set_option maxRecDepth 100000 in
theorem mb_d206 : ∀ q ∈ mb_i206, decode prog_6_method_6_code q.1 = .ok (q.2.1, q.2.2) := by decide +kernel
set_option maxRecDepth 100000 in
theorem mb_d207 : ∀ q ∈ mb_i207, decode prog_6_method_7_code q.1 = .ok (q.2.1, q.2.2) := by decide +kernel
set_option maxRecDepth 100000 in
theorem mb_d208 : ∀ q ∈ mb_i208, decode prog_6_method_8_code q.1 = .ok (q.2.1, q.2.2) := by decide +kernel
set_option maxRecDepth 100000 in
theorem mb_d209 : ∀ q ∈ mb_i209, decode prog_6_method_9_code q.1 = .ok (q.2.1, q.2.2) := by decide +kernel
set_option maxRecDepth 100000 in
theorem mb_d210 : ∀ q ∈ mb_i210, decode prog_10_method_6_code q.1 = .ok (q.2.1, q.2.2) := by decide +kernel
set_option maxRecDepth 100000 in
theorem mb_d211 : ∀ q ∈ mb_i211, decode prog_10_method_8_code q.1 = .ok (q.2.1, q.2.2) := by decide +kernel
