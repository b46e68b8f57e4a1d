theorem sm_app {α : Type} {f : α → Bool} {a b : List α} (h1 : a.all f = true) (h2 : b.all f = true) : (a ++ b).all f = true := by rw [List.all_append, h1, h2]; rfl
set_option maxRecDepth 100000 in
theorem sm_k0_ok : sm_c0.all (sm_okE 0) = true := by decide +kernel
set_option maxRecDepth 100000 in
theorem sm_k1_ok : sm_c1.all (sm_okE 1) = true := by decide +kernel
set_option maxRecDepth 100000 in
theorem sm_k2_0_ok : sm_c2_0.all (sm_okE 2) = true := by decide +kernel
set_option maxRecDepth 100000 in
theorem sm_k2_1_ok : sm_c2_1.all (sm_okE 2) = true := by decide +kernel
theorem sm_k2_ok : sm_c2.all (sm_okE 2) = true := (sm_app sm_k2_0_ok sm_k2_1_ok)
set_option maxRecDepth 100000 in
theorem sm_k3_ok : sm_c3.all (sm_okE 3) = true := by decide +kernel
set_option maxRecDepth 100000 in
theorem sm_k4_ok : sm_c4.all (sm_okE 4) = true := by decide +kernel
set_option maxRecDepth 100000 in
theorem sm_k5_0_ok : sm_c5_0.all (sm_okE 5) = true := by decide +kernel
set_option maxRecDepth 100000 in
theorem sm_k5_1_ok : sm_c5_1.all (sm_okE 5) = true := by decide +kernel
theorem sm_k5_ok : sm_c5.all (sm_okE 5) = true := (sm_app sm_k5_0_ok sm_k5_1_ok)
set_option maxRecDepth 100000 in
theorem sm_k6_0_ok : sm_c6_0.all (sm_okE 6) = true := by decide +kernel
set_option maxRecDepth 100000 in
theorem sm_k6_1_ok : sm_c6_1.all (sm_okE 6) = true := by decide +kernel
theorem sm_k6_ok : sm_c6.all (sm_okE 6) = true := (sm_app sm_k6_0_ok sm_k6_1_ok)
set_option maxRecDepth 100000 in
theorem sm_k7_0_ok : sm_c7_0.all (sm_okE 7) = true := by decide +kernel
set_option maxRecDepth 100000 in
theorem sm_k7_1_ok : sm_c7_1.all (sm_okE 7) = true := by decide +kernel
set_option maxRecDepth 100000 in
theorem sm_k7_2_ok : sm_c7_2.all (sm_okE 7) = true := by decide +kernel
theorem sm_k7_ok : sm_c7.all (sm_okE 7) = true := (sm_app sm_k7_0_ok (sm_app sm_k7_1_ok sm_k7_2_ok))
set_option maxRecDepth 100000 in
theorem sm_k8_ok : sm_c8.all (sm_okE 8) = true := by decide +kernel
set_option maxRecDepth 100000 in
theorem sm_k9_ok : sm_c9.all (sm_okE 9) = true := by decide +kernel
set_option maxRecDepth 100000 in
theorem sm_k10_ok : sm_c10.all (sm_okE 10) = true := by decide +kernel
set_option maxRecDepth 100000 in
theorem sm_k11_0_ok : sm_c11_0.all (sm_okE 11) = true := by decide +kernel
set_option maxRecDepth 100000 in
theorem sm_k11_1_ok : sm_c11_1.all (sm_okE 11) = true := by decide +kernel
theorem sm_k11_ok : sm_c11.all (sm_okE 11) = true := (sm_app sm_k11_0_ok sm_k11_1_ok)
set_option maxRecDepth 100000 in
theorem sm_k12_ok : sm_c12.all (sm_okE 12) = true := by decide +kernel
set_option maxRecDepth 100000 in
theorem sm_k13_ok : sm_c13.all (sm_okE 13) = true := by decide +kernel
set_option maxRecDepth 100000 in
theorem sm_k14_ok : sm_c14.all (sm_okE 14) = true := by decide +kernel
set_option maxRecDepth 100000 in
theorem sm_k15_ok : sm_c15.all (sm_okE 15) = true := by decide +kernel
set_option maxRecDepth 100000 in
theorem sm_k16_ok : sm_c16.all (sm_okE 16) = true := by decide +kernel
set_option maxRecDepth 100000 in
theorem sm_k17_ok : sm_c17.all (sm_okE 17) = true := by decide +kernel
set_option maxRecDepth 100000 in
theorem sm_k18_ok : sm_c18.all (sm_okE 18) = true := by decide +kernel
set_option maxRecDepth 100000 in
theorem sm_k19_ok : sm_c19.all (sm_okE 19) = true := by decide +kernel
set_option maxRecDepth 100000 in
theorem sm_k20_ok : sm_c20.all (sm_okE 20) = true := by decide +kernel
set_option maxRecDepth 100000 in
theorem sm_k21_ok : sm_c21.all (sm_okE 21) = true := by decide +kernel
set_option maxRecDepth 100000 in
theorem sm_k22_0_ok : sm_c22_0.all (sm_okE 22) = true := by decide +kernel
set_option maxRecDepth 100000 in
theorem sm_k22_1_ok : sm_c22_1.all (sm_okE 22) = true := by decide +kernel
set_option maxRecDepth 100000 in
theorem sm_k22_2_ok : sm_c22_2.all (sm_okE 22) = true := by decide +kernel
theorem sm_k22_ok : sm_c22.all (sm_okE 22) = true := (sm_app sm_k22_0_ok (sm_app sm_k22_1_ok sm_k22_2_ok))
set_option maxRecDepth 100000 in
theorem sm_k23_ok : sm_c23.all (sm_okE 23) = true := by decide +kernel
set_option maxRecDepth 100000 in
theorem sm_k24_ok : sm_c24.all (sm_okE 24) = true := by decide +kernel
set_option maxRecDepth 100000 in
theorem sm_k25_ok : sm_c25.all (sm_okE 25) = true := by decide +kernel
set_option maxRecDepth 100000 in
theorem sm_k26_0_ok : sm_c26_0.all (sm_okE 26) = true := by decide +kernel
set_option maxRecDepth 100000 in
theorem sm_k26_1_ok : sm_c26_1.all (sm_okE 26) = true := by decide +kernel
theorem sm_k26_ok : sm_c26.all (sm_okE 26) = true := (sm_app sm_k26_0_ok sm_k26_1_ok)
set_option maxRecDepth 100000 in
theorem sm_k27_ok : sm_c27.all (sm_okE 27) = true := by decide +kernel
set_option maxRecDepth 100000 in
theorem sm_k28_0_ok : sm_c28_0.all (sm_okE 28) = true := by decide +kernel
set_option maxRecDepth 100000 in
theorem sm_k28_1_ok : sm_c28_1.all (sm_okE 28) = true := by decide +kernel
theorem sm_k28_ok : sm_c28.all (sm_okE 28) = true := (sm_app sm_k28_0_ok sm_k28_1_ok)
set_option maxRecDepth 100000 in
theorem sm_k29_ok : sm_c29.all (sm_okE 29) = true := by decide +kernel
set_option maxRecDepth 100000 in
theorem sm_k30_0_ok : sm_c30_0.all (sm_okE 30) = true := by decide +kernel
set_option maxRecDepth 100000 in
theorem sm_k30_1_ok : sm_c30_1.all (sm_okE 30) = true := by decide +kernel
theorem sm_k30_ok : sm_c30.all (sm_okE 30) = true := (sm_app sm_k30_0_ok sm_k30_1_ok)
set_option maxRecDepth 100000 in
theorem sm_k31_ok : sm_c31.all (sm_okE 31) = true := by decide +kernel
set_option maxRecDepth 100000 in
theorem sm_k32_ok : sm_c32.all (sm_okE 32) = true := by decide +kernel
set_option maxRecDepth 100000 in
theorem sm_k33_0_ok : sm_c33_0.all (sm_okE 33) = true := by decide +kernel
set_option maxRecDepth 100000 in
theorem sm_k33_1_ok : sm_c33_1.all (sm_okE 33) = true := by decide +kernel
theorem sm_k33_ok : sm_c33.all (sm_okE 33) = true := (sm_app sm_k33_0_ok sm_k33_1_ok)
set_option maxRecDepth 100000 in
theorem sm_k34_ok : sm_c34.all (sm_okE 34) = true := by decide +kernel
set_option maxRecDepth 100000 in
theorem sm_k35_ok : sm_c35.all (sm_okE 35) = true := by decide +kernel
set_option maxRecDepth 100000 in
theorem sm_k36_ok : sm_c36.all (sm_okE 36) = true := by decide +kernel
set_option maxRecDepth 100000 in
theorem sm_k37_ok : sm_c37.all (sm_okE 37) = true := by decide +kernel
set_option maxRecDepth 100000 in
theorem sm_k38_ok : sm_c38.all (sm_okE 38) = true := by decide +kernel
set_option maxRecDepth 100000 in
theorem sm_k39_ok : sm_c39.all (sm_okE 39) = true := by decide +kernel
set_option maxRecDepth 100000 in
theorem sm_k40_ok : sm_c40.all (sm_okE 40) = true := by decide +kernel
set_option maxRecDepth 100000 in
theorem sm_k41_ok : sm_c41.all (sm_okE 41) = true := by decide +kernel
set_option maxRecDepth 100000 in
theorem sm_k42_ok : sm_c42.all (sm_okE 42) = true := by decide +kernel
set_option maxRecDepth 100000 in
theorem sm_k43_ok : sm_c43.all (sm_okE 43) = true := by decide +kernel
set_option maxRecDepth 100000 in
theorem sm_k44_ok : sm_c44.all (sm_okE 44) = true := by decide +kernel
set_option maxRecDepth 100000 in
theorem sm_k45_ok : sm_c45.all (sm_okE 45) = true := by decide +kernel
set_option maxRecDepth 100000 in
theorem sm_k46_0_ok : sm_c46_0.all (sm_okE 46) = true := by decide +kernel
set_option maxRecDepth 100000 in
theorem sm_k46_1_ok : sm_c46_1.all (sm_okE 46) = true := by decide +kernel
theorem sm_k46_ok : sm_c46.all (sm_okE 46) = true := (sm_app sm_k46_0_ok sm_k46_1_ok)
set_option maxRecDepth 100000 in
theorem sm_k47_ok : sm_c47.all (sm_okE 47) = true := by decide +kernel
set_option maxRecDepth 100000 in
theorem sm_k48_ok : sm_c48.all (sm_okE 48) = true := by decide +kernel
set_option maxRecDepth 100000 in
theorem sm_k49_ok : sm_c49.all (sm_okE 49) = true := by decide +kernel
set_option maxRecDepth 100000 in
theorem sm_k50_ok : sm_c50.all (sm_okE 50) = true := by decide +kernel
set_option maxRecDepth 100000 in
theorem sm_k51_ok : sm_c51.all (sm_okE 51) = true := by decide +kernel
set_option maxRecDepth 100000 in
theorem sm_k52_ok : sm_c52.all (sm_okE 52) = true := by decide +kernel
set_option maxRecDepth 100000 in
theorem sm_k53_ok : sm_c53.all (sm_okE 53) = true := by decide +kernel
set_option maxRecDepth 100000 in
theorem sm_k54_ok : sm_c54.all (sm_okE 54) = true := by decide +kernel
set_option maxRecDepth 100000 in
theorem sm_k55_ok : sm_c55.all (sm_okE 55) = true := by decide +kernel
set_option maxRecDepth 100000 in
theorem sm_k56_ok : sm_c56.all (sm_okE 56) = true := by decide +kernel
set_option maxRecDepth 100000 in
theorem sm_k57_ok : sm_c57.all (sm_okE 57) = true := by decide +kernel
set_option maxRecDepth 100000 in
theorem sm_k58_0_ok : sm_c58_0.all (sm_okE 58) = true := by decide +kernel
set_option maxRecDepth 100000 in
theorem sm_k58_1_ok : sm_c58_1.all (sm_okE 58) = true := by decide +kernel
theorem sm_k58_ok : sm_c58.all (sm_okE 58) = true := (sm_app sm_k58_0_ok sm_k58_1_ok)
set_option maxRecDepth 100000 in
theorem sm_k59_ok : sm_c59.all (sm_okE 59) = true := by decide +kernel
set_option maxRecDepth 100000 in
theorem sm_k60_ok : sm_c60.all (sm_okE 60) = true := by decide +kernel
set_option maxRecDepth 100000 in
theorem sm_k61_0_ok : sm_c61_0.all (sm_okE 61) = true := by decide +kernel
set_option maxRecDepth 100000 in
theorem sm_k61_1_ok : sm_c61_1.all (sm_okE 61) = true := by decide +kernel
set_option maxRecDepth 100000 in
theorem sm_k61_2_ok : sm_c61_2.all (sm_okE 61) = true := by decide +kernel
theorem sm_k61_ok : sm_c61.all (sm_okE 61) = true := (sm_app sm_k61_0_ok (sm_app sm_k61_1_ok sm_k61_2_ok))
