set_option maxRecDepth 100000 in
theorem sm_k62_0_ok : sm_c62_0.all (sm_okE 62) = true := by decide +kernel
set_option maxRecDepth 100000 in
theorem sm_k62_1_ok : sm_c62_1.all (sm_okE 62) = true := by decide +kernel
set_option maxRecDepth 100000 in
theorem sm_k62_2_ok : sm_c62_2.all (sm_okE 62) = true := by decide +kernel
theorem sm_k62_ok : sm_c62.all (sm_okE 62) = true := (sm_app sm_k62_0_ok (sm_app sm_k62_1_ok sm_k62_2_ok))
set_option maxRecDepth 100000 in
theorem sm_k63_ok : sm_c63.all (sm_okE 63) = true := by decide +kernel
set_option maxRecDepth 100000 in
theorem sm_k64_ok : sm_c64.all (sm_okE 64) = true := by decide +kernel
set_option maxRecDepth 100000 in
theorem sm_k65_ok : sm_c65.all (sm_okE 65) = true := by decide +kernel
set_option maxRecDepth 100000 in
theorem sm_k66_0_ok : sm_c66_0.all (sm_okE 66) = true := by decide +kernel
set_option maxRecDepth 100000 in
theorem sm_k66_1_ok : sm_c66_1.all (sm_okE 66) = true := by decide +kernel
theorem sm_k66_ok : sm_c66.all (sm_okE 66) = true := (sm_app sm_k66_0_ok sm_k66_1_ok)
set_option maxRecDepth 100000 in
theorem sm_k67_ok : sm_c67.all (sm_okE 67) = true := by decide +kernel
set_option maxRecDepth 100000 in
theorem sm_k68_0_ok : sm_c68_0.all (sm_okE 68) = true := by decide +kernel
set_option maxRecDepth 100000 in
theorem sm_k68_1_ok : sm_c68_1.all (sm_okE 68) = true := by decide +kernel
theorem sm_k68_ok : sm_c68.all (sm_okE 68) = true := (sm_app sm_k68_0_ok sm_k68_1_ok)
set_option maxRecDepth 100000 in
theorem sm_k69_ok : sm_c69.all (sm_okE 69) = true := by decide +kernel
set_option maxRecDepth 100000 in
theorem sm_k70_ok : sm_c70.all (sm_okE 70) = true := by decide +kernel
set_option maxRecDepth 100000 in
theorem sm_k71_ok : sm_c71.all (sm_okE 71) = true := by decide +kernel
set_option maxRecDepth 100000 in
theorem sm_k72_ok : sm_c72.all (sm_okE 72) = true := by decide +kernel
set_option maxRecDepth 100000 in
theorem sm_k73_ok : sm_c73.all (sm_okE 73) = true := by decide +kernel
set_option maxRecDepth 100000 in
theorem sm_k74_ok : sm_c74.all (sm_okE 74) = true := by decide +kernel
set_option maxRecDepth 100000 in
theorem sm_k75_ok : sm_c75.all (sm_okE 75) = true := by decide +kernel
set_option maxRecDepth 100000 in
theorem sm_k76_ok : sm_c76.all (sm_okE 76) = true := by decide +kernel
set_option maxRecDepth 100000 in
theorem sm_k77_ok : sm_c77.all (sm_okE 77) = true := by decide +kernel
set_option maxRecDepth 100000 in
theorem sm_k78_ok : sm_c78.all (sm_okE 78) = true := by decide +kernel
set_option maxRecDepth 100000 in
theorem sm_k79_ok : sm_c79.all (sm_okE 79) = true := by decide +kernel
set_option maxRecDepth 100000 in
theorem sm_k80_ok : sm_c80.all (sm_okE 80) = true := by decide +kernel
set_option maxRecDepth 100000 in
theorem sm_k81_ok : sm_c81.all (sm_okE 81) = true := by decide +kernel
set_option maxRecDepth 100000 in
theorem sm_k82_ok : sm_c82.all (sm_okE 82) = true := by decide +kernel
set_option maxRecDepth 100000 in
theorem sm_k83_ok : sm_c83.all (sm_okE 83) = true := by decide +kernel
set_option maxRecDepth 100000 in
theorem sm_k84_ok : sm_c84.all (sm_okE 84) = true := by decide +kernel
set_option maxRecDepth 100000 in
theorem sm_k85_ok : sm_c85.all (sm_okE 85) = true := by decide +kernel
set_option maxRecDepth 100000 in
theorem sm_k86_ok : sm_c86.all (sm_okE 86) = true := by decide +kernel
set_option maxRecDepth 100000 in
theorem sm_k87_ok : sm_c87.all (sm_okE 87) = true := by decide +kernel
set_option maxRecDepth 100000 in
theorem sm_k88_ok : sm_c88.all (sm_okE 88) = true := by decide +kernel
set_option maxRecDepth 100000 in
theorem sm_k89_ok : sm_c89.all (sm_okE 89) = true := by decide +kernel
set_option maxRecDepth 100000 in
theorem sm_k90_ok : sm_c90.all (sm_okE 90) = true := by decide +kernel
set_option maxRecDepth 100000 in
theorem sm_k91_ok : sm_c91.all (sm_okE 91) = true := by decide +kernel
set_option maxRecDepth 100000 in
theorem sm_k92_ok : sm_c92.all (sm_okE 92) = true := by decide +kernel
set_option maxRecDepth 100000 in
theorem sm_k93_ok : sm_c93.all (sm_okE 93) = true := by decide +kernel
set_option maxRecDepth 100000 in
theorem sm_k94_ok : sm_c94.all (sm_okE 94) = true := by decide +kernel
set_option maxRecDepth 100000 in
theorem sm_k95_ok : sm_c95.all (sm_okE 95) = true := by decide +kernel
set_option maxRecDepth 100000 in
theorem sm_k96_ok : sm_c96.all (sm_okE 96) = true := by decide +kernel
set_option maxRecDepth 100000 in
theorem sm_k97_ok : sm_c97.all (sm_okE 97) = true := by decide +kernel
set_option maxRecDepth 100000 in
theorem sm_k98_ok : sm_c98.all (sm_okE 98) = true := by decide +kernel
set_option maxRecDepth 100000 in
theorem sm_k99_0_ok : sm_c99_0.all (sm_okE 99) = true := by decide +kernel
set_option maxRecDepth 100000 in
theorem sm_k99_1_ok : sm_c99_1.all (sm_okE 99) = true := by decide +kernel
theorem sm_k99_ok : sm_c99.all (sm_okE 99) = true := (sm_app sm_k99_0_ok sm_k99_1_ok)
set_option maxRecDepth 100000 in
theorem sm_k100_ok : sm_c100.all (sm_okE 100) = true := by decide +kernel
set_option maxRecDepth 100000 in
theorem sm_k101_ok : sm_c101.all (sm_okE 101) = true := by decide +kernel
set_option maxRecDepth 100000 in
theorem sm_k102_ok : sm_c102.all (sm_okE 102) = true := by decide +kernel
set_option maxRecDepth 100000 in
theorem sm_k103_ok : sm_c103.all (sm_okE 103) = true := by decide +kernel
set_option maxRecDepth 100000 in
theorem sm_k104_ok : sm_c104.all (sm_okE 104) = true := by decide +kernel
set_option maxRecDepth 100000 in
theorem sm_k105_ok : sm_c105.all (sm_okE 105) = true := by decide +kernel
set_option maxRecDepth 100000 in
theorem sm_k106_ok : sm_c106.all (sm_okE 106) = true := by decide +kernel
set_option maxRecDepth 100000 in
theorem sm_k107_ok : sm_c107.all (sm_okE 107) = true := by decide +kernel
set_option maxRecDepth 100000 in
theorem sm_k108_ok : sm_c108.all (sm_okE 108) = true := by decide +kernel
set_option maxRecDepth 100000 in
theorem sm_k109_ok : sm_c109.all (sm_okE 109) = true := by decide +kernel
set_option maxRecDepth 100000 in
theorem sm_k110_ok : sm_c110.all (sm_okE 110) = true := by decide +kernel
set_option maxRecDepth 100000 in
theorem sm_k111_0_ok : sm_c111_0.all (sm_okE 111) = true := by decide +kernel
set_option maxRecDepth 100000 in
theorem sm_k111_1_ok : sm_c111_1.all (sm_okE 111) = true := by decide +kernel
theorem sm_k111_ok : sm_c111.all (sm_okE 111) = true := (sm_app sm_k111_0_ok sm_k111_1_ok)
set_option maxRecDepth 100000 in
theorem sm_k112_ok : sm_c112.all (sm_okE 112) = true := by decide +kernel
set_option maxRecDepth 100000 in
theorem sm_k113_ok : sm_c113.all (sm_okE 113) = true := by decide +kernel
set_option maxRecDepth 100000 in
theorem sm_k114_ok : sm_c114.all (sm_okE 114) = true := by decide +kernel
set_option maxRecDepth 100000 in
theorem sm_k115_ok : sm_c115.all (sm_okE 115) = true := by decide +kernel
set_option maxRecDepth 100000 in
theorem sm_k116_ok : sm_c116.all (sm_okE 116) = true := by decide +kernel
set_option maxRecDepth 100000 in
theorem sm_k117_0_ok : sm_c117_0.all (sm_okE 117) = true := by decide +kernel
set_option maxRecDepth 100000 in
theorem sm_k117_1_ok : sm_c117_1.all (sm_okE 117) = true := by decide +kernel
theorem sm_k117_ok : sm_c117.all (sm_okE 117) = true := (sm_app sm_k117_0_ok sm_k117_1_ok)
set_option maxRecDepth 100000 in
theorem sm_k118_ok : sm_c118.all (sm_okE 118) = true := by decide +kernel
set_option maxRecDepth 100000 in
theorem sm_k119_ok : sm_c119.all (sm_okE 119) = true := by decide +kernel
set_option maxRecDepth 100000 in
theorem sm_k120_ok : sm_c120.all (sm_okE 120) = true := by decide +kernel
set_option maxRecDepth 100000 in
theorem sm_k121_ok : sm_c121.all (sm_okE 121) = true := by decide +kernel
set_option maxRecDepth 100000 in
theorem sm_k122_ok : sm_c122.all (sm_okE 122) = true := by decide +kernel
set_option maxRecDepth 100000 in
theorem sm_k123_ok : sm_c123.all (sm_okE 123) = true := by decide +kernel
set_option maxRecDepth 100000 in
theorem sm_k124_ok : sm_c124.all (sm_okE 124) = true := by decide +kernel
set_option maxRecDepth 100000 in
theorem sm_k125_ok : sm_c125.all (sm_okE 125) = true := by decide +kernel
set_option maxRecDepth 100000 in
theorem sm_k126_ok : sm_c126.all (sm_okE 126) = true := by decide +kernel
set_option maxRecDepth 100000 in
theorem sm_k127_ok : sm_c127.all (sm_okE 127) = true := by decide +kernel
set_option maxRecDepth 100000 in
theorem sm_k128_ok : sm_c128.all (sm_okE 128) = true := by decide +kernel
set_option maxRecDepth 100000 in
theorem sm_k129_ok : sm_c129.all (sm_okE 129) = true := by decide +kernel
set_option maxRecDepth 100000 in
theorem sm_k130_ok : sm_c130.all (sm_okE 130) = true := by decide +kernel
