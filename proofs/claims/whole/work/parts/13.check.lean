set_option maxRecDepth 100000 in
theorem sm_k177_0_ok : sm_c177_0.all (sm_okE 177) = true := by decide +kernel
set_option maxRecDepth 100000 in
theorem sm_k177_1_ok : sm_c177_1.all (sm_okE 177) = true := by decide +kernel
theorem sm_k177_ok : sm_c177.all (sm_okE 177) = true := (sm_app sm_k177_0_ok sm_k177_1_ok)
set_option maxRecDepth 100000 in
theorem sm_k178_ok : sm_c178.all (sm_okE 178) = true := by decide +kernel
set_option maxRecDepth 100000 in
theorem sm_k179_ok : sm_c179.all (sm_okE 179) = true := by decide +kernel
set_option maxRecDepth 100000 in
theorem sm_k180_0_ok : sm_c180_0.all (sm_okE 180) = true := by decide +kernel
set_option maxRecDepth 100000 in
theorem sm_k180_1_ok : sm_c180_1.all (sm_okE 180) = true := by decide +kernel
theorem sm_k180_ok : sm_c180.all (sm_okE 180) = true := (sm_app sm_k180_0_ok sm_k180_1_ok)
set_option maxRecDepth 100000 in
theorem sm_k181_0_ok : sm_c181_0.all (sm_okE 181) = true := by decide +kernel
set_option maxRecDepth 100000 in
theorem sm_k181_1_ok : sm_c181_1.all (sm_okE 181) = true := by decide +kernel
theorem sm_k181_ok : sm_c181.all (sm_okE 181) = true := (sm_app sm_k181_0_ok sm_k181_1_ok)
set_option maxRecDepth 100000 in
theorem sm_k182_ok : sm_c182.all (sm_okE 182) = true := by decide +kernel
set_option maxRecDepth 100000 in
theorem sm_k183_ok : sm_c183.all (sm_okE 183) = true := by decide +kernel
set_option maxRecDepth 100000 in
theorem sm_k184_ok : sm_c184.all (sm_okE 184) = true := by decide +kernel
set_option maxRecDepth 100000 in
theorem sm_k185_0_ok : sm_c185_0.all (sm_okE 185) = true := by decide +kernel
set_option maxRecDepth 100000 in
theorem sm_k185_1_ok : sm_c185_1.all (sm_okE 185) = true := by decide +kernel
theorem sm_k185_ok : sm_c185.all (sm_okE 185) = true := (sm_app sm_k185_0_ok sm_k185_1_ok)
set_option maxRecDepth 100000 in
theorem sm_k186_ok : sm_c186.all (sm_okE 186) = true := by decide +kernel
set_option maxRecDepth 100000 in
theorem sm_k187_0_ok : sm_c187_0.all (sm_okE 187) = true := by decide +kernel
set_option maxRecDepth 100000 in
theorem sm_k187_1_ok : sm_c187_1.all (sm_okE 187) = true := by decide +kernel
theorem sm_k187_ok : sm_c187.all (sm_okE 187) = true := (sm_app sm_k187_0_ok sm_k187_1_ok)
set_option maxRecDepth 100000 in
theorem sm_k188_0_ok : sm_c188_0.all (sm_okE 188) = true := by decide +kernel
set_option maxRecDepth 100000 in
theorem sm_k188_1_ok : sm_c188_1.all (sm_okE 188) = true := by decide +kernel
theorem sm_k188_ok : sm_c188.all (sm_okE 188) = true := (sm_app sm_k188_0_ok sm_k188_1_ok)
set_option maxRecDepth 100000 in
theorem sm_k189_ok : sm_c189.all (sm_okE 189) = true := by decide +kernel
set_option maxRecDepth 100000 in
theorem sm_k190_0_ok : sm_c190_0.all (sm_okE 190) = true := by decide +kernel
set_option maxRecDepth 100000 in
theorem sm_k190_1_ok : sm_c190_1.all (sm_okE 190) = true := by decide +kernel
theorem sm_k190_ok : sm_c190.all (sm_okE 190) = true := (sm_app sm_k190_0_ok sm_k190_1_ok)
set_option maxRecDepth 100000 in
theorem sm_k191_0_ok : sm_c191_0.all (sm_okE 191) = true := by decide +kernel
set_option maxRecDepth 100000 in
theorem sm_k191_1_ok : sm_c191_1.all (sm_okE 191) = true := by decide +kernel
theorem sm_k191_ok : sm_c191.all (sm_okE 191) = true := (sm_app sm_k191_0_ok sm_k191_1_ok)
set_option maxRecDepth 100000 in
theorem sm_k192_0_ok : sm_c192_0.all (sm_okE 192) = true := by decide +kernel
set_option maxRecDepth 100000 in
theorem sm_k192_1_ok : sm_c192_1.all (sm_okE 192) = true := by decide +kernel
theorem sm_k192_ok : sm_c192.all (sm_okE 192) = true := (sm_app sm_k192_0_ok sm_k192_1_ok)
set_option maxRecDepth 100000 in
theorem sm_k193_0_ok : sm_c193_0.all (sm_okE 193) = true := by decide +kernel
set_option maxRecDepth 100000 in
theorem sm_k193_1_ok : sm_c193_1.all (sm_okE 193) = true := by decide +kernel
set_option maxRecDepth 100000 in
theorem sm_k193_2_ok : sm_c193_2.all (sm_okE 193) = true := by decide +kernel
theorem sm_k193_ok : sm_c193.all (sm_okE 193) = true := (sm_app sm_k193_0_ok (sm_app sm_k193_1_ok sm_k193_2_ok))
set_option maxRecDepth 100000 in
theorem sm_k194_ok : sm_c194.all (sm_okE 194) = true := by decide +kernel
set_option maxRecDepth 100000 in
theorem sm_k195_ok : sm_c195.all (sm_okE 195) = true := by decide +kernel
set_option maxRecDepth 100000 in
theorem sm_k196_0_ok : sm_c196_0.all (sm_okE 196) = true := by decide +kernel
set_option maxRecDepth 100000 in
theorem sm_k196_1_ok : sm_c196_1.all (sm_okE 196) = true := by decide +kernel
theorem sm_k196_ok : sm_c196.all (sm_okE 196) = true := (sm_app sm_k196_0_ok sm_k196_1_ok)
set_option maxRecDepth 100000 in
theorem sm_k197_ok : sm_c197.all (sm_okE 197) = true := by decide +kernel
set_option maxRecDepth 100000 in
theorem sm_k198_0_ok : sm_c198_0.all (sm_okE 198) = true := by decide +kernel
set_option maxRecDepth 100000 in
theorem sm_k198_1_ok : sm_c198_1.all (sm_okE 198) = true := by decide +kernel
set_option maxRecDepth 100000 in
theorem sm_k198_2_ok : sm_c198_2.all (sm_okE 198) = true := by decide +kernel
set_option maxRecDepth 100000 in
theorem sm_k198_3_ok : sm_c198_3.all (sm_okE 198) = true := by decide +kernel
set_option maxRecDepth 100000 in
theorem sm_k198_4_ok : sm_c198_4.all (sm_okE 198) = true := by decide +kernel
set_option maxRecDepth 100000 in
theorem sm_k198_5_ok : sm_c198_5.all (sm_okE 198) = true := by decide +kernel
set_option maxRecDepth 100000 in
theorem sm_k198_6_ok : sm_c198_6.all (sm_okE 198) = true := by decide +kernel
set_option maxRecDepth 100000 in
theorem sm_k198_7_ok : sm_c198_7.all (sm_okE 198) = true := by decide +kernel
set_option maxRecDepth 100000 in
theorem sm_k198_8_ok : sm_c198_8.all (sm_okE 198) = true := by decide +kernel
set_option maxRecDepth 100000 in
theorem sm_k198_9_ok : sm_c198_9.all (sm_okE 198) = true := by decide +kernel
set_option maxRecDepth 100000 in
theorem sm_k198_10_ok : sm_c198_10.all (sm_okE 198) = true := by decide +kernel
set_option maxRecDepth 100000 in
theorem sm_k198_11_ok : sm_c198_11.all (sm_okE 198) = true := by decide +kernel
set_option maxRecDepth 100000 in
theorem sm_k198_12_ok : sm_c198_12.all (sm_okE 198) = true := by decide +kernel
set_option maxRecDepth 100000 in
theorem sm_k198_13_ok : sm_c198_13.all (sm_okE 198) = true := by decide +kernel
theorem sm_k198_ok : sm_c198.all (sm_okE 198) = true := (sm_app sm_k198_0_ok (sm_app sm_k198_1_ok (sm_app sm_k198_2_ok (sm_app sm_k198_3_ok (sm_app sm_k198_4_ok (sm_app sm_k198_5_ok (sm_app sm_k198_6_ok (sm_app sm_k198_7_ok (sm_app sm_k198_8_ok (sm_app sm_k198_9_ok (sm_app sm_k198_10_ok (sm_app sm_k198_11_ok (sm_app sm_k198_12_ok sm_k198_13_ok)))))))))))))
set_option maxRecDepth 100000 in
theorem sm_k199_ok : sm_c199.all (sm_okE 199) = true := by decide +kernel
set_option maxRecDepth 100000 in
theorem sm_k200_ok : sm_c200.all (sm_okE 200) = true := by decide +kernel
set_option maxRecDepth 100000 in
theorem sm_k201_ok : sm_c201.all (sm_okE 201) = true := by decide +kernel
set_option maxRecDepth 100000 in
theorem sm_k202_ok : sm_c202.all (sm_okE 202) = true := by decide +kernel
set_option maxRecDepth 100000 in
theorem sm_k203_ok : sm_c203.all (sm_okE 203) = true := by decide +kernel
set_option maxRecDepth 100000 in
theorem sm_k204_ok : sm_c204.all (sm_okE 204) = true := by decide +kernel
set_option maxRecDepth 100000 in
theorem sm_k205_ok : sm_c205.all (sm_okE 205) = true := by decide +kernel
set_option maxRecDepth 100000 in
theorem sm_k206_ok : sm_c206.all (sm_okE 206) = true := by decide +kernel
set_option maxRecDepth 100000 in
theorem sm_k207_ok : sm_c207.all (sm_okE 207) = true := by decide +kernel
set_option maxRecDepth 100000 in
theorem sm_k208_ok : sm_c208.all (sm_okE 208) = true := by decide +kernel
