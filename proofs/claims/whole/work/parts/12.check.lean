set_option maxRecDepth 100000 in
theorem sm_k131_ok : sm_c131.all (sm_okE 131) = true := by decide +kernel
set_option maxRecDepth 100000 in
theorem sm_k132_ok : sm_c132.all (sm_okE 132) = true := by decide +kernel
set_option maxRecDepth 100000 in
theorem sm_k133_ok : sm_c133.all (sm_okE 133) = true := by decide +kernel
set_option maxRecDepth 100000 in
theorem sm_k134_ok : sm_c134.all (sm_okE 134) = true := by decide +kernel
set_option maxRecDepth 100000 in
theorem sm_k135_0_ok : sm_c135_0.all (sm_okE 135) = true := by decide +kernel
set_option maxRecDepth 100000 in
theorem sm_k135_1_ok : sm_c135_1.all (sm_okE 135) = true := by decide +kernel
theorem sm_k135_ok : sm_c135.all (sm_okE 135) = true := (sm_app sm_k135_0_ok sm_k135_1_ok)
set_option maxRecDepth 100000 in
theorem sm_k136_0_ok : sm_c136_0.all (sm_okE 136) = true := by decide +kernel
set_option maxRecDepth 100000 in
theorem sm_k136_1_ok : sm_c136_1.all (sm_okE 136) = true := by decide +kernel
theorem sm_k136_ok : sm_c136.all (sm_okE 136) = true := (sm_app sm_k136_0_ok sm_k136_1_ok)
set_option maxRecDepth 100000 in
theorem sm_k137_ok : sm_c137.all (sm_okE 137) = true := by decide +kernel
set_option maxRecDepth 100000 in
theorem sm_k138_ok : sm_c138.all (sm_okE 138) = true := by decide +kernel
set_option maxRecDepth 100000 in
theorem sm_k139_ok : sm_c139.all (sm_okE 139) = true := by decide +kernel
set_option maxRecDepth 100000 in
theorem sm_k140_ok : sm_c140.all (sm_okE 140) = true := by decide +kernel
set_option maxRecDepth 100000 in
theorem sm_k141_ok : sm_c141.all (sm_okE 141) = true := by decide +kernel
set_option maxRecDepth 100000 in
theorem sm_k142_ok : sm_c142.all (sm_okE 142) = true := by decide +kernel
set_option maxRecDepth 100000 in
theorem sm_k143_ok : sm_c143.all (sm_okE 143) = true := by decide +kernel
set_option maxRecDepth 100000 in
theorem sm_k144_0_ok : sm_c144_0.all (sm_okE 144) = true := by decide +kernel
set_option maxRecDepth 100000 in
theorem sm_k144_1_ok : sm_c144_1.all (sm_okE 144) = true := by decide +kernel
set_option maxRecDepth 100000 in
theorem sm_k144_2_ok : sm_c144_2.all (sm_okE 144) = true := by decide +kernel
theorem sm_k144_ok : sm_c144.all (sm_okE 144) = true := (sm_app sm_k144_0_ok (sm_app sm_k144_1_ok sm_k144_2_ok))
set_option maxRecDepth 100000 in
theorem sm_k145_ok : sm_c145.all (sm_okE 145) = true := by decide +kernel
set_option maxRecDepth 100000 in
theorem sm_k146_ok : sm_c146.all (sm_okE 146) = true := by decide +kernel
set_option maxRecDepth 100000 in
theorem sm_k147_ok : sm_c147.all (sm_okE 147) = true := by decide +kernel
set_option maxRecDepth 100000 in
theorem sm_k148_ok : sm_c148.all (sm_okE 148) = true := by decide +kernel
set_option maxRecDepth 100000 in
theorem sm_k149_ok : sm_c149.all (sm_okE 149) = true := by decide +kernel
set_option maxRecDepth 100000 in
theorem sm_k150_0_ok : sm_c150_0.all (sm_okE 150) = true := by decide +kernel
set_option maxRecDepth 100000 in
theorem sm_k150_1_ok : sm_c150_1.all (sm_okE 150) = true := by decide +kernel
theorem sm_k150_ok : sm_c150.all (sm_okE 150) = true := (sm_app sm_k150_0_ok sm_k150_1_ok)
set_option maxRecDepth 100000 in
theorem sm_k151_ok : sm_c151.all (sm_okE 151) = true := by decide +kernel
set_option maxRecDepth 100000 in
theorem sm_k152_ok : sm_c152.all (sm_okE 152) = true := by decide +kernel
set_option maxRecDepth 100000 in
theorem sm_k153_ok : sm_c153.all (sm_okE 153) = true := by decide +kernel
set_option maxRecDepth 100000 in
theorem sm_k154_0_ok : sm_c154_0.all (sm_okE 154) = true := by decide +kernel
set_option maxRecDepth 100000 in
theorem sm_k154_1_ok : sm_c154_1.all (sm_okE 154) = true := by decide +kernel
theorem sm_k154_ok : sm_c154.all (sm_okE 154) = true := (sm_app sm_k154_0_ok sm_k154_1_ok)
set_option maxRecDepth 100000 in
theorem sm_k155_0_ok : sm_c155_0.all (sm_okE 155) = true := by decide +kernel
set_option maxRecDepth 100000 in
theorem sm_k155_1_ok : sm_c155_1.all (sm_okE 155) = true := by decide +kernel
theorem sm_k155_ok : sm_c155.all (sm_okE 155) = true := (sm_app sm_k155_0_ok sm_k155_1_ok)
set_option maxRecDepth 100000 in
theorem sm_k156_0_ok : sm_c156_0.all (sm_okE 156) = true := by decide +kernel
set_option maxRecDepth 100000 in
theorem sm_k156_1_ok : sm_c156_1.all (sm_okE 156) = true := by decide +kernel
set_option maxRecDepth 100000 in
theorem sm_k156_2_ok : sm_c156_2.all (sm_okE 156) = true := by decide +kernel
theorem sm_k156_ok : sm_c156.all (sm_okE 156) = true := (sm_app sm_k156_0_ok (sm_app sm_k156_1_ok sm_k156_2_ok))
set_option maxRecDepth 100000 in
theorem sm_k157_ok : sm_c157.all (sm_okE 157) = true := by decide +kernel
set_option maxRecDepth 100000 in
theorem sm_k158_ok : sm_c158.all (sm_okE 158) = true := by decide +kernel
set_option maxRecDepth 100000 in
theorem sm_k159_0_ok : sm_c159_0.all (sm_okE 159) = true := by decide +kernel
set_option maxRecDepth 100000 in
theorem sm_k159_1_ok : sm_c159_1.all (sm_okE 159) = true := by decide +kernel
theorem sm_k159_ok : sm_c159.all (sm_okE 159) = true := (sm_app sm_k159_0_ok sm_k159_1_ok)
set_option maxRecDepth 100000 in
theorem sm_k160_ok : sm_c160.all (sm_okE 160) = true := by decide +kernel
set_option maxRecDepth 100000 in
theorem sm_k161_ok : sm_c161.all (sm_okE 161) = true := by decide +kernel
set_option maxRecDepth 100000 in
theorem sm_k162_ok : sm_c162.all (sm_okE 162) = true := by decide +kernel
set_option maxRecDepth 100000 in
theorem sm_k163_ok : sm_c163.all (sm_okE 163) = true := by decide +kernel
set_option maxRecDepth 100000 in
theorem sm_k164_ok : sm_c164.all (sm_okE 164) = true := by decide +kernel
set_option maxRecDepth 100000 in
theorem sm_k165_0_ok : sm_c165_0.all (sm_okE 165) = true := by decide +kernel
set_option maxRecDepth 100000 in
theorem sm_k165_1_ok : sm_c165_1.all (sm_okE 165) = true := by decide +kernel
set_option maxRecDepth 100000 in
theorem sm_k165_2_ok : sm_c165_2.all (sm_okE 165) = true := by decide +kernel
theorem sm_k165_ok : sm_c165.all (sm_okE 165) = true := (sm_app sm_k165_0_ok (sm_app sm_k165_1_ok sm_k165_2_ok))
set_option maxRecDepth 100000 in
theorem sm_k166_ok : sm_c166.all (sm_okE 166) = true := by decide +kernel
set_option maxRecDepth 100000 in
theorem sm_k167_ok : sm_c167.all (sm_okE 167) = true := by decide +kernel
set_option maxRecDepth 100000 in
theorem sm_k168_ok : sm_c168.all (sm_okE 168) = true := by decide +kernel
set_option maxRecDepth 100000 in
theorem sm_k169_0_ok : sm_c169_0.all (sm_okE 169) = true := by decide +kernel
set_option maxRecDepth 100000 in
theorem sm_k169_1_ok : sm_c169_1.all (sm_okE 169) = true := by decide +kernel
theorem sm_k169_ok : sm_c169.all (sm_okE 169) = true := (sm_app sm_k169_0_ok sm_k169_1_ok)
set_option maxRecDepth 100000 in
theorem sm_k170_0_ok : sm_c170_0.all (sm_okE 170) = true := by decide +kernel
set_option maxRecDepth 100000 in
theorem sm_k170_1_ok : sm_c170_1.all (sm_okE 170) = true := by decide +kernel
set_option maxRecDepth 100000 in
theorem sm_k170_2_ok : sm_c170_2.all (sm_okE 170) = true := by decide +kernel
set_option maxRecDepth 100000 in
theorem sm_k170_3_ok : sm_c170_3.all (sm_okE 170) = true := by decide +kernel
theorem sm_k170_ok : sm_c170.all (sm_okE 170) = true := (sm_app sm_k170_0_ok (sm_app sm_k170_1_ok (sm_app sm_k170_2_ok sm_k170_3_ok)))
set_option maxRecDepth 100000 in
theorem sm_k171_ok : sm_c171.all (sm_okE 171) = true := by decide +kernel
set_option maxRecDepth 100000 in
theorem sm_k172_ok : sm_c172.all (sm_okE 172) = true := by decide +kernel
set_option maxRecDepth 100000 in
theorem sm_k173_0_ok : sm_c173_0.all (sm_okE 173) = true := by decide +kernel
set_option maxRecDepth 100000 in
theorem sm_k173_1_ok : sm_c173_1.all (sm_okE 173) = true := by decide +kernel
theorem sm_k173_ok : sm_c173.all (sm_okE 173) = true := (sm_app sm_k173_0_ok sm_k173_1_ok)
set_option maxRecDepth 100000 in
theorem sm_k174_ok : sm_c174.all (sm_okE 174) = true := by decide +kernel
set_option maxRecDepth 100000 in
theorem sm_k175_0_ok : sm_c175_0.all (sm_okE 175) = true := by decide +kernel
set_option maxRecDepth 100000 in
theorem sm_k175_1_ok : sm_c175_1.all (sm_okE 175) = true := by decide +kernel
theorem sm_k175_ok : sm_c175.all (sm_okE 175) = true := (sm_app sm_k175_0_ok sm_k175_1_ok)
set_option maxRecDepth 100000 in
theorem sm_k176_ok : sm_c176.all (sm_okE 176) = true := by decide +kernel
