set_option maxRecDepth 100000 in
theorem mj_e79 : mj_cd79.all (mj_okE 79) = true := by decide +kernel
set_option maxRecDepth 100000 in
theorem mj_e80 : mj_cd80.all (mj_okE 80) = true := by decide +kernel
set_option maxRecDepth 100000 in
theorem mj_e81 : mj_cd81.all (mj_okE 81) = true := by decide +kernel
set_option maxRecDepth 100000 in
theorem mj_e82 : mj_cd82.all (mj_okE 82) = true := by decide +kernel
set_option maxRecDepth 100000 in
theorem mj_e83 : mj_cd83.all (mj_okE 83) = true := by decide +kernel
set_option maxRecDepth 100000 in
theorem mj_e84 : mj_cd84.all (mj_okE 84) = true := by decide +kernel
set_option maxRecDepth 100000 in
theorem mj_e85 : mj_cd85.all (mj_okE 85) = true := by decide +kernel
set_option maxRecDepth 100000 in
theorem mj_e86 : mj_cd86.all (mj_okE 86) = true := by decide +kernel
set_option maxRecDepth 100000 in
theorem mj_e87 : mj_cd87.all (mj_okE 87) = true := by decide +kernel
set_option maxRecDepth 100000 in
theorem mj_e88_0 : (mj_cd88.take 60).all (mj_okE 88) = true := by decide +kernel
set_option maxRecDepth 100000 in
theorem mj_e88_1 : (mj_cd88.drop 60).all (mj_okE 88) = true := by decide +kernel
theorem mj_e88 : mj_cd88.all (mj_okE 88) = true := mj_tk 60 mj_e88_0 (mj_e88_1)
set_option maxRecDepth 100000 in
theorem mj_e89_0 : (mj_cd89.take 60).all (mj_okE 89) = true := by decide +kernel
set_option maxRecDepth 100000 in
theorem mj_e89_1 : (mj_cd89.drop 60).all (mj_okE 89) = true := by decide +kernel
theorem mj_e89 : mj_cd89.all (mj_okE 89) = true := mj_tk 60 mj_e89_0 (mj_e89_1)
set_option maxRecDepth 100000 in
theorem mj_e90 : mj_cd90.all (mj_okE 90) = true := by decide +kernel
set_option maxRecDepth 100000 in
theorem mj_e91 : mj_cd91.all (mj_okE 91) = true := by decide +kernel
set_option maxRecDepth 100000 in
theorem mj_e92 : mj_cd92.all (mj_okE 92) = true := by decide +kernel
set_option maxRecDepth 100000 in
theorem mj_e93 : mj_cd93.all (mj_okE 93) = true := by decide +kernel
set_option maxRecDepth 100000 in
theorem mj_e94 : mj_cd94.all (mj_okE 94) = true := by decide +kernel
set_option maxRecDepth 100000 in
theorem mj_e95 : mj_cd95.all (mj_okE 95) = true := by decide +kernel
set_option maxRecDepth 100000 in
theorem mj_e96 : mj_cd96.all (mj_okE 96) = true := by decide +kernel
set_option maxRecDepth 100000 in
theorem mj_e97 : mj_cd97.all (mj_okE 97) = true := by decide +kernel
set_option maxRecDepth 100000 in
theorem mj_e98 : mj_cd98.all (mj_okE 98) = true := by decide +kernel
set_option maxRecDepth 100000 in
theorem mj_e99 : mj_cd99.all (mj_okE 99) = true := by decide +kernel
set_option maxRecDepth 100000 in
theorem mj_e100 : mj_cd100.all (mj_okE 100) = true := by decide +kernel
set_option maxRecDepth 100000 in
theorem mj_e101 : mj_cd101.all (mj_okE 101) = true := by decide +kernel
set_option maxRecDepth 100000 in
theorem mj_e102 : mj_cd102.all (mj_okE 102) = true := by decide +kernel
set_option maxRecDepth 100000 in
theorem mj_e103 : mj_cd103.all (mj_okE 103) = true := by decide +kernel
set_option maxRecDepth 100000 in
theorem mj_e104 : mj_cd104.all (mj_okE 104) = true := by decide +kernel
set_option maxRecDepth 100000 in
theorem mj_e105 : mj_cd105.all (mj_okE 105) = true := by decide +kernel
set_option maxRecDepth 100000 in
theorem mj_e106 : mj_cd106.all (mj_okE 106) = true := by decide +kernel
set_option maxRecDepth 100000 in
theorem mj_e107 : mj_cd107.all (mj_okE 107) = true := by decide +kernel
set_option maxRecDepth 100000 in
theorem mj_e108 : mj_cd108.all (mj_okE 108) = true := by decide +kernel
set_option maxRecDepth 100000 in
theorem mj_e109 : mj_cd109.all (mj_okE 109) = true := by decide +kernel
set_option maxRecDepth 100000 in
theorem mj_e110 : mj_cd110.all (mj_okE 110) = true := by decide +kernel
set_option maxRecDepth 100000 in
theorem mj_e111 : mj_cd111.all (mj_okE 111) = true := by decide +kernel
set_option maxRecDepth 100000 in
theorem mj_e112 : mj_cd112.all (mj_okE 112) = true := by decide +kernel
set_option maxRecDepth 100000 in
theorem mj_e113_0 : (mj_cd113.take 60).all (mj_okE 113) = true := by decide +kernel
set_option maxRecDepth 100000 in
theorem mj_e113_1 : ((mj_cd113.drop 60).take 60).all (mj_okE 113) = true := by decide +kernel
set_option maxRecDepth 100000 in
theorem mj_e113_2 : ((mj_cd113.drop 60).drop 60).all (mj_okE 113) = true := by decide +kernel
theorem mj_e113 : mj_cd113.all (mj_okE 113) = true := mj_tk 60 mj_e113_0 (mj_tk 60 mj_e113_1 (mj_e113_2))
set_option maxRecDepth 100000 in
theorem mj_e114 : mj_cd114.all (mj_okE 114) = true := by decide +kernel
set_option maxRecDepth 100000 in
theorem mj_e115 : mj_cd115.all (mj_okE 115) = true := by decide +kernel
set_option maxRecDepth 100000 in
theorem mj_e116 : mj_cd116.all (mj_okE 116) = true := by decide +kernel
set_option maxRecDepth 100000 in
theorem mj_e117 : mj_cd117.all (mj_okE 117) = true := by decide +kernel
set_option maxRecDepth 100000 in
theorem mj_e118 : mj_cd118.all (mj_okE 118) = true := by decide +kernel
set_option maxRecDepth 100000 in
theorem mj_e119_0 : (mj_cd119.take 60).all (mj_okE 119) = true := by decide +kernel
set_option maxRecDepth 100000 in
theorem mj_e119_1 : (mj_cd119.drop 60).all (mj_okE 119) = true := by decide +kernel
theorem mj_e119 : mj_cd119.all (mj_okE 119) = true := mj_tk 60 mj_e119_0 (mj_e119_1)
set_option maxRecDepth 100000 in
theorem mj_e120 : mj_cd120.all (mj_okE 120) = true := by decide +kernel
set_option maxRecDepth 100000 in
theorem mj_e121_0 : (mj_cd121.take 60).all (mj_okE 121) = true := by decide +kernel
set_option maxRecDepth 100000 in
theorem mj_e121_1 : ((mj_cd121.drop 60).take 60).all (mj_okE 121) = true := by decide +kernel
set_option maxRecDepth 100000 in
theorem mj_e121_2 : ((mj_cd121.drop 60).drop 60).all (mj_okE 121) = true := by decide +kernel
theorem mj_e121 : mj_cd121.all (mj_okE 121) = true := mj_tk 60 mj_e121_0 (mj_tk 60 mj_e121_1 (mj_e121_2))
set_option maxRecDepth 100000 in
theorem mj_e122 : mj_cd122.all (mj_okE 122) = true := by decide +kernel
set_option maxRecDepth 100000 in
theorem mj_e123 : mj_cd123.all (mj_okE 123) = true := by decide +kernel
set_option maxRecDepth 100000 in
theorem mj_e124 : mj_cd124.all (mj_okE 124) = true := by decide +kernel
set_option maxRecDepth 100000 in
theorem mj_e125 : mj_cd125.all (mj_okE 125) = true := by decide +kernel
set_option maxRecDepth 100000 in
theorem mj_e126 : mj_cd126.all (mj_okE 126) = true := by decide +kernel
set_option maxRecDepth 100000 in
theorem mj_e127_0 : (mj_cd127.take 60).all (mj_okE 127) = true := by decide +kernel
set_option maxRecDepth 100000 in
theorem mj_e127_1 : ((mj_cd127.drop 60).take 60).all (mj_okE 127) = true := by decide +kernel
set_option maxRecDepth 100000 in
theorem mj_e127_2 : (((mj_cd127.drop 60).drop 60).take 60).all (mj_okE 127) = true := by decide +kernel
set_option maxRecDepth 100000 in
theorem mj_e127_3 : (((mj_cd127.drop 60).drop 60).drop 60).all (mj_okE 127) = true := by decide +kernel
theorem mj_e127 : mj_cd127.all (mj_okE 127) = true := mj_tk 60 mj_e127_0 (mj_tk 60 mj_e127_1 (mj_tk 60 mj_e127_2 (mj_e127_3)))
set_option maxRecDepth 100000 in
theorem mj_e128 : mj_cd128.all (mj_okE 128) = true := by decide +kernel
set_option maxRecDepth 100000 in
theorem mj_e129_0 : (mj_cd129.take 60).all (mj_okE 129) = true := by decide +kernel
set_option maxRecDepth 100000 in
theorem mj_e129_1 : (mj_cd129.drop 60).all (mj_okE 129) = true := by decide +kernel
theorem mj_e129 : mj_cd129.all (mj_okE 129) = true := mj_tk 60 mj_e129_0 (mj_e129_1)
set_option maxRecDepth 100000 in
theorem mj_e130_0 : (mj_cd130.take 60).all (mj_okE 130) = true := by decide +kernel
set_option maxRecDepth 100000 in
theorem mj_e130_1 : (mj_cd130.drop 60).all (mj_okE 130) = true := by decide +kernel
theorem mj_e130 : mj_cd130.all (mj_okE 130) = true := mj_tk 60 mj_e130_0 (mj_e130_1)
set_option maxRecDepth 100000 in
theorem mj_e131 : mj_cd131.all (mj_okE 131) = true := by decide +kernel
set_option maxRecDepth 100000 in
theorem mj_e132 : mj_cd132.all (mj_okE 132) = true := by decide +kernel
set_option maxRecDepth 100000 in
theorem mj_e133 : mj_cd133.all (mj_okE 133) = true := by decide +kernel
set_option maxRecDepth 100000 in
theorem mj_e134 : mj_cd134.all (mj_okE 134) = true := by decide +kernel
set_option maxRecDepth 100000 in
theorem mj_e135 : mj_cd135.all (mj_okE 135) = true := by decide +kernel
set_option maxRecDepth 100000 in
theorem mj_e136 : mj_cd136.all (mj_okE 136) = true := by decide +kernel
set_option maxRecDepth 100000 in
theorem mj_e137 : mj_cd137.all (mj_okE 137) = true := by decide +kernel
set_option maxRecDepth 100000 in
theorem mj_e138_0 : (mj_cd138.take 60).all (mj_okE 138) = true := by decide +kernel
set_option maxRecDepth 100000 in
theorem mj_e138_1 : (mj_cd138.drop 60).all (mj_okE 138) = true := by decide +kernel
theorem mj_e138 : mj_cd138.all (mj_okE 138) = true := mj_tk 60 mj_e138_0 (mj_e138_1)
set_option maxRecDepth 100000 in
theorem mj_e139 : mj_cd139.all (mj_okE 139) = true := by decide +kernel
set_option maxRecDepth 100000 in
theorem mj_e140 : mj_cd140.all (mj_okE 140) = true := by decide +kernel
set_option maxRecDepth 100000 in
theorem mj_e141 : mj_cd141.all (mj_okE 141) = true := by decide +kernel
set_option maxRecDepth 100000 in
theorem mj_e142 : mj_cd142.all (mj_okE 142) = true := by decide +kernel
set_option maxRecDepth 100000 in
theorem mj_e143 : mj_cd143.all (mj_okE 143) = true := by decide +kernel
set_option maxRecDepth 100000 in
theorem mj_e144 : mj_cd144.all (mj_okE 144) = true := by decide +kernel
set_option maxRecDepth 100000 in
theorem mj_e145_0 : (mj_cd145.take 60).all (mj_okE 145) = true := by decide +kernel
set_option maxRecDepth 100000 in
theorem mj_e145_1 : ((mj_cd145.drop 60).take 60).all (mj_okE 145) = true := by decide +kernel
set_option maxRecDepth 100000 in
theorem mj_e145_2 : ((mj_cd145.drop 60).drop 60).all (mj_okE 145) = true := by decide +kernel
theorem mj_e145 : mj_cd145.all (mj_okE 145) = true := mj_tk 60 mj_e145_0 (mj_tk 60 mj_e145_1 (mj_e145_2))
set_option maxRecDepth 100000 in
theorem mj_e146 : mj_cd146.all (mj_okE 146) = true := by decide +kernel
set_option maxRecDepth 100000 in
theorem mj_e147 : mj_cd147.all (mj_okE 147) = true := by decide +kernel
