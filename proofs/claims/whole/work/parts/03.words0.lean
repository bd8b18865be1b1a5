theorem kw_0 : Cond.initialized R_law ∈ WA := wt_1 (List.mem_of_getElem? (i := 0) (by decide +kernel)) rfl
theorem kw_1 : Cond.initialized R_SVS ∈ WA := wt_1 (List.mem_of_getElem? (i := 1) (by decide +kernel)) rfl
theorem kw_2 : Cond.initialized R_Hasher ∈ WA := wt_1 (List.mem_of_getElem? (i := 2) (by decide +kernel)) rfl
theorem kw_3 : Cond.initialized R_Message ∈ WA := wt_1 (List.mem_of_getElem? (i := 3) (by decide +kernel)) rfl
theorem kw_4 : Cond.initialized R_SecretKey ∈ WA := wt_1 (List.mem_of_getElem? (i := 4) (by decide +kernel)) rfl
theorem kw_5 : Cond.initialized R_Signing ∈ WA := wt_1 (List.mem_of_getElem? (i := 5) (by decide +kernel)) rfl
theorem kw_6 : Cond.initialized R_Transcript ∈ WA := wt_1 (List.mem_of_getElem? (i := 6) (by decide +kernel)) rfl
theorem kw_7 : Cond.initialized R_Verifying ∈ WA := wt_1 (List.mem_of_getElem? (i := 7) (by decide +kernel)) rfl
theorem kw_8 : Cond.initialized R_Md ∈ WA := wt_1 (List.mem_of_getElem? (i := 8) (by decide +kernel)) rfl
theorem kw_9 : Cond.initialized R_Arrays ∈ WA := wt_1 (List.mem_of_getElem? (i := 9) (by decide +kernel)) rfl
theorem kw_10 : Cond.initialized R_Long ∈ WA := wt_1 (List.mem_of_getElem? (i := 10) (by decide +kernel)) rfl
theorem kw_11 : Cond.initialized R_System ∈ WA := wt_1 (List.mem_of_getElem? (i := 11) (by decide +kernel)) rfl
theorem kw_12 : Cond.initialized R_Samples ∈ WA := wt_1 (List.mem_of_getElem? (i := 12) (by decide +kernel)) rfl
theorem kw_13 : Cond.initialized R_Ring ∈ WA := wt_1 (List.mem_of_getElem? (i := 13) (by decide +kernel)) rfl
theorem kw_14 : Cond.initialized R_Rounding ∈ WA := wt_1 (List.mem_of_getElem? (i := 14) (by decide +kernel)) rfl
theorem kw_15 : Cond.initialized R_Packing ∈ WA := wt_1 (List.mem_of_getElem? (i := 15) (by decide +kernel)) rfl
theorem kw_16 : Cond.initialized R_Math ∈ WA := wt_1 (List.mem_of_getElem? (i := 16) (by decide +kernel)) rfl
theorem kw_17 : Cond.classLink R_law 7 R_SVS ∈ WA := wt_1 (List.mem_of_getElem? (i := 17) (by decide +kernel)) rfl
theorem kw_18 : Cond.instantiable R_SVS 9 ∈ WA := wt_1 (List.mem_of_getElem? (i := 18) (by decide +kernel)) rfl
theorem kw_19 : Cond.methodLink R_law 9 y_SVS_init ∈ WA := wt_1 (List.mem_of_getElem? (i := 19) (by decide +kernel)) rfl
theorem kw_20 : Cond.instanceMethod y_SVS_init ∈ WA := wt_1 (List.mem_of_getElem? (i := 20) (by decide +kernel)) rfl
theorem kw_21 : Cond.code y_SVS_init b_SVS_init 1 none ∈ WA := wt_1 (List.mem_of_getElem? (i := 21) (by decide +kernel)) rfl
theorem kw_22 : Cond.methodLink R_SVS 3 objectInit ∈ WA := wt_1 (List.mem_of_getElem? (i := 22) (by decide +kernel)) rfl
theorem kw_23 : Cond.instanceMethod objectInit ∈ WA := wt_1 (List.mem_of_getElem? (i := 23) (by decide +kernel)) rfl
theorem kw_24 : Cond.code objectInit ⟨#[0xb1]⟩ 1 none ∈ WA := wt_1 (List.mem_of_getElem? (i := 24) (by decide +kernel)) rfl
theorem kw_25 : Cond.classLink R_SVS 9 R_Hasher ∈ WA := wt_1 (List.mem_of_getElem? (i := 25) (by decide +kernel)) rfl
theorem kw_26 : Cond.instantiable R_Hasher 5 ∈ WA := wt_1 (List.mem_of_getElem? (i := 26) (by decide +kernel)) rfl
theorem kw_28 : Cond.instanceMethod y_Hasher_init ∈ WA := wt_1 (List.mem_of_getElem? (i := 28) (by decide +kernel)) rfl
theorem kw_29 : Cond.code y_Hasher_init b_Hasher_init 1 none ∈ WA := wt_1 (List.mem_of_getElem? (i := 29) (by decide +kernel)) rfl
theorem kw_30 : Cond.methodLink R_Hasher 3 objectInit ∈ WA := wt_1 (List.mem_of_getElem? (i := 30) (by decide +kernel)) rfl
theorem kw_31 : Cond.fieldLink R_Hasher 11 R_Hasher "lanes" "[J" ∈ WA := wt_1 (List.mem_of_getElem? (i := 31) (by decide +kernel)) rfl
theorem kw_32 : Cond.fieldLink R_Hasher 15 R_Hasher "moved" "[J" ∈ WA := wt_1 (List.mem_of_getElem? (i := 32) (by decide +kernel)) rfl
theorem kw_33 : Cond.fieldLink R_Hasher 18 R_Hasher "columns" "[J" ∈ WA := wt_1 (List.mem_of_getElem? (i := 33) (by decide +kernel)) rfl
theorem kw_34 : Cond.fieldLink R_Hasher 21 R_Hasher "stream" "[I" ∈ WA := wt_1 (List.mem_of_getElem? (i := 34) (by decide +kernel)) rfl
theorem kw_35 : Cond.fieldLink R_Hasher 31 R_Hasher "taken" "I" ∈ WA := wt_1 (List.mem_of_getElem? (i := 35) (by decide +kernel)) rfl
theorem kw_47 : Cond.arrayClass .long ∈ WA := wt_1 (List.mem_of_getElem? (i := 47) (by decide +kernel)) rfl
theorem kw_48 : Cond.arrayClass .int ∈ WA := wt_1 (List.mem_of_getElem? (i := 48) (by decide +kernel)) rfl
theorem kw_49 : Cond.classLink R_SVS 16 R_Message ∈ WA := wt_1 (List.mem_of_getElem? (i := 49) (by decide +kernel)) rfl
theorem kw_50 : Cond.instantiable R_Message 2 ∈ WA := wt_1 (List.mem_of_getElem? (i := 50) (by decide +kernel)) rfl
theorem kw_52 : Cond.instanceMethod y_Message_init ∈ WA := wt_1 (List.mem_of_getElem? (i := 52) (by decide +kernel)) rfl
theorem kw_53 : Cond.code y_Message_init b_Message_init 1 none ∈ WA := wt_1 (List.mem_of_getElem? (i := 53) (by decide +kernel)) rfl
theorem kw_54 : Cond.methodLink R_Message 3 objectInit ∈ WA := wt_1 (List.mem_of_getElem? (i := 54) (by decide +kernel)) rfl
theorem kw_55 : Cond.fieldLink R_Message 9 R_Message "bytes" "[I" ∈ WA := wt_1 (List.mem_of_getElem? (i := 55) (by decide +kernel)) rfl
theorem kw_56 : Cond.fieldLink R_Message 15 R_Message "length" "I" ∈ WA := wt_1 (List.mem_of_getElem? (i := 56) (by decide +kernel)) rfl
theorem kw_62 : Cond.classLink R_SVS 23 R_SecretKey ∈ WA := wt_1 (List.mem_of_getElem? (i := 62) (by decide +kernel)) rfl
theorem kw_63 : Cond.instantiable R_SecretKey 9 ∈ WA := wt_1 (List.mem_of_getElem? (i := 63) (by decide +kernel)) rfl
theorem kw_65 : Cond.instanceMethod y_SecretKey_init ∈ WA := wt_1 (List.mem_of_getElem? (i := 65) (by decide +kernel)) rfl
theorem kw_66 : Cond.code y_SecretKey_init b_SecretKey_init 1 none ∈ WA := wt_1 (List.mem_of_getElem? (i := 66) (by decide +kernel)) rfl
theorem kw_67 : Cond.methodLink R_SecretKey 3 objectInit ∈ WA := wt_1 (List.mem_of_getElem? (i := 67) (by decide +kernel)) rfl
theorem kw_68 : Cond.fieldLink R_SecretKey 9 R_SecretKey "publicKey" "[I" ∈ WA := wt_1 (List.mem_of_getElem? (i := 68) (by decide +kernel)) rfl
theorem kw_70 : Cond.fieldLink R_SecretKey 15 R_SecretKey "sigma" "[I" ∈ WA := wt_1 (List.mem_of_getElem? (i := 70) (by decide +kernel)) rfl
theorem kw_71 : Cond.fieldLink R_SecretKey 18 R_SecretKey "kappa" "[I" ∈ WA := wt_1 (List.mem_of_getElem? (i := 71) (by decide +kernel)) rfl
theorem kw_73 : Cond.fieldLink R_SecretKey 21 R_SecretKey "trace" "[I" ∈ WA := wt_1 (List.mem_of_getElem? (i := 73) (by decide +kernel)) rfl
theorem kw_75 : Cond.fieldLink R_SecretKey 24 R_SecretKey "matrix" "[I" ∈ WA := wt_1 (List.mem_of_getElem? (i := 75) (by decide +kernel)) rfl
theorem kw_77 : Cond.fieldLink R_SecretKey 27 R_SecretKey "s" "[I" ∈ WA := wt_1 (List.mem_of_getElem? (i := 77) (by decide +kernel)) rfl
theorem kw_79 : Cond.fieldLink R_SecretKey 30 R_SecretKey "e" "[I" ∈ WA := wt_1 (List.mem_of_getElem? (i := 79) (by decide +kernel)) rfl
theorem kw_81 : Cond.fieldLink R_SecretKey 33 R_SecretKey "t0" "[I" ∈ WA := wt_1 (List.mem_of_getElem? (i := 81) (by decide +kernel)) rfl
theorem kw_83 : Cond.fieldLink R_SecretKey 36 R_SecretKey "product" "[I" ∈ WA := wt_1 (List.mem_of_getElem? (i := 83) (by decide +kernel)) rfl
theorem kw_103 : Cond.classLink R_SVS 30 R_Signing ∈ WA := wt_1 (List.mem_of_getElem? (i := 103) (by decide +kernel)) rfl
theorem kw_104 : Cond.instantiable R_Signing 9 ∈ WA := wt_1 (List.mem_of_getElem? (i := 104) (by decide +kernel)) rfl
theorem kw_106 : Cond.instanceMethod y_Signing_init ∈ WA := wt_1 (List.mem_of_getElem? (i := 106) (by decide +kernel)) rfl
theorem kw_107 : Cond.code y_Signing_init b_Signing_init 1 none ∈ WA := wt_1 (List.mem_of_getElem? (i := 107) (by decide +kernel)) rfl
theorem kw_108 : Cond.methodLink R_Signing 3 objectInit ∈ WA := wt_1 (List.mem_of_getElem? (i := 108) (by decide +kernel)) rfl
theorem kw_109 : Cond.classLink R_Signing 9 R_Transcript ∈ WA := wt_1 (List.mem_of_getElem? (i := 109) (by decide +kernel)) rfl
theorem kw_110 : Cond.instantiable R_Transcript 3 ∈ WA := wt_1 (List.mem_of_getElem? (i := 110) (by decide +kernel)) rfl
theorem kw_112 : Cond.instanceMethod y_Transcript_init ∈ WA := wt_1 (List.mem_of_getElem? (i := 112) (by decide +kernel)) rfl
theorem kw_113 : Cond.code y_Transcript_init b_Transcript_init 1 none ∈ WA := wt_1 (List.mem_of_getElem? (i := 113) (by decide +kernel)) rfl
theorem kw_114 : Cond.methodLink R_Transcript 3 objectInit ∈ WA := wt_1 (List.mem_of_getElem? (i := 114) (by decide +kernel)) rfl
theorem kw_115 : Cond.fieldLink R_Transcript 9 R_Transcript "mu" "[I" ∈ WA := wt_1 (List.mem_of_getElem? (i := 115) (by decide +kernel)) rfl
theorem kw_117 : Cond.fieldLink R_Transcript 15 R_Transcript "highs" "[I" ∈ WA := wt_1 (List.mem_of_getElem? (i := 117) (by decide +kernel)) rfl
theorem kw_118 : Cond.fieldLink R_Transcript 18 R_Transcript "seal" "[I" ∈ WA := wt_1 (List.mem_of_getElem? (i := 118) (by decide +kernel)) rfl
theorem kw_127 : Cond.fieldLink R_Signing 12 R_Signing "transcript" "LShortVectorSigner$Transcript;" ∈ WA := wt_1 (List.mem_of_getElem? (i := 127) (by decide +kernel)) rfl
theorem kw_128 : Cond.fieldLink R_Signing 18 R_Signing "nu" "[I" ∈ WA := wt_1 (List.mem_of_getElem? (i := 128) (by decide +kernel)) rfl
theorem kw_129 : Cond.fieldLink R_Signing 22 R_Signing "y" "[I" ∈ WA := wt_1 (List.mem_of_getElem? (i := 129) (by decide +kernel)) rfl
theorem kw_130 : Cond.fieldLink R_Signing 25 R_Signing "w" "[I" ∈ WA := wt_1 (List.mem_of_getElem? (i := 130) (by decide +kernel)) rfl
theorem kw_131 : Cond.fieldLink R_Signing 28 R_Signing "c" "[I" ∈ WA := wt_1 (List.mem_of_getElem? (i := 131) (by decide +kernel)) rfl
theorem kw_132 : Cond.fieldLink R_Signing 31 R_Signing "z" "[I" ∈ WA := wt_1 (List.mem_of_getElem? (i := 132) (by decide +kernel)) rfl
theorem kw_133 : Cond.fieldLink R_Signing 34 R_Signing "u" "[I" ∈ WA := wt_1 (List.mem_of_getElem? (i := 133) (by decide +kernel)) rfl
theorem kw_134 : Cond.fieldLink R_Signing 37 R_Signing "v" "[I" ∈ WA := wt_1 (List.mem_of_getElem? (i := 134) (by decide +kernel)) rfl
theorem kw_135 : Cond.fieldLink R_Signing 40 R_Signing "hints" "[I" ∈ WA := wt_1 (List.mem_of_getElem? (i := 135) (by decide +kernel)) rfl
theorem kw_155 : Cond.classLink R_SVS 37 R_Verifying ∈ WA := wt_1 (List.mem_of_getElem? (i := 155) (by decide +kernel)) rfl
theorem kw_156 : Cond.instantiable R_Verifying 9 ∈ WA := wt_1 (List.mem_of_getElem? (i := 156) (by decide +kernel)) rfl
theorem kw_158 : Cond.instanceMethod y_Verifying_init ∈ WA := wt_1 (List.mem_of_getElem? (i := 158) (by decide +kernel)) rfl
theorem kw_159 : Cond.code y_Verifying_init b_Verifying_init 1 none ∈ WA := wt_1 (List.mem_of_getElem? (i := 159) (by decide +kernel)) rfl
theorem kw_160 : Cond.methodLink R_Verifying 3 objectInit ∈ WA := wt_1 (List.mem_of_getElem? (i := 160) (by decide +kernel)) rfl
theorem kw_161 : Cond.classLink R_Verifying 9 R_Transcript ∈ WA := wt_1 (List.mem_of_getElem? (i := 161) (by decide +kernel)) rfl
theorem kw_163 : Cond.fieldLink R_Verifying 12 R_Verifying "transcript" "LShortVectorSigner$Transcript;" ∈ WA := wt_1 (List.mem_of_getElem? (i := 163) (by decide +kernel)) rfl
theorem kw_164 : Cond.fieldLink R_Verifying 18 R_Verifying "trace" "[I" ∈ WA := wt_1 (List.mem_of_getElem? (i := 164) (by decide +kernel)) rfl
theorem kw_165 : Cond.fieldLink R_Verifying 22 R_Verifying "matrix" "[I" ∈ WA := wt_1 (List.mem_of_getElem? (i := 165) (by decide +kernel)) rfl
theorem kw_166 : Cond.fieldLink R_Verifying 25 R_Verifying "scaledT1" "[I" ∈ WA := wt_1 (List.mem_of_getElem? (i := 166) (by decide +kernel)) rfl
theorem kw_167 : Cond.fieldLink R_Verifying 28 R_Verifying "z" "[I" ∈ WA := wt_1 (List.mem_of_getElem? (i := 167) (by decide +kernel)) rfl
theorem kw_168 : Cond.fieldLink R_Verifying 31 R_Verifying "c" "[I" ∈ WA := wt_1 (List.mem_of_getElem? (i := 168) (by decide +kernel)) rfl
theorem kw_169 : Cond.fieldLink R_Verifying 34 R_Verifying "hints" "[I" ∈ WA := wt_1 (List.mem_of_getElem? (i := 169) (by decide +kernel)) rfl
theorem kw_170 : Cond.fieldLink R_Verifying 37 R_Verifying "byMatrix" "[I" ∈ WA := wt_1 (List.mem_of_getElem? (i := 170) (by decide +kernel)) rfl
theorem kw_171 : Cond.fieldLink R_Verifying 40 R_Verifying "byBall" "[I" ∈ WA := wt_1 (List.mem_of_getElem? (i := 171) (by decide +kernel)) rfl
theorem kw_191 : Cond.fieldLink R_SVS 12 R_SVS "hasher" "LShortVectorSigner$Hasher;" ∈ WA := wt_1 (List.mem_of_getElem? (i := 191) (by decide +kernel)) rfl
theorem kw_192 : Cond.fieldLink R_SVS 19 R_SVS "message" "LShortVectorSigner$Message;" ∈ WA := wt_1 (List.mem_of_getElem? (i := 192) (by decide +kernel)) rfl
theorem kw_193 : Cond.fieldLink R_SVS 26 R_SVS "secretKey" "LShortVectorSigner$SecretKey;" ∈ WA := wt_1 (List.mem_of_getElem? (i := 193) (by decide +kernel)) rfl
theorem kw_194 : Cond.fieldLink R_SVS 33 R_SVS "signing" "LShortVectorSigner$Signing;" ∈ WA := wt_1 (List.mem_of_getElem? (i := 194) (by decide +kernel)) rfl
theorem kw_195 : Cond.fieldLink R_SVS 40 R_SVS "verifying" "LShortVectorSigner$Verifying;" ∈ WA := wt_1 (List.mem_of_getElem? (i := 195) (by decide +kernel)) rfl
theorem kw_196 : Cond.fieldLink R_SVS 44 R_SVS "publicKey" "[I" ∈ WA := wt_1 (List.mem_of_getElem? (i := 196) (by decide +kernel)) rfl
theorem kw_197 : Cond.fieldLink R_SVS 48 R_SVS "signature" "[I" ∈ WA := wt_1 (List.mem_of_getElem? (i := 197) (by decide +kernel)) rfl
theorem kw_198 : Cond.fieldLink R_SVS 51 R_SVS "ballShown" "[I" ∈ WA := wt_1 (List.mem_of_getElem? (i := 198) (by decide +kernel)) rfl
theorem kw_199 : Cond.fieldLink R_SVS 54 R_SVS "hasKey" "Z" ∈ WA := wt_1 (List.mem_of_getElem? (i := 199) (by decide +kernel)) rfl
theorem kw_219 : Cond.methodLink R_law 15 y_SVS_key ∈ WA := wt_1 (List.mem_of_getElem? (i := 219) (by decide +kernel)) rfl
theorem kw_220 : Cond.instanceMethod y_SVS_key ∈ WA := wt_1 (List.mem_of_getElem? (i := 220) (by decide +kernel)) rfl
theorem kw_221 : Cond.selects R_SVS y_SVS_key y_SVS_key ∈ WA := wt_1 (List.mem_of_getElem? (i := 221) (by decide +kernel)) rfl
theorem kw_222 : Cond.code y_SVS_key b_SVS_key 3 none ∈ WA := wt_1 (List.mem_of_getElem? (i := 222) (by decide +kernel)) rfl
theorem kw_223 : Cond.methodLink R_SVS 58 y_SecretKey_derive ∈ WA := wt_1 (List.mem_of_getElem? (i := 223) (by decide +kernel)) rfl
theorem kw_224 : Cond.instanceMethod y_SecretKey_derive ∈ WA := wt_1 (List.mem_of_getElem? (i := 224) (by decide +kernel)) rfl
theorem kw_225 : Cond.selects R_SecretKey y_SecretKey_derive y_SecretKey_derive ∈ WA := wt_1 (List.mem_of_getElem? (i := 225) (by decide +kernel)) rfl
theorem kw_226 : Cond.code y_SecretKey_derive b_SecretKey_derive 5 none ∈ WA := wt_1 (List.mem_of_getElem? (i := 226) (by decide +kernel)) rfl
theorem kw_227 : Cond.methodLink R_SecretKey 39 y_Hasher_begin ∈ WA := wt_1 (List.mem_of_getElem? (i := 227) (by decide +kernel)) rfl
theorem kw_228 : Cond.instanceMethod y_Hasher_begin ∈ WA := wt_1 (List.mem_of_getElem? (i := 228) (by decide +kernel)) rfl
theorem kw_229 : Cond.selects R_Hasher y_Hasher_begin y_Hasher_begin ∈ WA := wt_1 (List.mem_of_getElem? (i := 229) (by decide +kernel)) rfl
theorem kw_230 : Cond.code y_Hasher_begin b_Hasher_begin 1 none ∈ WA := wt_1 (List.mem_of_getElem? (i := 230) (by decide +kernel)) rfl
theorem kw_231 : Cond.methodLink R_Hasher 25 y_Arrays_fill_JJ ∈ WA := wt_1 (List.mem_of_getElem? (i := 231) (by decide +kernel)) rfl
theorem kw_232 : Cond.static y_Arrays_fill_JJ ∈ WA := wt_1 (List.mem_of_getElem? (i := 232) (by decide +kernel)) rfl
theorem kw_233 : Cond.code y_Arrays_fill_JJ b_Arrays_fill_JJ 5 none ∈ WA := wt_1 (List.mem_of_getElem? (i := 233) (by decide +kernel)) rfl
theorem kw_234 : Cond.methodLink R_SecretKey 44 y_Hasher_takeLong ∈ WA := wt_1 (List.mem_of_getElem? (i := 234) (by decide +kernel)) rfl
theorem kw_235 : Cond.instanceMethod y_Hasher_takeLong ∈ WA := wt_1 (List.mem_of_getElem? (i := 235) (by decide +kernel)) rfl
theorem kw_236 : Cond.selects R_Hasher y_Hasher_takeLong y_Hasher_takeLong ∈ WA := wt_1 (List.mem_of_getElem? (i := 236) (by decide +kernel)) rfl
theorem kw_237 : Cond.code y_Hasher_takeLong b_Hasher_takeLong 4 none ∈ WA := wt_1 (List.mem_of_getElem? (i := 237) (by decide +kernel)) rfl
theorem kw_238 : Cond.methodLink R_Hasher 43 y_Hasher_take ∈ WA := wt_1 (List.mem_of_getElem? (i := 238) (by decide +kernel)) rfl
theorem kw_239 : Cond.instanceMethod y_Hasher_take ∈ WA := wt_1 (List.mem_of_getElem? (i := 239) (by decide +kernel)) rfl
theorem kw_240 : Cond.selects R_Hasher y_Hasher_take y_Hasher_take ∈ WA := wt_2 (List.mem_of_getElem? (i := 0) (by decide +kernel)) rfl
theorem kw_241 : Cond.code y_Hasher_take b_Hasher_take 2 none ∈ WA := wt_2 (List.mem_of_getElem? (i := 1) (by decide +kernel)) rfl
theorem kw_242 : Cond.methodLink R_Hasher 35 y_Hasher_mixByte ∈ WA := wt_2 (List.mem_of_getElem? (i := 2) (by decide +kernel)) rfl
theorem kw_244 : Cond.instanceMethod y_Hasher_mixByte ∈ WA := wt_2 (List.mem_of_getElem? (i := 4) (by decide +kernel)) rfl
theorem kw_245 : Cond.code y_Hasher_mixByte b_Hasher_mixByte 3 none ∈ WA := wt_2 (List.mem_of_getElem? (i := 5) (by decide +kernel)) rfl
theorem kw_246 : Cond.methodLink R_SecretKey 48 y_Hasher_finish ∈ WA := wt_2 (List.mem_of_getElem? (i := 6) (by decide +kernel)) rfl
theorem kw_247 : Cond.instanceMethod y_Hasher_finish ∈ WA := wt_2 (List.mem_of_getElem? (i := 7) (by decide +kernel)) rfl
theorem kw_248 : Cond.selects R_Hasher y_Hasher_finish y_Hasher_finish ∈ WA := wt_2 (List.mem_of_getElem? (i := 8) (by decide +kernel)) rfl
theorem kw_249 : Cond.code y_Hasher_finish b_Hasher_finish 2 (some (.array .int)) ∈ WA := wt_2 (List.mem_of_getElem? (i := 9) (by decide +kernel)) rfl
theorem kw_250 : Cond.methodLink R_Hasher 47 y_Hasher_mixColumns ∈ WA := wt_2 (List.mem_of_getElem? (i := 10) (by decide +kernel)) rfl
theorem kw_252 : Cond.instanceMethod y_Hasher_mixColumns ∈ WA := wt_2 (List.mem_of_getElem? (i := 12) (by decide +kernel)) rfl
theorem kw_253 : Cond.code y_Hasher_mixColumns b_Hasher_mixColumns 2 none ∈ WA := wt_2 (List.mem_of_getElem? (i := 13) (by decide +kernel)) rfl
theorem kw_254 : Cond.methodLink R_Hasher 59 y_Long_rotateLeft ∈ WA := wt_2 (List.mem_of_getElem? (i := 14) (by decide +kernel)) rfl
theorem kw_255 : Cond.static y_Long_rotateLeft ∈ WA := wt_2 (List.mem_of_getElem? (i := 15) (by decide +kernel)) rfl
theorem kw_256 : Cond.code y_Long_rotateLeft b_Long_rotateLeft 3 (some .long) ∈ WA := wt_2 (List.mem_of_getElem? (i := 16) (by decide +kernel)) rfl
theorem kw_257 : Cond.methodLink R_Hasher 50 y_Hasher_moveLanes ∈ WA := wt_2 (List.mem_of_getElem? (i := 17) (by decide +kernel)) rfl
theorem kw_259 : Cond.instanceMethod y_Hasher_moveLanes ∈ WA := wt_2 (List.mem_of_getElem? (i := 19) (by decide +kernel)) rfl
theorem kw_260 : Cond.code y_Hasher_moveLanes b_Hasher_moveLanes 4 none ∈ WA := wt_2 (List.mem_of_getElem? (i := 20) (by decide +kernel)) rfl
theorem kw_261 : Cond.fieldLink R_Hasher 65 R_Hasher "ROTATIONS" "[I" ∈ WA := wt_2 (List.mem_of_getElem? (i := 21) (by decide +kernel)) rfl
theorem kw_263 : Cond.methodLink R_Hasher 53 y_Hasher_mixRows ∈ WA := wt_2 (List.mem_of_getElem? (i := 23) (by decide +kernel)) rfl
theorem kw_265 : Cond.instanceMethod y_Hasher_mixRows ∈ WA := wt_2 (List.mem_of_getElem? (i := 25) (by decide +kernel)) rfl
theorem kw_266 : Cond.code y_Hasher_mixRows b_Hasher_mixRows 3 none ∈ WA := wt_2 (List.mem_of_getElem? (i := 26) (by decide +kernel)) rfl
theorem kw_267 : Cond.constantLong R_Hasher 68 (-1) ∈ WA := wt_2 (List.mem_of_getElem? (i := 27) (by decide +kernel)) rfl
theorem kw_268 : Cond.fieldLink R_Hasher 56 R_Hasher "ROUND_BITS" "[J" ∈ WA := wt_2 (List.mem_of_getElem? (i := 28) (by decide +kernel)) rfl
theorem kw_270 : Cond.methodLink R_SecretKey 52 arraycopyName ∈ WA := wt_2 (List.mem_of_getElem? (i := 30) (by decide +kernel)) rfl
theorem kw_271 : Cond.static arraycopyName ∈ WA := wt_2 (List.mem_of_getElem? (i := 31) (by decide +kernel)) rfl
theorem kw_272 : Cond.native arraycopyName ∈ WA := wt_2 (List.mem_of_getElem? (i := 32) (by decide +kernel)) rfl
theorem kw_273 : Cond.methodLink R_SecretKey 58 y_Samples_fillMatrix ∈ WA := wt_2 (List.mem_of_getElem? (i := 33) (by decide +kernel)) rfl
theorem kw_274 : Cond.static y_Samples_fillMatrix ∈ WA := wt_2 (List.mem_of_getElem? (i := 34) (by decide +kernel)) rfl
theorem kw_275 : Cond.code y_Samples_fillMatrix b_Samples_fillMatrix 4 none ∈ WA := wt_2 (List.mem_of_getElem? (i := 35) (by decide +kernel)) rfl
theorem kw_276 : Cond.methodLink R_Samples 9 y_Samples_streamOf ∈ WA := wt_2 (List.mem_of_getElem? (i := 36) (by decide +kernel)) rfl
theorem kw_277 : Cond.static y_Samples_streamOf ∈ WA := wt_2 (List.mem_of_getElem? (i := 37) (by decide +kernel)) rfl
theorem kw_278 : Cond.code y_Samples_streamOf b_Samples_streamOf 4 (some (.array .int)) ∈ WA := wt_2 (List.mem_of_getElem? (i := 38) (by decide +kernel)) rfl
theorem kw_279 : Cond.methodLink R_Samples 25 y_Hasher_begin ∈ WA := wt_2 (List.mem_of_getElem? (i := 39) (by decide +kernel)) rfl
theorem kw_280 : Cond.methodLink R_Samples 30 y_Hasher_takeFirst ∈ WA := wt_2 (List.mem_of_getElem? (i := 40) (by decide +kernel)) rfl
theorem kw_281 : Cond.instanceMethod y_Hasher_takeFirst ∈ WA := wt_2 (List.mem_of_getElem? (i := 41) (by decide +kernel)) rfl
theorem kw_282 : Cond.selects R_Hasher y_Hasher_takeFirst y_Hasher_takeFirst ∈ WA := wt_2 (List.mem_of_getElem? (i := 42) (by decide +kernel)) rfl
theorem kw_283 : Cond.code y_Hasher_takeFirst b_Hasher_takeFirst 4 none ∈ WA := wt_2 (List.mem_of_getElem? (i := 43) (by decide +kernel)) rfl
theorem kw_284 : Cond.methodLink R_Samples 47 y_Hasher_take ∈ WA := wt_2 (List.mem_of_getElem? (i := 44) (by decide +kernel)) rfl
theorem kw_285 : Cond.methodLink R_Samples 34 y_Hasher_finish ∈ WA := wt_2 (List.mem_of_getElem? (i := 45) (by decide +kernel)) rfl
theorem kw_286 : Cond.methodLink R_Samples 15 y_Samples_fillUniform ∈ WA := wt_2 (List.mem_of_getElem? (i := 46) (by decide +kernel)) rfl
theorem kw_287 : Cond.static y_Samples_fillUniform ∈ WA := wt_2 (List.mem_of_getElem? (i := 47) (by decide +kernel)) rfl
theorem kw_288 : Cond.code y_Samples_fillUniform b_Samples_fillUniform 6 none ∈ WA := wt_2 (List.mem_of_getElem? (i := 48) (by decide +kernel)) rfl
theorem kw_289 : Cond.constant R_Samples 51 (8380417) ∈ WA := wt_2 (List.mem_of_getElem? (i := 49) (by decide +kernel)) rfl
theorem kw_291 : Cond.static y_SVS_clearRest ∈ WA := wt_2 (List.mem_of_getElem? (i := 51) (by decide +kernel)) rfl
theorem kw_292 : Cond.code y_SVS_clearRest b_SVS_clearRest 5 none ∈ WA := wt_2 (List.mem_of_getElem? (i := 52) (by decide +kernel)) rfl
theorem kw_293 : Cond.methodLink R_SecretKey 64 y_Samples_fillSmallVector ∈ WA := wt_2 (List.mem_of_getElem? (i := 53) (by decide +kernel)) rfl
theorem kw_294 : Cond.static y_Samples_fillSmallVector ∈ WA := wt_2 (List.mem_of_getElem? (i := 54) (by decide +kernel)) rfl
theorem kw_295 : Cond.code y_Samples_fillSmallVector b_Samples_fillSmallVector 4 none ∈ WA := wt_2 (List.mem_of_getElem? (i := 55) (by decide +kernel)) rfl
theorem kw_296 : Cond.methodLink R_Samples 19 y_Samples_fillSmall ∈ WA := wt_2 (List.mem_of_getElem? (i := 56) (by decide +kernel)) rfl
theorem kw_297 : Cond.static y_Samples_fillSmall ∈ WA := wt_2 (List.mem_of_getElem? (i := 57) (by decide +kernel)) rfl
theorem kw_298 : Cond.code y_Samples_fillSmall b_Samples_fillSmall 6 none ∈ WA := wt_2 (List.mem_of_getElem? (i := 58) (by decide +kernel)) rfl
theorem kw_299 : Cond.methodLink R_SecretKey 68 y_SecretKey_splitT ∈ WA := wt_2 (List.mem_of_getElem? (i := 59) (by decide +kernel)) rfl
theorem kw_301 : Cond.instanceMethod y_SecretKey_splitT ∈ WA := wt_2 (List.mem_of_getElem? (i := 61) (by decide +kernel)) rfl
theorem kw_302 : Cond.code y_SecretKey_splitT b_SecretKey_splitT 3 none ∈ WA := wt_2 (List.mem_of_getElem? (i := 62) (by decide +kernel)) rfl
theorem kw_303 : Cond.methodLink R_SecretKey 74 y_Ring_applyMatrix ∈ WA := wt_2 (List.mem_of_getElem? (i := 63) (by decide +kernel)) rfl
theorem kw_304 : Cond.static y_Ring_applyMatrix ∈ WA := wt_2 (List.mem_of_getElem? (i := 64) (by decide +kernel)) rfl
theorem kw_305 : Cond.code y_Ring_applyMatrix b_Ring_applyMatrix 4 none ∈ WA := wt_2 (List.mem_of_getElem? (i := 65) (by decide +kernel)) rfl
theorem kw_306 : Cond.methodLink R_Ring 32 y_Ring_productAt ∈ WA := wt_2 (List.mem_of_getElem? (i := 66) (by decide +kernel)) rfl
theorem kw_307 : Cond.static y_Ring_productAt ∈ WA := wt_2 (List.mem_of_getElem? (i := 67) (by decide +kernel)) rfl
theorem kw_308 : Cond.code y_Ring_productAt b_Ring_productAt 8 (some .long) ∈ WA := wt_2 (List.mem_of_getElem? (i := 68) (by decide +kernel)) rfl
theorem kw_309 : Cond.methodLink R_Ring 11 y_Ring_reduce ∈ WA := wt_2 (List.mem_of_getElem? (i := 69) (by decide +kernel)) rfl
theorem kw_310 : Cond.static y_Ring_reduce ∈ WA := wt_2 (List.mem_of_getElem? (i := 70) (by decide +kernel)) rfl
theorem kw_311 : Cond.code y_Ring_reduce b_Ring_reduce 4 (some .int) ∈ WA := wt_2 (List.mem_of_getElem? (i := 71) (by decide +kernel)) rfl
theorem kw_312 : Cond.constantLong R_Ring 9 (8380417) ∈ WA := wt_2 (List.mem_of_getElem? (i := 72) (by decide +kernel)) rfl
theorem kw_313 : Cond.methodLink R_SecretKey 80 y_Ring_reduce ∈ WA := wt_2 (List.mem_of_getElem? (i := 73) (by decide +kernel)) rfl
theorem kw_314 : Cond.methodLink R_SecretKey 84 y_Rounding_lowerPart ∈ WA := wt_2 (List.mem_of_getElem? (i := 74) (by decide +kernel)) rfl
theorem kw_315 : Cond.static y_Rounding_lowerPart ∈ WA := wt_2 (List.mem_of_getElem? (i := 75) (by decide +kernel)) rfl
theorem kw_316 : Cond.code y_Rounding_lowerPart b_Rounding_lowerPart 1 (some .int) ∈ WA := wt_2 (List.mem_of_getElem? (i := 76) (by decide +kernel)) rfl
theorem kw_317 : Cond.methodLink R_Rounding 11 y_Rounding_restOf ∈ WA := wt_2 (List.mem_of_getElem? (i := 77) (by decide +kernel)) rfl
theorem kw_318 : Cond.static y_Rounding_restOf ∈ WA := wt_2 (List.mem_of_getElem? (i := 78) (by decide +kernel)) rfl
theorem kw_319 : Cond.code y_Rounding_restOf b_Rounding_restOf 3 (some .int) ∈ WA := wt_2 (List.mem_of_getElem? (i := 79) (by decide +kernel)) rfl
theorem kw_320 : Cond.methodLink R_SecretKey 90 y_Packing_write ∈ WA := wt_2 (List.mem_of_getElem? (i := 80) (by decide +kernel)) rfl
theorem kw_321 : Cond.static y_Packing_write ∈ WA := wt_2 (List.mem_of_getElem? (i := 81) (by decide +kernel)) rfl
theorem kw_322 : Cond.code y_Packing_write b_Packing_write 9 none ∈ WA := wt_2 (List.mem_of_getElem? (i := 82) (by decide +kernel)) rfl
theorem kw_323 : Cond.methodLink R_SecretKey 71 y_SecretKey_fillTrace ∈ WA := wt_2 (List.mem_of_getElem? (i := 83) (by decide +kernel)) rfl
theorem kw_324 : Cond.static y_SecretKey_fillTrace ∈ WA := wt_2 (List.mem_of_getElem? (i := 84) (by decide +kernel)) rfl
theorem kw_325 : Cond.code y_SecretKey_fillTrace b_SecretKey_fillTrace 3 none ∈ WA := wt_2 (List.mem_of_getElem? (i := 85) (by decide +kernel)) rfl
theorem kw_326 : Cond.methodLink R_SecretKey 96 y_Hasher_takeAll ∈ WA := wt_2 (List.mem_of_getElem? (i := 86) (by decide +kernel)) rfl
theorem kw_327 : Cond.instanceMethod y_Hasher_takeAll ∈ WA := wt_2 (List.mem_of_getElem? (i := 87) (by decide +kernel)) rfl
theorem kw_328 : Cond.selects R_Hasher y_Hasher_takeAll y_Hasher_takeAll ∈ WA := wt_2 (List.mem_of_getElem? (i := 88) (by decide +kernel)) rfl
theorem kw_329 : Cond.code y_Hasher_takeAll b_Hasher_takeAll 2 none ∈ WA := wt_2 (List.mem_of_getElem? (i := 89) (by decide +kernel)) rfl
theorem kw_330 : Cond.methodLink R_Hasher 39 y_Hasher_takeFirst ∈ WA := wt_2 (List.mem_of_getElem? (i := 90) (by decide +kernel)) rfl
theorem kw_331 : Cond.methodLink R_SVS 63 arraycopyName ∈ WA := wt_2 (List.mem_of_getElem? (i := 91) (by decide +kernel)) rfl
theorem kw_332 : Cond.methodLink R_law 20 y_SVS_say ∈ WA := wt_2 (List.mem_of_getElem? (i := 92) (by decide +kernel)) rfl
theorem kw_333 : Cond.instanceMethod y_SVS_say ∈ WA := wt_2 (List.mem_of_getElem? (i := 93) (by decide +kernel)) rfl
theorem kw_334 : Cond.selects R_SVS y_SVS_say y_SVS_say ∈ WA := wt_2 (List.mem_of_getElem? (i := 94) (by decide +kernel)) rfl
theorem kw_335 : Cond.code y_SVS_say b_SVS_say 2 (some .boolean) ∈ WA := wt_2 (List.mem_of_getElem? (i := 95) (by decide +kernel)) rfl
theorem kw_336 : Cond.methodLink R_SVS 69 y_SVS_isByte ∈ WA := wt_2 (List.mem_of_getElem? (i := 96) (by decide +kernel)) rfl
theorem kw_337 : Cond.static y_SVS_isByte ∈ WA := wt_2 (List.mem_of_getElem? (i := 97) (by decide +kernel)) rfl
theorem kw_338 : Cond.code y_SVS_isByte b_SVS_isByte 1 (some .boolean) ∈ WA := wt_2 (List.mem_of_getElem? (i := 98) (by decide +kernel)) rfl
theorem kw_339 : Cond.methodLink R_SVS 73 y_Message_add ∈ WA := wt_2 (List.mem_of_getElem? (i := 99) (by decide +kernel)) rfl
theorem kw_340 : Cond.instanceMethod y_Message_add ∈ WA := wt_2 (List.mem_of_getElem? (i := 100) (by decide +kernel)) rfl
theorem kw_341 : Cond.selects R_Message y_Message_add y_Message_add ∈ WA := wt_2 (List.mem_of_getElem? (i := 101) (by decide +kernel)) rfl
theorem kw_342 : Cond.code y_Message_add b_Message_add 2 (some .boolean) ∈ WA := wt_2 (List.mem_of_getElem? (i := 102) (by decide +kernel)) rfl
theorem kw_343 : Cond.methodLink R_law 25 y_SVS_hush ∈ WA := wt_2 (List.mem_of_getElem? (i := 103) (by decide +kernel)) rfl
theorem kw_344 : Cond.instanceMethod y_SVS_hush ∈ WA := wt_2 (List.mem_of_getElem? (i := 104) (by decide +kernel)) rfl
theorem kw_345 : Cond.selects R_SVS y_SVS_hush y_SVS_hush ∈ WA := wt_2 (List.mem_of_getElem? (i := 105) (by decide +kernel)) rfl
theorem kw_346 : Cond.code y_SVS_hush b_SVS_hush 1 none ∈ WA := wt_2 (List.mem_of_getElem? (i := 106) (by decide +kernel)) rfl
theorem kw_347 : Cond.methodLink R_SVS 76 y_Message_clear ∈ WA := wt_2 (List.mem_of_getElem? (i := 107) (by decide +kernel)) rfl
theorem kw_348 : Cond.instanceMethod y_Message_clear ∈ WA := wt_2 (List.mem_of_getElem? (i := 108) (by decide +kernel)) rfl
theorem kw_349 : Cond.selects R_Message y_Message_clear y_Message_clear ∈ WA := wt_2 (List.mem_of_getElem? (i := 109) (by decide +kernel)) rfl
theorem kw_350 : Cond.code y_Message_clear b_Message_clear 1 none ∈ WA := wt_2 (List.mem_of_getElem? (i := 110) (by decide +kernel)) rfl
theorem kw_351 : Cond.methodLink R_law 29 y_SVS_sign ∈ WA := wt_2 (List.mem_of_getElem? (i := 111) (by decide +kernel)) rfl
theorem kw_352 : Cond.instanceMethod y_SVS_sign ∈ WA := wt_2 (List.mem_of_getElem? (i := 112) (by decide +kernel)) rfl
theorem kw_353 : Cond.selects R_SVS y_SVS_sign y_SVS_sign ∈ WA := wt_2 (List.mem_of_getElem? (i := 113) (by decide +kernel)) rfl
theorem kw_354 : Cond.code y_SVS_sign b_SVS_sign 5 (some .int) ∈ WA := wt_2 (List.mem_of_getElem? (i := 114) (by decide +kernel)) rfl
theorem kw_355 : Cond.methodLink R_SVS 79 y_Signing_open ∈ WA := wt_2 (List.mem_of_getElem? (i := 115) (by decide +kernel)) rfl
theorem kw_356 : Cond.instanceMethod y_Signing_open ∈ WA := wt_2 (List.mem_of_getElem? (i := 116) (by decide +kernel)) rfl
theorem kw_357 : Cond.selects R_Signing y_Signing_open y_Signing_open ∈ WA := wt_2 (List.mem_of_getElem? (i := 117) (by decide +kernel)) rfl
theorem kw_358 : Cond.code y_Signing_open b_Signing_open 6 none ∈ WA := wt_2 (List.mem_of_getElem? (i := 118) (by decide +kernel)) rfl
theorem kw_359 : Cond.methodLink R_Signing 48 y_Transcript_open ∈ WA := wt_2 (List.mem_of_getElem? (i := 119) (by decide +kernel)) rfl
theorem kw_360 : Cond.instanceMethod y_Transcript_open ∈ WA := wt_2 (List.mem_of_getElem? (i := 120) (by decide +kernel)) rfl
theorem kw_361 : Cond.selects R_Transcript y_Transcript_open y_Transcript_open ∈ WA := wt_2 (List.mem_of_getElem? (i := 121) (by decide +kernel)) rfl
theorem kw_362 : Cond.code y_Transcript_open b_Transcript_open 4 none ∈ WA := wt_2 (List.mem_of_getElem? (i := 122) (by decide +kernel)) rfl
theorem kw_363 : Cond.methodLink R_Transcript 21 y_Hasher_begin ∈ WA := wt_2 (List.mem_of_getElem? (i := 123) (by decide +kernel)) rfl
theorem kw_364 : Cond.methodLink R_Transcript 26 y_Hasher_takeAll ∈ WA := wt_2 (List.mem_of_getElem? (i := 124) (by decide +kernel)) rfl
theorem kw_365 : Cond.methodLink R_Transcript 30 y_Message_feed ∈ WA := wt_2 (List.mem_of_getElem? (i := 125) (by decide +kernel)) rfl
theorem kw_366 : Cond.instanceMethod y_Message_feed ∈ WA := wt_2 (List.mem_of_getElem? (i := 126) (by decide +kernel)) rfl
theorem kw_367 : Cond.selects R_Message y_Message_feed y_Message_feed ∈ WA := wt_2 (List.mem_of_getElem? (i := 127) (by decide +kernel)) rfl
theorem kw_368 : Cond.code y_Message_feed b_Message_feed 2 none ∈ WA := wt_2 (List.mem_of_getElem? (i := 128) (by decide +kernel)) rfl
theorem kw_369 : Cond.methodLink R_Message 19 y_Hasher_takeFirst ∈ WA := wt_2 (List.mem_of_getElem? (i := 129) (by decide +kernel)) rfl
theorem kw_370 : Cond.methodLink R_Transcript 36 y_Hasher_finish ∈ WA := wt_2 (List.mem_of_getElem? (i := 130) (by decide +kernel)) rfl
theorem kw_371 : Cond.methodLink R_Transcript 40 arraycopyName ∈ WA := wt_2 (List.mem_of_getElem? (i := 131) (by decide +kernel)) rfl
theorem kw_372 : Cond.methodLink R_Signing 52 y_Hasher_begin ∈ WA := wt_2 (List.mem_of_getElem? (i := 132) (by decide +kernel)) rfl
