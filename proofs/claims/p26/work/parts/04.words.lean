def GW : List Cond := lw_tbl.filter goodWord
theorem gw_of {w : Cond} (i : Nat) (h : lw_tbl[i]? = some w) (hg : goodWord w = true) : w ∈ GW := List.mem_filter.mpr ⟨List.mem_of_getElem? h, hg⟩
theorem gw_sub {ws : List Cond} (ps : List Nat) (hp : ws = ps.filterMap (fun i => lw_tbl[i]?)) (hg : ws.all goodWord = true) : ∀ w ∈ ws, w ∈ GW := by
  intro w hw
  have h1 := List.all_eq_true.mp hg w hw
  rw [hp] at hw
  obtain ⟨i, -, hi⟩ := List.mem_filterMap.mp hw
  exact gw_of i hi h1
theorem gw_tbl : ∀ w ∈ GW, w ∈ lw_tbl := fun w h => (List.mem_filter.mp h).1
theorem wl_0 : Cond.classLink RL 10 RX6 ∈ GW := gw_of 26 (by decide +kernel) rfl
theorem wl_1 : Cond.instantiable RX6 5 ∈ GW := gw_of 27 (by decide +kernel) rfl
theorem wl_2 : Cond.initialized RX6 ∈ GW := gw_of 16 (by decide +kernel) rfl
theorem wl_3 : Cond.constant RL 98 (-2000000002) ∈ GW := gw_of 637 (by decide +kernel) rfl
theorem wl_4 : Cond.constant RL 20 (-2000000004) ∈ GW := gw_of 592 (by decide +kernel) rfl
theorem wl_5 : Cond.constant RL 60 (-2000000003) ∈ GW := gw_of 622 (by decide +kernel) rfl
theorem wl_6 : Cond.methodLink RL 93 yX6_init ∈ GW := gw_of 28 (by decide +kernel) rfl
theorem wl_7 : Cond.instanceMethod yX6_init ∈ GW := gw_of 29 (by decide +kernel) rfl
set_option maxRecDepth 100000 in
theorem wl_8 : Cond.code yX6_init cX6_init 2 none ∈ GW := gw_of 30 rfl rfl
theorem wl_9 : Cond.methodLink RX6 3 objectInit ∈ GW := gw_of 31 (by decide +kernel) rfl
theorem wl_10 : Cond.instanceMethod objectInit ∈ GW := gw_of 32 (by decide +kernel) rfl
theorem wl_11 : Cond.code objectInit ⟨#[0xb1]⟩ 1 none ∈ GW := gw_of 33 (by decide +kernel) rfl
theorem wl_12 : Cond.classLink RX6 9 RX5 ∈ GW := gw_of 34 (by decide +kernel) rfl
theorem wl_13 : Cond.instantiable RX5 11 ∈ GW := gw_of 35 (by decide +kernel) rfl
theorem wl_14 : Cond.initialized RX5 ∈ GW := gw_of 17 (by decide +kernel) rfl
theorem wl_15 : Cond.fieldLink RX6 12 "IceTongue" "trial" "LIceTongue$Tongue;" ∈ GW := gw_of 240 (by decide +kernel) rfl
theorem wl_16 : Cond.fieldLink RX6 16 "IceTongue" "history" "[LIceTongue$Tongue;" ∈ GW := gw_of 241 (by decide +kernel) rfl
theorem wl_17 : Cond.classLink RX6 20 RX4 ∈ GW := gw_of 225 (by decide +kernel) rfl
theorem wl_18 : Cond.instantiable RX4 2 ∈ GW := gw_of 226 (by decide +kernel) rfl
theorem wl_19 : Cond.initialized RX4 ∈ GW := gw_of 22 (by decide +kernel) rfl
theorem wl_20 : Cond.fieldLink RX6 23 "IceTongue" "text" "LIceTongue$Text;" ∈ GW := gw_of 242 (by decide +kernel) rfl
theorem wl_21 : Cond.fieldLink RX6 27 "IceTongue" "now" "LIceTongue$Tongue;" ∈ GW := gw_of 243 (by decide +kernel) rfl
theorem wl_22 : Cond.fieldLink RX6 30 "IceTongue" "states" "I" ∈ GW := gw_of 244 (by decide +kernel) rfl
theorem wl_23 : Cond.methodLink RX6 11 yX5_init ∈ GW := gw_of 36 (by decide +kernel) rfl
theorem wl_24 : Cond.instanceMethod yX5_init ∈ GW := gw_of 37 (by decide +kernel) rfl
set_option maxRecDepth 100000 in
theorem wl_25 : Cond.code yX5_init cX5_init 2 none ∈ GW := gw_of 38 rfl rfl
theorem wl_26 : Cond.methodLink RX5 3 objectInit ∈ GW := gw_of 39 (by decide +kernel) rfl
theorem wl_27 : Cond.methodLink RX5 13 ⟨"[I", "clone", "()Ljava/lang/Object;"⟩ ∈ GW := gw_of 42 (by decide +kernel) rfl
theorem wl_28 : Cond.sameMethod "[I" "java/lang/Object" "clone" "()Ljava/lang/Object;" ∈ GW := gw_of 43 (by decide +kernel) rfl
theorem wl_29 : Cond.native ⟨"java/lang/Object", "clone", "()Ljava/lang/Object;"⟩ ∈ GW := gw_of 44 (by decide +kernel) rfl
theorem wl_30 : Cond.instanceMethod ⟨"java/lang/Object", "clone", "()Ljava/lang/Object;"⟩ ∈ GW := gw_of 45 (by decide +kernel) rfl
theorem wl_31 : Cond.selects "[I" ⟨"[I", "clone", "()Ljava/lang/Object;"⟩ ⟨"java/lang/Object", "clone", "()Ljava/lang/Object;"⟩ ∈ GW := gw_of 46 (by decide +kernel) rfl
theorem wl_32 : Cond.classLink RX5 14 "[I" ∈ GW := gw_of 48 (by decide +kernel) rfl
theorem wl_33 : Cond.fieldLink RX5 18 "IceTongue$Tongue" "settings" "[I" ∈ GW := gw_of 179 (by decide +kernel) rfl
theorem wl_34 : Cond.classLink RX5 23 RX0 ∈ GW := gw_of 49 (by decide +kernel) rfl
theorem wl_35 : Cond.fieldLink RX5 25 "IceTongue$Tongue" "bands" "[LIceTongue$Band;" ∈ GW := gw_of 181 (by decide +kernel) rfl
theorem wl_36 : Cond.classLink RX5 29 RX3 ∈ GW := gw_of 51 (by decide +kernel) rfl
theorem wl_37 : Cond.fieldLink RX5 31 "IceTongue$Tongue" "stakes" "[LIceTongue$Stake;" ∈ GW := gw_of 183 (by decide +kernel) rfl
theorem wl_38 : Cond.classLink RX5 35 RX1 ∈ GW := gw_of 53 (by decide +kernel) rfl
theorem wl_39 : Cond.instantiable RX1 4 ∈ GW := gw_of 54 (by decide +kernel) rfl
theorem wl_40 : Cond.initialized RX1 ∈ GW := gw_of 18 (by decide +kernel) rfl
theorem wl_41 : Cond.fieldLink RX5 38 "IceTongue$Tongue" "front" "LIceTongue$Front;" ∈ GW := gw_of 185 (by decide +kernel) rfl
theorem wl_42 : Cond.fieldLink RX5 42 "IceTongue$Tongue" "bandCount" "I" ∈ GW := gw_of 187 (by decide +kernel) rfl
theorem wl_43 : Cond.fieldLink RX5 46 "IceTongue$Tongue" "stakeCount" "I" ∈ GW := gw_of 189 (by decide +kernel) rfl
theorem wl_44 : Cond.fieldLink RX5 49 "IceTongue$Tongue" "year" "I" ∈ GW := gw_of 191 (by decide +kernel) rfl
theorem wl_45 : Cond.fieldLink RX5 52 "IceTongue$Tongue" "added" "J" ∈ GW := gw_of 193 (by decide +kernel) rfl
theorem wl_46 : Cond.fieldLink RX5 56 "IceTongue$Tongue" "snowed" "J" ∈ GW := gw_of 195 (by decide +kernel) rfl
theorem wl_47 : Cond.fieldLink RX5 59 "IceTongue$Tongue" "melted" "J" ∈ GW := gw_of 197 (by decide +kernel) rfl
theorem wl_48 : Cond.fieldLink RX5 62 "IceTongue$Tongue" "calved" "J" ∈ GW := gw_of 199 (by decide +kernel) rfl
theorem wl_49 : Cond.instantiable RX0 7 ∈ GW := gw_of 78 (by decide +kernel) rfl
theorem wl_50 : Cond.initialized RX0 ∈ GW := gw_of 19 (by decide +kernel) rfl
theorem wl_51 : Cond.instantiable RX3 6 ∈ GW := gw_of 143 (by decide +kernel) rfl
theorem wl_52 : Cond.initialized RX3 ∈ GW := gw_of 21 (by decide +kernel) rfl
theorem wl_53 : Cond.instanceMethod yX1_init ∈ GW := gw_of 56 (by decide +kernel) rfl
set_option maxRecDepth 100000 in
theorem wl_54 : Cond.code yX1_init cX1_init 1 none ∈ GW := gw_of 57 rfl rfl
theorem wl_55 : Cond.methodLink RX1 1 objectInit ∈ GW := gw_of 58 (by decide +kernel) rfl
theorem wl_56 : Cond.fieldLink RX1 7 "IceTongue$Front" "ice" "I" ∈ GW := gw_of 59 (by decide +kernel) rfl
theorem wl_57 : Cond.fieldLink RX1 13 "IceTongue$Front" "rest" "I" ∈ GW := gw_of 62 (by decide +kernel) rfl
theorem wl_58 : Cond.fieldLink RX1 16 "IceTongue$Front" "pieces" "I" ∈ GW := gw_of 64 (by decide +kernel) rfl
theorem wl_59 : Cond.fieldLink RX1 19 "IceTongue$Front" "latestCalving" "I" ∈ GW := gw_of 66 (by decide +kernel) rfl
theorem wl_60 : Cond.instanceMethod yX0_init ∈ GW := gw_of 80 (by decide +kernel) rfl
set_option maxRecDepth 100000 in
theorem wl_61 : Cond.code yX0_init cX0_init 1 none ∈ GW := gw_of 81 rfl rfl
theorem wl_62 : Cond.methodLink RX0 1 objectInit ∈ GW := gw_of 82 (by decide +kernel) rfl
theorem wl_63 : Cond.classLink RX0 7 RX2 ∈ GW := gw_of 83 (by decide +kernel) rfl
theorem wl_64 : Cond.instantiable RX2 4 ∈ GW := gw_of 84 (by decide +kernel) rfl
theorem wl_65 : Cond.initialized RX2 ∈ GW := gw_of 20 (by decide +kernel) rfl
theorem wl_66 : Cond.fieldLink RX0 10 "IceTongue$Band" "layers" "LIceTongue$Layers;" ∈ GW := gw_of 108 (by decide +kernel) rfl
theorem wl_67 : Cond.fieldLink RX0 16 "IceTongue$Band" "height" "I" ∈ GW := gw_of 111 (by decide +kernel) rfl
theorem wl_68 : Cond.fieldLink RX0 20 "IceTongue$Band" "length" "I" ∈ GW := gw_of 114 (by decide +kernel) rfl
theorem wl_69 : Cond.fieldLink RX0 23 "IceTongue$Band" "creep" "I" ∈ GW := gw_of 117 (by decide +kernel) rfl
theorem wl_70 : Cond.fieldLink RX0 26 "IceTongue$Band" "melted" "I" ∈ GW := gw_of 119 (by decide +kernel) rfl
theorem wl_71 : Cond.fieldLink RX0 29 "IceTongue$Band" "gave" "I" ∈ GW := gw_of 122 (by decide +kernel) rfl
theorem wl_72 : Cond.fieldLink RX0 32 "IceTongue$Band" "got" "I" ∈ GW := gw_of 125 (by decide +kernel) rfl
theorem wl_73 : Cond.instanceMethod yX2_init ∈ GW := gw_of 86 (by decide +kernel) rfl
set_option maxRecDepth 100000 in
theorem wl_74 : Cond.code yX2_init cX2_init 1 none ∈ GW := gw_of 87 rfl rfl
theorem wl_75 : Cond.methodLink RX2 3 objectInit ∈ GW := gw_of 88 (by decide +kernel) rfl
theorem wl_76 : Cond.arrayClass .int ∈ GW := gw_of 77 (by decide +kernel) rfl
theorem wl_77 : Cond.fieldLink RX2 9 "IceTongue$Layers" "left" "[I" ∈ GW := gw_of 89 (by decide +kernel) rfl
theorem wl_78 : Cond.fieldLink RX2 15 "IceTongue$Layers" "ice" "I" ∈ GW := gw_of 90 (by decide +kernel) rfl
theorem wl_79 : Cond.fieldLink RX2 19 "IceTongue$Layers" "oldest" "I" ∈ GW := gw_of 94 (by decide +kernel) rfl
theorem wl_80 : Cond.fieldLink RX2 22 "IceTongue$Layers" "latest" "I" ∈ GW := gw_of 97 (by decide +kernel) rfl
theorem wl_81 : Cond.instanceMethod yX3_init ∈ GW := gw_of 145 (by decide +kernel) rfl
set_option maxRecDepth 100000 in
theorem wl_82 : Cond.code yX3_init cX3_init 1 none ∈ GW := gw_of 146 rfl rfl
theorem wl_83 : Cond.methodLink RX3 3 objectInit ∈ GW := gw_of 147 (by decide +kernel) rfl
theorem wl_84 : Cond.fieldLink RX3 9 "IceTongue$Stake" "band" "I" ∈ GW := gw_of 148 (by decide +kernel) rfl
theorem wl_85 : Cond.fieldLink RX3 15 "IceTongue$Stake" "place" "I" ∈ GW := gw_of 151 (by decide +kernel) rfl
theorem wl_86 : Cond.fieldLink RX3 18 "IceTongue$Stake" "depth" "I" ∈ GW := gw_of 154 (by decide +kernel) rfl
theorem wl_87 : Cond.fieldLink RX3 21 "IceTongue$Stake" "change" "I" ∈ GW := gw_of 157 (by decide +kernel) rfl
theorem wl_88 : Cond.fieldLink RX3 24 "IceTongue$Stake" "fate" "I" ∈ GW := gw_of 160 (by decide +kernel) rfl
theorem wl_89 : Cond.fieldLink RX3 27 "IceTongue$Stake" "years" "I" ∈ GW := gw_of 163 (by decide +kernel) rfl
theorem wl_90 : Cond.instanceMethod yX4_init ∈ GW := gw_of 228 (by decide +kernel) rfl
set_option maxRecDepth 100000 in
theorem wl_91 : Cond.code yX4_init cX4_init 1 none ∈ GW := gw_of 229 rfl rfl
theorem wl_92 : Cond.methodLink RX4 3 objectInit ∈ GW := gw_of 230 (by decide +kernel) rfl
theorem wl_93 : Cond.arrayClass .char ∈ GW := gw_of 239 (by decide +kernel) rfl
theorem wl_94 : Cond.fieldLink RX4 9 "IceTongue$Text" "signs" "[C" ∈ GW := gw_of 231 (by decide +kernel) rfl
theorem wl_95 : Cond.fieldLink RX4 15 "IceTongue$Text" "length" "I" ∈ GW := gw_of 232 (by decide +kernel) rfl
theorem wl_96 : Cond.methodLink RL 94 yL_refuses ∈ GW := gw_of 623 (by decide +kernel) rfl
theorem wl_97 : Cond.static yL_refuses ∈ GW := gw_of 624 (by decide +kernel) rfl
theorem wl_98 : Cond.initialized RL ∈ GW := gw_of 15 (by decide +kernel) rfl
set_option maxRecDepth 100000 in
theorem wl_99 : Cond.code yL_refuses cL_refuses 5 (some .boolean) ∈ GW := gw_of 625 rfl rfl
theorem wl_100 : Cond.constant RL 70 (-2000000001) ∈ GW := gw_of 626 (by decide +kernel) rfl
theorem wl_101 : Cond.constant RL 75 (1000001) ∈ GW := gw_of 627 (by decide +kernel) rfl
theorem wl_102 : Cond.constantLong RL 79 (-2000000001) ∈ GW := gw_of 628 (by decide +kernel) rfl
theorem wl_103 : Cond.methodLink RL 9 yX6_count ∈ GW := gw_of 404 (by decide +kernel) rfl
theorem wl_104 : Cond.instanceMethod yX6_count ∈ GW := gw_of 405 (by decide +kernel) rfl
theorem wl_105 : Cond.selects RX6 yX6_count yX6_count ∈ GW := gw_of 406 (by decide +kernel) rfl
set_option maxRecDepth 100000 in
theorem wl_106 : Cond.code yX6_count cX6_count 2 (some .int) ∈ GW := gw_of 407 rfl rfl
theorem wl_107 : Cond.constant RX6 38 (-2000000001) ∈ GW := gw_of 263 (by decide +kernel) rfl
theorem wl_108 : Cond.fieldLink RX6 49 "IceTongue$Tongue" "settings" "[I" ∈ GW := gw_of 180 (by decide +kernel) rfl
theorem wl_109 : Cond.fieldLink RX6 58 "IceTongue$Tongue" "bandCount" "I" ∈ GW := gw_of 188 (by decide +kernel) rfl
theorem wl_110 : Cond.fieldLink RX6 165 "IceTongue$Tongue" "year" "I" ∈ GW := gw_of 192 (by decide +kernel) rfl
theorem wl_111 : Cond.fieldLink RX6 168 "IceTongue$Tongue" "stakeCount" "I" ∈ GW := gw_of 190 (by decide +kernel) rfl
theorem wl_112 : Cond.fieldLink RX6 180 "IceTongue$Text" "length" "I" ∈ GW := gw_of 233 (by decide +kernel) rfl
theorem wl_113 : Cond.methodLink RX6 34 yX6_isWithin ∈ GW := gw_of 260 (by decide +kernel) rfl
theorem wl_114 : Cond.static yX6_isWithin ∈ GW := gw_of 261 (by decide +kernel) rfl
set_option maxRecDepth 100000 in
theorem wl_115 : Cond.code yX6_isWithin cX6_isWithin 3 (some .boolean) ∈ GW := gw_of 262 rfl rfl
theorem wl_116 : Cond.methodLink RX6 171 yX5_standingStakes ∈ GW := gw_of 408 (by decide +kernel) rfl
theorem wl_117 : Cond.instanceMethod yX5_standingStakes ∈ GW := gw_of 409 (by decide +kernel) rfl
theorem wl_118 : Cond.selects RX5 yX5_standingStakes yX5_standingStakes ∈ GW := gw_of 410 (by decide +kernel) rfl
set_option maxRecDepth 100000 in
theorem wl_119 : Cond.code yX5_standingStakes cX5_standingStakes 3 (some .int) ∈ GW := gw_of 411 rfl rfl
theorem wl_120 : Cond.fieldLink RX5 100 "IceTongue$Stake" "fate" "I" ∈ GW := gw_of 161 (by decide +kernel) rfl
theorem wl_121 : Cond.methodLink RX6 174 yX5_layersOfAllBands ∈ GW := gw_of 412 (by decide +kernel) rfl
theorem wl_122 : Cond.instanceMethod yX5_layersOfAllBands ∈ GW := gw_of 413 (by decide +kernel) rfl
theorem wl_123 : Cond.selects RX5 yX5_layersOfAllBands yX5_layersOfAllBands ∈ GW := gw_of 414 (by decide +kernel) rfl
set_option maxRecDepth 100000 in
theorem wl_124 : Cond.code yX5_layersOfAllBands cX5_layersOfAllBands 3 (some .int) ∈ GW := gw_of 415 rfl rfl
theorem wl_125 : Cond.fieldLink RX5 90 "IceTongue$Band" "layers" "LIceTongue$Layers;" ∈ GW := gw_of 110 (by decide +kernel) rfl
theorem wl_126 : Cond.methodLink RX5 141 yX2_number ∈ GW := gw_of 416 (by decide +kernel) rfl
theorem wl_127 : Cond.instanceMethod yX2_number ∈ GW := gw_of 357 (by decide +kernel) rfl
theorem wl_128 : Cond.selects RX2 yX2_number yX2_number ∈ GW := gw_of 358 (by decide +kernel) rfl
set_option maxRecDepth 100000 in
theorem wl_129 : Cond.code yX2_number cX2_number 3 (some .int) ∈ GW := gw_of 359 rfl rfl
theorem wl_130 : Cond.methodLink RX2 56 yX2_leftOf ∈ GW := gw_of 330 (by decide +kernel) rfl
theorem wl_131 : Cond.instanceMethod yX2_leftOf ∈ GW := gw_of 331 (by decide +kernel) rfl
theorem wl_132 : Cond.selects RX2 yX2_leftOf yX2_leftOf ∈ GW := gw_of 332 (by decide +kernel) rfl
set_option maxRecDepth 100000 in
theorem wl_133 : Cond.code yX2_leftOf cX2_leftOf 2 (some .int) ∈ GW := gw_of 333 rfl rfl
theorem wl_134 : Cond.methodLink RX6 177 yX5_differentYears ∈ GW := gw_of 417 (by decide +kernel) rfl
theorem wl_135 : Cond.instanceMethod yX5_differentYears ∈ GW := gw_of 418 (by decide +kernel) rfl
theorem wl_136 : Cond.selects RX5 yX5_differentYears yX5_differentYears ∈ GW := gw_of 419 (by decide +kernel) rfl
set_option maxRecDepth 100000 in
theorem wl_137 : Cond.code yX5_differentYears cX5_differentYears 3 (some .int) ∈ GW := gw_of 420 rfl rfl
theorem wl_138 : Cond.methodLink RX5 140 yX5_leftOf ∈ GW := gw_of 399 (by decide +kernel) rfl
theorem wl_139 : Cond.instanceMethod yX5_leftOf ∈ GW := gw_of 400 (by decide +kernel) rfl
theorem wl_140 : Cond.selects RX5 yX5_leftOf yX5_leftOf ∈ GW := gw_of 401 (by decide +kernel) rfl
set_option maxRecDepth 100000 in
theorem wl_141 : Cond.code yX5_leftOf cX5_leftOf 4 (some .int) ∈ GW := gw_of 402 rfl rfl
theorem wl_142 : Cond.methodLink RX5 129 yX2_leftOf ∈ GW := gw_of 403 (by decide +kernel) rfl
theorem wl_143 : Cond.methodLink RL 67 yX6_set ∈ GW := gw_of 256 (by decide +kernel) rfl
theorem wl_144 : Cond.instanceMethod yX6_set ∈ GW := gw_of 257 (by decide +kernel) rfl
theorem wl_145 : Cond.selects RX6 yX6_set yX6_set ∈ GW := gw_of 258 (by decide +kernel) rfl
set_option maxRecDepth 100000 in
theorem wl_146 : Cond.code yX6_set cX6_set 4 (some .int) ∈ GW := gw_of 259 rfl rfl
theorem wl_147 : Cond.fieldLink RX6 39 "IceTongue" "LEAST_SETTING" "[I" ∈ GW := gw_of 264 (by decide +kernel) rfl
theorem wl_148 : Cond.fieldLink RX6 43 "IceTongue" "MOST_SETTING" "[I" ∈ GW := gw_of 266 (by decide +kernel) rfl
theorem wl_149 : Cond.methodLink RX6 46 yX6_recordState ∈ GW := gw_of 268 (by decide +kernel) rfl
theorem wl_150 : Cond.instanceMethod yX6_recordState ∈ GW := gw_of 270 (by decide +kernel) rfl
theorem wl_151 : Cond.selects RX6 yX6_recordState yX6_recordState ∈ GW := gw_of 0 (by decide +kernel) rfl
set_option maxRecDepth 100000 in
theorem wl_152 : Cond.code yX6_recordState cX6_recordState 1 none ∈ GW := gw_of 271 rfl rfl
theorem wl_153 : Cond.methodLink RX6 242 yX6_dropOldestState ∈ GW := gw_of 272 (by decide +kernel) rfl
theorem wl_154 : Cond.instanceMethod yX6_dropOldestState ∈ GW := gw_of 274 (by decide +kernel) rfl
theorem wl_155 : Cond.selects RX6 yX6_dropOldestState yX6_dropOldestState ∈ GW := gw_of 1 (by decide +kernel) rfl
set_option maxRecDepth 100000 in
theorem wl_156 : Cond.code yX6_dropOldestState cX6_dropOldestState 3 none ∈ GW := gw_of 275 rfl rfl
theorem wl_157 : Cond.methodLink RX6 223 yX5_copyFrom ∈ GW := gw_of 276 (by decide +kernel) rfl
theorem wl_158 : Cond.instanceMethod yX5_copyFrom ∈ GW := gw_of 277 (by decide +kernel) rfl
theorem wl_159 : Cond.selects RX5 yX5_copyFrom yX5_copyFrom ∈ GW := gw_of 278 (by decide +kernel) rfl
set_option maxRecDepth 100000 in
theorem wl_160 : Cond.code yX5_copyFrom cX5_copyFrom 3 none ∈ GW := gw_of 279 rfl rfl
theorem wl_161 : Cond.methodLink RX5 67 arraycopyName ∈ GW := gw_of 280 (by decide +kernel) rfl
theorem wl_162 : Cond.native arraycopyName ∈ GW := gw_of 282 (by decide +kernel) rfl
theorem wl_163 : Cond.static arraycopyName ∈ GW := gw_of 281 (by decide +kernel) rfl
theorem wl_164 : Cond.initialized "java/lang/System" ∈ GW := gw_of 23 (by decide +kernel) rfl
theorem wl_165 : Cond.methodLink RX5 73 yX0_copyFrom ∈ GW := gw_of 283 (by decide +kernel) rfl
theorem wl_166 : Cond.instanceMethod yX0_copyFrom ∈ GW := gw_of 284 (by decide +kernel) rfl
theorem wl_167 : Cond.selects RX0 yX0_copyFrom yX0_copyFrom ∈ GW := gw_of 285 (by decide +kernel) rfl
set_option maxRecDepth 100000 in
theorem wl_168 : Cond.code yX0_copyFrom cX0_copyFrom 2 none ∈ GW := gw_of 286 rfl rfl
theorem wl_169 : Cond.methodLink RX0 38 yX2_copyFrom ∈ GW := gw_of 287 (by decide +kernel) rfl
theorem wl_170 : Cond.instanceMethod yX2_copyFrom ∈ GW := gw_of 288 (by decide +kernel) rfl
theorem wl_171 : Cond.selects RX2 yX2_copyFrom yX2_copyFrom ∈ GW := gw_of 289 (by decide +kernel) rfl
set_option maxRecDepth 100000 in
theorem wl_172 : Cond.code yX2_copyFrom cX2_copyFrom 2 none ∈ GW := gw_of 290 rfl rfl
theorem wl_173 : Cond.methodLink RX2 25 arraycopyName ∈ GW := gw_of 291 (by decide +kernel) rfl
theorem wl_174 : Cond.methodLink RX5 77 yX3_copyFrom ∈ GW := gw_of 292 (by decide +kernel) rfl
theorem wl_175 : Cond.instanceMethod yX3_copyFrom ∈ GW := gw_of 293 (by decide +kernel) rfl
theorem wl_176 : Cond.selects RX3 yX3_copyFrom yX3_copyFrom ∈ GW := gw_of 294 (by decide +kernel) rfl
set_option maxRecDepth 100000 in
theorem wl_177 : Cond.code yX3_copyFrom cX3_copyFrom 2 none ∈ GW := gw_of 295 rfl rfl
theorem wl_178 : Cond.methodLink RX5 80 yX1_copyFrom ∈ GW := gw_of 296 (by decide +kernel) rfl
theorem wl_179 : Cond.instanceMethod yX1_copyFrom ∈ GW := gw_of 297 (by decide +kernel) rfl
theorem wl_180 : Cond.selects RX1 yX1_copyFrom yX1_copyFrom ∈ GW := gw_of 298 (by decide +kernel) rfl
set_option maxRecDepth 100000 in
theorem wl_181 : Cond.code yX1_copyFrom cX1_copyFrom 2 none ∈ GW := gw_of 299 rfl rfl
theorem wl_182 : Cond.methodLink RL 71 yX6_band ∈ GW := gw_of 300 (by decide +kernel) rfl
theorem wl_183 : Cond.instanceMethod yX6_band ∈ GW := gw_of 301 (by decide +kernel) rfl
theorem wl_184 : Cond.selects RX6 yX6_band yX6_band ∈ GW := gw_of 302 (by decide +kernel) rfl
set_option maxRecDepth 100000 in
theorem wl_185 : Cond.code yX6_band cX6_band 5 (some .int) ∈ GW := gw_of 303 rfl rfl
theorem wl_186 : Cond.constant RX6 52 (1000000) ∈ GW := gw_of 304 (by decide +kernel) rfl
theorem wl_187 : Cond.constant RX6 57 (-2000000002) ∈ GW := gw_of 309 (by decide +kernel) rfl
theorem wl_188 : Cond.constant RX6 61 (-2000000003) ∈ GW := gw_of 310 (by decide +kernel) rfl
theorem wl_189 : Cond.methodLink RX6 53 yX5_isBelowAll ∈ GW := gw_of 305 (by decide +kernel) rfl
theorem wl_190 : Cond.instanceMethod yX5_isBelowAll ∈ GW := gw_of 306 (by decide +kernel) rfl
theorem wl_191 : Cond.selects RX5 yX5_isBelowAll yX5_isBelowAll ∈ GW := gw_of 307 (by decide +kernel) rfl
set_option maxRecDepth 100000 in
theorem wl_192 : Cond.code yX5_isBelowAll cX5_isBelowAll 2 (some .boolean) ∈ GW := gw_of 308 rfl rfl
theorem wl_193 : Cond.fieldLink RX5 83 "IceTongue$Band" "height" "I" ∈ GW := gw_of 112 (by decide +kernel) rfl
theorem wl_194 : Cond.methodLink RX6 62 yX5_addBand ∈ GW := gw_of 311 (by decide +kernel) rfl
theorem wl_195 : Cond.instanceMethod yX5_addBand ∈ GW := gw_of 312 (by decide +kernel) rfl
theorem wl_196 : Cond.selects RX5 yX5_addBand yX5_addBand ∈ GW := gw_of 313 (by decide +kernel) rfl
set_option maxRecDepth 100000 in
theorem wl_197 : Cond.code yX5_addBand cX5_addBand 6 (some .int) ∈ GW := gw_of 314 rfl rfl
theorem wl_198 : Cond.methodLink RX5 86 yX0_begin ∈ GW := gw_of 315 (by decide +kernel) rfl
theorem wl_199 : Cond.instanceMethod yX0_begin ∈ GW := gw_of 316 (by decide +kernel) rfl
theorem wl_200 : Cond.selects RX0 yX0_begin yX0_begin ∈ GW := gw_of 317 (by decide +kernel) rfl
set_option maxRecDepth 100000 in
theorem wl_201 : Cond.code yX0_begin cX0_begin 4 none ∈ GW := gw_of 318 rfl rfl
theorem wl_202 : Cond.methodLink RX0 35 yX2_empty ∈ GW := gw_of 319 (by decide +kernel) rfl
theorem wl_203 : Cond.instanceMethod yX2_empty ∈ GW := gw_of 320 (by decide +kernel) rfl
theorem wl_204 : Cond.selects RX2 yX2_empty yX2_empty ∈ GW := gw_of 321 (by decide +kernel) rfl
set_option maxRecDepth 100000 in
theorem wl_205 : Cond.code yX2_empty cX2_empty 1 none ∈ GW := gw_of 322 rfl rfl
theorem wl_206 : Cond.methodLink RX2 31 yJ7_fill_53178 ∈ GW := gw_of 323 (by decide +kernel) rfl
theorem wl_207 : Cond.static yJ7_fill_53178 ∈ GW := gw_of 324 (by decide +kernel) rfl
theorem wl_208 : Cond.initialized RJ7 ∈ GW := gw_of 24 (by decide +kernel) rfl
set_option maxRecDepth 100000 in
theorem wl_209 : Cond.code yJ7_fill_53178 cJ7_fill_53178 4 none ∈ GW := gw_of 325 rfl rfl
theorem wl_210 : Cond.methodLink RX2 37 yX2_narrow ∈ GW := gw_of 326 (by decide +kernel) rfl
theorem wl_211 : Cond.instanceMethod yX2_narrow ∈ GW := gw_of 328 (by decide +kernel) rfl
theorem wl_212 : Cond.selects RX2 yX2_narrow yX2_narrow ∈ GW := gw_of 2 (by decide +kernel) rfl
set_option maxRecDepth 100000 in
theorem wl_213 : Cond.code yX2_narrow cX2_narrow 1 none ∈ GW := gw_of 329 rfl rfl
theorem wl_214 : Cond.methodLink RX5 94 yX2_add ∈ GW := gw_of 334 (by decide +kernel) rfl
theorem wl_215 : Cond.instanceMethod yX2_add ∈ GW := gw_of 335 (by decide +kernel) rfl
theorem wl_216 : Cond.selects RX2 yX2_add yX2_add ∈ GW := gw_of 336 (by decide +kernel) rfl
set_option maxRecDepth 100000 in
theorem wl_217 : Cond.code yX2_add cX2_add 3 none ∈ GW := gw_of 337 rfl rfl
theorem wl_218 : Cond.methodLink RX2 40 Lib.Math.min.name ∈ GW := gw_of 338 (by decide +kernel) rfl
theorem wl_219 : Cond.static Lib.Math.min.name ∈ GW := gw_of 339 (by decide +kernel) rfl
theorem wl_220 : Cond.initialized "java/lang/Math" ∈ GW := gw_of 25 (by decide +kernel) rfl
theorem wl_221 : Cond.code Lib.Math.min.name Lib.Math.min.code 2 (some .int) ∈ GW := gw_of 340 (by decide +kernel) rfl
theorem wl_222 : Cond.methodLink RX2 46 Lib.Math.max.name ∈ GW := gw_of 341 (by decide +kernel) rfl
theorem wl_223 : Cond.static Lib.Math.max.name ∈ GW := gw_of 342 (by decide +kernel) rfl
theorem wl_224 : Cond.code Lib.Math.max.name Lib.Math.max.code 2 (some .int) ∈ GW := gw_of 343 (by decide +kernel) rfl
theorem wl_225 : Cond.methodLink RL 76 yX6_creep ∈ GW := gw_of 344 (by decide +kernel) rfl
theorem wl_226 : Cond.instanceMethod yX6_creep ∈ GW := gw_of 345 (by decide +kernel) rfl
theorem wl_227 : Cond.selects RX6 yX6_creep yX6_creep ∈ GW := gw_of 346 (by decide +kernel) rfl
set_option maxRecDepth 100000 in
theorem wl_228 : Cond.code yX6_creep cX6_creep 4 (some .int) ∈ GW := gw_of 347 rfl rfl
theorem wl_229 : Cond.fieldLink RX6 69 "IceTongue$Tongue" "bands" "[LIceTongue$Band;" ∈ GW := gw_of 182 (by decide +kernel) rfl
theorem wl_230 : Cond.fieldLink RX6 73 "IceTongue$Band" "creep" "I" ∈ GW := gw_of 118 (by decide +kernel) rfl
theorem wl_231 : Cond.methodLink RX6 66 yX5_hasBand ∈ GW := gw_of 348 (by decide +kernel) rfl
theorem wl_232 : Cond.instanceMethod yX5_hasBand ∈ GW := gw_of 349 (by decide +kernel) rfl
theorem wl_233 : Cond.selects RX5 yX5_hasBand yX5_hasBand ∈ GW := gw_of 350 (by decide +kernel) rfl
set_option maxRecDepth 100000 in
theorem wl_234 : Cond.code yX5_hasBand cX5_hasBand 2 (some .boolean) ∈ GW := gw_of 351 rfl rfl
theorem wl_235 : Cond.methodLink RL 21 yX6_bandInfo ∈ GW := gw_of 352 (by decide +kernel) rfl
theorem wl_236 : Cond.instanceMethod yX6_bandInfo ∈ GW := gw_of 353 (by decide +kernel) rfl
theorem wl_237 : Cond.selects RX6 yX6_bandInfo yX6_bandInfo ∈ GW := gw_of 354 (by decide +kernel) rfl
set_option maxRecDepth 100000 in
theorem wl_238 : Cond.code yX6_bandInfo cX6_bandInfo 4 (some .int) ∈ GW := gw_of 355 rfl rfl
theorem wl_239 : Cond.fieldLink RX6 78 "IceTongue$Band" "height" "I" ∈ GW := gw_of 113 (by decide +kernel) rfl
theorem wl_240 : Cond.fieldLink RX6 81 "IceTongue$Band" "length" "I" ∈ GW := gw_of 115 (by decide +kernel) rfl
theorem wl_241 : Cond.fieldLink RX6 84 "IceTongue$Band" "layers" "LIceTongue$Layers;" ∈ GW := gw_of 109 (by decide +kernel) rfl
theorem wl_242 : Cond.fieldLink RX6 88 "IceTongue$Layers" "ice" "I" ∈ GW := gw_of 92 (by decide +kernel) rfl
theorem wl_243 : Cond.constant RX6 97 (-2000000004) ∈ GW := gw_of 360 (by decide +kernel) rfl
theorem wl_244 : Cond.fieldLink RX6 98 "IceTongue$Layers" "oldest" "I" ∈ GW := gw_of 95 (by decide +kernel) rfl
theorem wl_245 : Cond.fieldLink RX6 101 "IceTongue$Layers" "latest" "I" ∈ GW := gw_of 98 (by decide +kernel) rfl
theorem wl_246 : Cond.fieldLink RX6 112 "IceTongue$Band" "melted" "I" ∈ GW := gw_of 120 (by decide +kernel) rfl
theorem wl_247 : Cond.fieldLink RX6 115 "IceTongue$Band" "gave" "I" ∈ GW := gw_of 123 (by decide +kernel) rfl
theorem wl_248 : Cond.fieldLink RX6 118 "IceTongue$Band" "got" "I" ∈ GW := gw_of 126 (by decide +kernel) rfl
theorem wl_249 : Cond.methodLink RX6 93 yX2_number ∈ GW := gw_of 356 (by decide +kernel) rfl
theorem wl_250 : Cond.methodLink RX6 104 yX5_snowAt ∈ GW := gw_of 361 (by decide +kernel) rfl
theorem wl_251 : Cond.instanceMethod yX5_snowAt ∈ GW := gw_of 362 (by decide +kernel) rfl
theorem wl_252 : Cond.selects RX5 yX5_snowAt yX5_snowAt ∈ GW := gw_of 363 (by decide +kernel) rfl
set_option maxRecDepth 100000 in
theorem wl_253 : Cond.code yX5_snowAt cX5_snowAt 3 (some .int) ∈ GW := gw_of 364 rfl rfl
theorem wl_254 : Cond.methodLink RX5 119 Lib.Math.max.name ∈ GW := gw_of 368 (by decide +kernel) rfl
theorem wl_255 : Cond.methodLink RX5 113 yJ9_floorDiv_7cf53 ∈ GW := gw_of 365 (by decide +kernel) rfl
theorem wl_256 : Cond.static yJ9_floorDiv_7cf53 ∈ GW := gw_of 366 (by decide +kernel) rfl
theorem wl_257 : Cond.initialized RJ9 ∈ GW := gw_of 25 (by decide +kernel) rfl
set_option maxRecDepth 100000 in
theorem wl_258 : Cond.code yJ9_floorDiv_7cf53 cJ9_floorDiv_7cf53 3 (some .int) ∈ GW := gw_of 367 rfl rfl
theorem wl_259 : Cond.methodLink RX6 108 yX5_meltAt ∈ GW := gw_of 369 (by decide +kernel) rfl
theorem wl_260 : Cond.instanceMethod yX5_meltAt ∈ GW := gw_of 370 (by decide +kernel) rfl
theorem wl_261 : Cond.selects RX5 yX5_meltAt yX5_meltAt ∈ GW := gw_of 371 (by decide +kernel) rfl
set_option maxRecDepth 100000 in
theorem wl_262 : Cond.code yX5_meltAt cX5_meltAt 4 (some .int) ∈ GW := gw_of 372 rfl rfl
theorem wl_263 : Cond.methodLink RL 25 yX6_layer ∈ GW := gw_of 373 (by decide +kernel) rfl
theorem wl_264 : Cond.instanceMethod yX6_layer ∈ GW := gw_of 374 (by decide +kernel) rfl
theorem wl_265 : Cond.selects RX6 yX6_layer yX6_layer ∈ GW := gw_of 375 (by decide +kernel) rfl
set_option maxRecDepth 100000 in
theorem wl_266 : Cond.code yX6_layer cX6_layer 6 (some .int) ∈ GW := gw_of 376 rfl rfl
theorem wl_267 : Cond.methodLink RX6 121 yX2_yearOfLayer ∈ GW := gw_of 377 (by decide +kernel) rfl
theorem wl_268 : Cond.instanceMethod yX2_yearOfLayer ∈ GW := gw_of 378 (by decide +kernel) rfl
theorem wl_269 : Cond.selects RX2 yX2_yearOfLayer yX2_yearOfLayer ∈ GW := gw_of 379 (by decide +kernel) rfl
set_option maxRecDepth 100000 in
theorem wl_270 : Cond.code yX2_yearOfLayer cX2_yearOfLayer 4 (some .int) ∈ GW := gw_of 380 rfl rfl
theorem wl_271 : Cond.methodLink RX6 124 yX2_leftOf ∈ GW := gw_of 381 (by decide +kernel) rfl
theorem wl_272 : Cond.methodLink RL 32 yX6_ofYear ∈ GW := gw_of 597 (by decide +kernel) rfl
theorem wl_273 : Cond.instanceMethod yX6_ofYear ∈ GW := gw_of 598 (by decide +kernel) rfl
theorem wl_274 : Cond.selects RX6 yX6_ofYear yX6_ofYear ∈ GW := gw_of 599 (by decide +kernel) rfl
set_option maxRecDepth 100000 in
theorem wl_275 : Cond.code yX6_ofYear cX6_ofYear 2 (some .int) ∈ GW := gw_of 600 rfl rfl
theorem wl_276 : Cond.methodLink RX6 127 yX5_leftOf ∈ GW := gw_of 601 (by decide +kernel) rfl
theorem wl_277 : Cond.methodLink RL 15 yX6_front ∈ GW := gw_of 588 (by decide +kernel) rfl
theorem wl_278 : Cond.instanceMethod yX6_front ∈ GW := gw_of 589 (by decide +kernel) rfl
theorem wl_279 : Cond.selects RX6 yX6_front yX6_front ∈ GW := gw_of 590 (by decide +kernel) rfl
set_option maxRecDepth 100000 in
theorem wl_280 : Cond.code yX6_front cX6_front 2 (some .int) ∈ GW := gw_of 591 rfl rfl
theorem wl_281 : Cond.fieldLink RX6 128 "IceTongue$Tongue" "front" "LIceTongue$Front;" ∈ GW := gw_of 186 (by decide +kernel) rfl
theorem wl_282 : Cond.fieldLink RX6 132 "IceTongue$Front" "ice" "I" ∈ GW := gw_of 60 (by decide +kernel) rfl
theorem wl_283 : Cond.fieldLink RX6 135 "IceTongue$Front" "rest" "I" ∈ GW := gw_of 63 (by decide +kernel) rfl
theorem wl_284 : Cond.fieldLink RX6 138 "IceTongue$Front" "pieces" "I" ∈ GW := gw_of 65 (by decide +kernel) rfl
theorem wl_285 : Cond.fieldLink RX6 141 "IceTongue$Front" "latestCalving" "I" ∈ GW := gw_of 67 (by decide +kernel) rfl
theorem wl_286 : Cond.methodLink RL 38 yX6_account ∈ GW := gw_of 382 (by decide +kernel) rfl
theorem wl_287 : Cond.instanceMethod yX6_account ∈ GW := gw_of 383 (by decide +kernel) rfl
theorem wl_288 : Cond.selects RX6 yX6_account yX6_account ∈ GW := gw_of 384 (by decide +kernel) rfl
set_option maxRecDepth 100000 in
theorem wl_289 : Cond.code yX6_account cX6_account 2 (some .long) ∈ GW := gw_of 385 rfl rfl
theorem wl_290 : Cond.constantLong RX6 144 (-2000000001) ∈ GW := gw_of 386 (by decide +kernel) rfl
theorem wl_291 : Cond.fieldLink RX6 146 "IceTongue$Tongue" "added" "J" ∈ GW := gw_of 194 (by decide +kernel) rfl
theorem wl_292 : Cond.fieldLink RX6 150 "IceTongue$Tongue" "snowed" "J" ∈ GW := gw_of 196 (by decide +kernel) rfl
theorem wl_293 : Cond.fieldLink RX6 153 "IceTongue$Tongue" "melted" "J" ∈ GW := gw_of 198 (by decide +kernel) rfl
theorem wl_294 : Cond.fieldLink RX6 155 "IceTongue$Tongue" "calved" "J" ∈ GW := gw_of 200 (by decide +kernel) rfl
theorem wl_295 : Cond.methodLink RX6 158 yX5_allIce ∈ GW := gw_of 387 (by decide +kernel) rfl
theorem wl_296 : Cond.instanceMethod yX5_allIce ∈ GW := gw_of 388 (by decide +kernel) rfl
theorem wl_297 : Cond.selects RX5 yX5_allIce yX5_allIce ∈ GW := gw_of 389 (by decide +kernel) rfl
set_option maxRecDepth 100000 in
theorem wl_298 : Cond.code yX5_allIce cX5_allIce 1 (some .long) ∈ GW := gw_of 390 rfl rfl
theorem wl_299 : Cond.fieldLink RX5 139 "IceTongue$Front" "ice" "I" ∈ GW := gw_of 61 (by decide +kernel) rfl
theorem wl_300 : Cond.methodLink RX5 135 yX5_bandIce ∈ GW := gw_of 391 (by decide +kernel) rfl
theorem wl_301 : Cond.instanceMethod yX5_bandIce ∈ GW := gw_of 392 (by decide +kernel) rfl
theorem wl_302 : Cond.selects RX5 yX5_bandIce yX5_bandIce ∈ GW := gw_of 393 (by decide +kernel) rfl
set_option maxRecDepth 100000 in
theorem wl_303 : Cond.code yX5_bandIce cX5_bandIce 3 (some .int) ∈ GW := gw_of 394 rfl rfl
theorem wl_304 : Cond.fieldLink RX5 132 "IceTongue$Layers" "ice" "I" ∈ GW := gw_of 93 (by decide +kernel) rfl
theorem wl_305 : Cond.methodLink RX6 162 yX5_allIceByYears ∈ GW := gw_of 395 (by decide +kernel) rfl
theorem wl_306 : Cond.instanceMethod yX5_allIceByYears ∈ GW := gw_of 396 (by decide +kernel) rfl
theorem wl_307 : Cond.selects RX5 yX5_allIceByYears yX5_allIceByYears ∈ GW := gw_of 397 (by decide +kernel) rfl
set_option maxRecDepth 100000 in
theorem wl_308 : Cond.code yX5_allIceByYears cX5_allIceByYears 4 (some .long) ∈ GW := gw_of 398 rfl rfl
theorem wl_309 : Cond.methodLink RL 81 yX6_stake ∈ GW := gw_of 421 (by decide +kernel) rfl
theorem wl_310 : Cond.instanceMethod yX6_stake ∈ GW := gw_of 422 (by decide +kernel) rfl
theorem wl_311 : Cond.selects RX6 yX6_stake yX6_stake ∈ GW := gw_of 423 (by decide +kernel) rfl
set_option maxRecDepth 100000 in
theorem wl_312 : Cond.code yX6_stake cX6_stake 4 (some .int) ∈ GW := gw_of 424 rfl rfl
theorem wl_313 : Cond.methodLink RX6 181 yX5_isStakeAt ∈ GW := gw_of 425 (by decide +kernel) rfl
theorem wl_314 : Cond.instanceMethod yX5_isStakeAt ∈ GW := gw_of 426 (by decide +kernel) rfl
theorem wl_315 : Cond.selects RX5 yX5_isStakeAt yX5_isStakeAt ∈ GW := gw_of 427 (by decide +kernel) rfl
set_option maxRecDepth 100000 in
theorem wl_316 : Cond.code yX5_isStakeAt cX5_isStakeAt 4 (some .boolean) ∈ GW := gw_of 428 rfl rfl
theorem wl_317 : Cond.fieldLink RX5 103 "IceTongue$Stake" "band" "I" ∈ GW := gw_of 149 (by decide +kernel) rfl
theorem wl_318 : Cond.fieldLink RX5 106 "IceTongue$Stake" "place" "I" ∈ GW := gw_of 152 (by decide +kernel) rfl
theorem wl_319 : Cond.methodLink RX6 185 yX5_addStake ∈ GW := gw_of 429 (by decide +kernel) rfl
theorem wl_320 : Cond.instanceMethod yX5_addStake ∈ GW := gw_of 430 (by decide +kernel) rfl
theorem wl_321 : Cond.selects RX5 yX5_addStake yX5_addStake ∈ GW := gw_of 431 (by decide +kernel) rfl
set_option maxRecDepth 100000 in
theorem wl_322 : Cond.code yX5_addStake cX5_addStake 5 (some .int) ∈ GW := gw_of 432 rfl rfl
theorem wl_323 : Cond.methodLink RX5 109 yX3_begin ∈ GW := gw_of 433 (by decide +kernel) rfl
theorem wl_324 : Cond.instanceMethod yX3_begin ∈ GW := gw_of 434 (by decide +kernel) rfl
theorem wl_325 : Cond.selects RX3 yX3_begin yX3_begin ∈ GW := gw_of 435 (by decide +kernel) rfl
set_option maxRecDepth 100000 in
theorem wl_326 : Cond.code yX3_begin cX3_begin 4 none ∈ GW := gw_of 436 rfl rfl
theorem wl_327 : Cond.methodLink RL 84 yX6_pull ∈ GW := gw_of 437 (by decide +kernel) rfl
theorem wl_328 : Cond.instanceMethod yX6_pull ∈ GW := gw_of 438 (by decide +kernel) rfl
theorem wl_329 : Cond.selects RX6 yX6_pull yX6_pull ∈ GW := gw_of 439 (by decide +kernel) rfl
set_option maxRecDepth 100000 in
theorem wl_330 : Cond.code yX6_pull cX6_pull 2 (some .int) ∈ GW := gw_of 440 rfl rfl
theorem wl_331 : Cond.methodLink RX6 189 yX5_hasStake ∈ GW := gw_of 441 (by decide +kernel) rfl
theorem wl_332 : Cond.instanceMethod yX5_hasStake ∈ GW := gw_of 442 (by decide +kernel) rfl
theorem wl_333 : Cond.selects RX5 yX5_hasStake yX5_hasStake ∈ GW := gw_of 443 (by decide +kernel) rfl
set_option maxRecDepth 100000 in
theorem wl_334 : Cond.code yX5_hasStake cX5_hasStake 2 (some .boolean) ∈ GW := gw_of 444 rfl rfl
theorem wl_335 : Cond.methodLink RX6 192 yX5_removeStake ∈ GW := gw_of 445 (by decide +kernel) rfl
theorem wl_336 : Cond.instanceMethod yX5_removeStake ∈ GW := gw_of 446 (by decide +kernel) rfl
theorem wl_337 : Cond.selects RX5 yX5_removeStake yX5_removeStake ∈ GW := gw_of 447 (by decide +kernel) rfl
set_option maxRecDepth 100000 in
theorem wl_338 : Cond.code yX5_removeStake cX5_removeStake 4 (some .int) ∈ GW := gw_of 448 rfl rfl
theorem wl_339 : Cond.fieldLink RX5 110 "IceTongue$Stake" "change" "I" ∈ GW := gw_of 158 (by decide +kernel) rfl
theorem wl_340 : Cond.methodLink RL 35 yX6_stakeInfo ∈ GW := gw_of 449 (by decide +kernel) rfl
theorem wl_341 : Cond.instanceMethod yX6_stakeInfo ∈ GW := gw_of 450 (by decide +kernel) rfl
theorem wl_342 : Cond.selects RX6 yX6_stakeInfo yX6_stakeInfo ∈ GW := gw_of 451 (by decide +kernel) rfl
set_option maxRecDepth 100000 in
theorem wl_343 : Cond.code yX6_stakeInfo cX6_stakeInfo 4 (some .int) ∈ GW := gw_of 452 rfl rfl
theorem wl_344 : Cond.fieldLink RX6 195 "IceTongue$Tongue" "stakes" "[LIceTongue$Stake;" ∈ GW := gw_of 184 (by decide +kernel) rfl
theorem wl_345 : Cond.fieldLink RX6 199 "IceTongue$Stake" "band" "I" ∈ GW := gw_of 150 (by decide +kernel) rfl
theorem wl_346 : Cond.fieldLink RX6 204 "IceTongue$Stake" "place" "I" ∈ GW := gw_of 153 (by decide +kernel) rfl
theorem wl_347 : Cond.fieldLink RX6 207 "IceTongue$Stake" "depth" "I" ∈ GW := gw_of 155 (by decide +kernel) rfl
theorem wl_348 : Cond.fieldLink RX6 210 "IceTongue$Stake" "change" "I" ∈ GW := gw_of 159 (by decide +kernel) rfl
theorem wl_349 : Cond.fieldLink RX6 213 "IceTongue$Stake" "fate" "I" ∈ GW := gw_of 162 (by decide +kernel) rfl
theorem wl_350 : Cond.fieldLink RX6 216 "IceTongue$Stake" "years" "I" ∈ GW := gw_of 164 (by decide +kernel) rfl
theorem wl_351 : Cond.methodLink RL 29 yX6_stakesIn ∈ GW := gw_of 593 (by decide +kernel) rfl
theorem wl_352 : Cond.instanceMethod yX6_stakesIn ∈ GW := gw_of 594 (by decide +kernel) rfl
theorem wl_353 : Cond.selects RX6 yX6_stakesIn yX6_stakesIn ∈ GW := gw_of 595 (by decide +kernel) rfl
set_option maxRecDepth 100000 in
theorem wl_354 : Cond.code yX6_stakesIn cX6_stakesIn 4 (some .int) ∈ GW := gw_of 596 rfl rfl
theorem wl_355 : Cond.methodLink RL 46 yX6_years ∈ GW := gw_of 453 (by decide +kernel) rfl
theorem wl_356 : Cond.instanceMethod yX6_years ∈ GW := gw_of 454 (by decide +kernel) rfl
theorem wl_357 : Cond.selects RX6 yX6_years yX6_years ∈ GW := gw_of 455 (by decide +kernel) rfl
set_option maxRecDepth 100000 in
theorem wl_358 : Cond.code yX6_years cX6_years 3 (some .int) ∈ GW := gw_of 456 rfl rfl
theorem wl_359 : Cond.methodLink RX6 219 yX5_letYearsGoBy ∈ GW := gw_of 457 (by decide +kernel) rfl
theorem wl_360 : Cond.instanceMethod yX5_letYearsGoBy ∈ GW := gw_of 458 (by decide +kernel) rfl
theorem wl_361 : Cond.selects RX5 yX5_letYearsGoBy yX5_letYearsGoBy ∈ GW := gw_of 459 (by decide +kernel) rfl
set_option maxRecDepth 100000 in
theorem wl_362 : Cond.code yX5_letYearsGoBy cX5_letYearsGoBy 3 none ∈ GW := gw_of 460 rfl rfl
theorem wl_363 : Cond.methodLink RX5 150 yX5_letYearGoBy ∈ GW := gw_of 461 (by decide +kernel) rfl
theorem wl_364 : Cond.instanceMethod yX5_letYearGoBy ∈ GW := gw_of 462 (by decide +kernel) rfl
theorem wl_365 : Cond.selects RX5 yX5_letYearGoBy yX5_letYearGoBy ∈ GW := gw_of 463 (by decide +kernel) rfl
set_option maxRecDepth 100000 in
theorem wl_366 : Cond.code yX5_letYearGoBy cX5_letYearGoBy 2 none ∈ GW := gw_of 464 rfl rfl
theorem wl_367 : Cond.methodLink RX5 153 yX5_snowAndMelt ∈ GW := gw_of 465 (by decide +kernel) rfl
theorem wl_368 : Cond.instanceMethod yX5_snowAndMelt ∈ GW := gw_of 467 (by decide +kernel) rfl
theorem wl_369 : Cond.selects RX5 yX5_snowAndMelt yX5_snowAndMelt ∈ GW := gw_of 3 (by decide +kernel) rfl
set_option maxRecDepth 100000 in
theorem wl_370 : Cond.code yX5_snowAndMelt cX5_snowAndMelt 3 none ∈ GW := gw_of 468 rfl rfl
theorem wl_371 : Cond.fieldLink RX5 169 "IceTongue$Band" "melted" "I" ∈ GW := gw_of 121 (by decide +kernel) rfl
theorem wl_372 : Cond.methodLink RX5 122 yX5_snowAt ∈ GW := gw_of 469 (by decide +kernel) rfl
theorem wl_373 : Cond.methodLink RX5 126 yX5_meltAt ∈ GW := gw_of 470 (by decide +kernel) rfl
theorem wl_374 : Cond.methodLink RX5 166 yX2_takeFromLatest ∈ GW := gw_of 471 (by decide +kernel) rfl
theorem wl_375 : Cond.instanceMethod yX2_takeFromLatest ∈ GW := gw_of 472 (by decide +kernel) rfl
theorem wl_376 : Cond.selects RX2 yX2_takeFromLatest yX2_takeFromLatest ∈ GW := gw_of 473 (by decide +kernel) rfl
set_option maxRecDepth 100000 in
theorem wl_377 : Cond.code yX2_takeFromLatest cX2_takeFromLatest 5 (some .int) ∈ GW := gw_of 474 rfl rfl
theorem wl_378 : Cond.methodLink RX2 49 yX2_takeOfYear ∈ GW := gw_of 475 (by decide +kernel) rfl
theorem wl_379 : Cond.instanceMethod yX2_takeOfYear ∈ GW := gw_of 477 (by decide +kernel) rfl
theorem wl_380 : Cond.selects RX2 yX2_takeOfYear yX2_takeOfYear ∈ GW := gw_of 4 (by decide +kernel) rfl
set_option maxRecDepth 100000 in
theorem wl_381 : Cond.code yX2_takeOfYear cX2_takeOfYear 4 (some .int) ∈ GW := gw_of 478 rfl rfl
theorem wl_382 : Cond.methodLink RX5 156 yX5_creepDown ∈ GW := gw_of 479 (by decide +kernel) rfl
theorem wl_383 : Cond.instanceMethod yX5_creepDown ∈ GW := gw_of 481 (by decide +kernel) rfl
theorem wl_384 : Cond.selects RX5 yX5_creepDown yX5_creepDown ∈ GW := gw_of 5 (by decide +kernel) rfl
set_option maxRecDepth 100000 in
theorem wl_385 : Cond.code yX5_creepDown cX5_creepDown 3 none ∈ GW := gw_of 482 rfl rfl
theorem wl_386 : Cond.fieldLink RX5 174 "IceTongue$Band" "gave" "I" ∈ GW := gw_of 124 (by decide +kernel) rfl
theorem wl_387 : Cond.fieldLink RX5 181 "IceTongue$Band" "got" "I" ∈ GW := gw_of 127 (by decide +kernel) rfl
theorem wl_388 : Cond.methodLink RX5 171 yX0_iceToGive ∈ GW := gw_of 483 (by decide +kernel) rfl
theorem wl_389 : Cond.instanceMethod yX0_iceToGive ∈ GW := gw_of 484 (by decide +kernel) rfl
theorem wl_390 : Cond.selects RX0 yX0_iceToGive yX0_iceToGive ∈ GW := gw_of 485 (by decide +kernel) rfl
set_option maxRecDepth 100000 in
theorem wl_391 : Cond.code yX0_iceToGive cX0_iceToGive 1 (some .int) ∈ GW := gw_of 486 rfl rfl
theorem wl_392 : Cond.fieldLink RX0 42 "IceTongue$Layers" "ice" "I" ∈ GW := gw_of 91 (by decide +kernel) rfl
theorem wl_393 : Cond.constantLong RX0 45 (1000) ∈ GW := gw_of 487 (by decide +kernel) rfl
theorem wl_394 : Cond.methodLink RX5 177 yX2_giveFromOldest ∈ GW := gw_of 488 (by decide +kernel) rfl
theorem wl_395 : Cond.instanceMethod yX2_giveFromOldest ∈ GW := gw_of 489 (by decide +kernel) rfl
theorem wl_396 : Cond.selects RX2 yX2_giveFromOldest yX2_giveFromOldest ∈ GW := gw_of 490 (by decide +kernel) rfl
set_option maxRecDepth 100000 in
theorem wl_397 : Cond.code yX2_giveFromOldest cX2_giveFromOldest 6 none ∈ GW := gw_of 491 rfl rfl
theorem wl_398 : Cond.methodLink RX2 52 yX2_add ∈ GW := gw_of 492 (by decide +kernel) rfl
theorem wl_399 : Cond.methodLink RX5 159 yX1_calve ∈ GW := gw_of 493 (by decide +kernel) rfl
theorem wl_400 : Cond.instanceMethod yX1_calve ∈ GW := gw_of 494 (by decide +kernel) rfl
theorem wl_401 : Cond.selects RX1 yX1_calve yX1_calve ∈ GW := gw_of 495 (by decide +kernel) rfl
set_option maxRecDepth 100000 in
theorem wl_402 : Cond.code yX1_calve cX1_calve 5 (some .int) ∈ GW := gw_of 496 rfl rfl
theorem wl_403 : Cond.methodLink RX5 163 yX5_ride ∈ GW := gw_of 497 (by decide +kernel) rfl
theorem wl_404 : Cond.instanceMethod yX5_ride ∈ GW := gw_of 499 (by decide +kernel) rfl
theorem wl_405 : Cond.selects RX5 yX5_ride yX5_ride ∈ GW := gw_of 6 (by decide +kernel) rfl
set_option maxRecDepth 100000 in
theorem wl_406 : Cond.code yX5_ride cX5_ride 3 none ∈ GW := gw_of 500 rfl rfl
theorem wl_407 : Cond.fieldLink RX5 188 "IceTongue$Stake" "years" "I" ∈ GW := gw_of 165 (by decide +kernel) rfl
theorem wl_408 : Cond.fieldLink RX5 191 "IceTongue$Stake" "depth" "I" ∈ GW := gw_of 156 (by decide +kernel) rfl
theorem wl_409 : Cond.methodLink RX5 184 yX5_hasBand ∈ GW := gw_of 501 (by decide +kernel) rfl
theorem wl_410 : Cond.methodLink RX5 194 yX0_way ∈ GW := gw_of 502 (by decide +kernel) rfl
theorem wl_411 : Cond.instanceMethod yX0_way ∈ GW := gw_of 503 (by decide +kernel) rfl
theorem wl_412 : Cond.selects RX0 yX0_way yX0_way ∈ GW := gw_of 504 (by decide +kernel) rfl
set_option maxRecDepth 100000 in
theorem wl_413 : Cond.code yX0_way cX0_way 1 (some .int) ∈ GW := gw_of 505 rfl rfl
theorem wl_414 : Cond.methodLink RX5 197 yX5_moveDown ∈ GW := gw_of 506 (by decide +kernel) rfl
theorem wl_415 : Cond.instanceMethod yX5_moveDown ∈ GW := gw_of 508 (by decide +kernel) rfl
theorem wl_416 : Cond.selects RX5 yX5_moveDown yX5_moveDown ∈ GW := gw_of 7 (by decide +kernel) rfl
set_option maxRecDepth 100000 in
theorem wl_417 : Cond.code yX5_moveDown cX5_moveDown 5 none ∈ GW := gw_of 509 rfl rfl
theorem wl_418 : Cond.fieldLink RX5 201 "IceTongue$Band" "length" "I" ∈ GW := gw_of 116 (by decide +kernel) rfl
theorem wl_419 : Cond.methodLink RL 54 yX6_ifYears ∈ GW := gw_of 613 (by decide +kernel) rfl
theorem wl_420 : Cond.instanceMethod yX6_ifYears ∈ GW := gw_of 614 (by decide +kernel) rfl
theorem wl_421 : Cond.selects RX6 yX6_ifYears yX6_ifYears ∈ GW := gw_of 615 (by decide +kernel) rfl
set_option maxRecDepth 100000 in
theorem wl_422 : Cond.code yX6_ifYears cX6_ifYears 3 (some .int) ∈ GW := gw_of 616 rfl rfl
theorem wl_423 : Cond.methodLink RX6 227 yX5_bandIce ∈ GW := gw_of 519 (by decide +kernel) rfl
theorem wl_424 : Cond.methodLink RX6 230 yX5_oldestYear ∈ GW := gw_of 617 (by decide +kernel) rfl
theorem wl_425 : Cond.instanceMethod yX5_oldestYear ∈ GW := gw_of 618 (by decide +kernel) rfl
theorem wl_426 : Cond.selects RX5 yX5_oldestYear yX5_oldestYear ∈ GW := gw_of 619 (by decide +kernel) rfl
set_option maxRecDepth 100000 in
theorem wl_427 : Cond.code yX5_oldestYear cX5_oldestYear 3 (some .int) ∈ GW := gw_of 620 rfl rfl
theorem wl_428 : Cond.fieldLink RX5 144 "IceTongue$Layers" "oldest" "I" ∈ GW := gw_of 96 (by decide +kernel) rfl
theorem wl_429 : Cond.methodLink RX5 147 Lib.Math.min.name ∈ GW := gw_of 621 (by decide +kernel) rfl
theorem wl_430 : Cond.methodLink RL 57 yX6_yearsTo ∈ GW := gw_of 510 (by decide +kernel) rfl
theorem wl_431 : Cond.instanceMethod yX6_yearsTo ∈ GW := gw_of 511 (by decide +kernel) rfl
theorem wl_432 : Cond.selects RX6 yX6_yearsTo yX6_yearsTo ∈ GW := gw_of 512 (by decide +kernel) rfl
set_option maxRecDepth 100000 in
theorem wl_433 : Cond.code yX6_yearsTo cX6_yearsTo 4 (some .int) ∈ GW := gw_of 513 rfl rfl
theorem wl_434 : Cond.methodLink RX6 233 yX5_letYearGoBy ∈ GW := gw_of 514 (by decide +kernel) rfl
theorem wl_435 : Cond.methodLink RX6 236 yX6_isSoInTrial ∈ GW := gw_of 515 (by decide +kernel) rfl
theorem wl_436 : Cond.instanceMethod yX6_isSoInTrial ∈ GW := gw_of 517 (by decide +kernel) rfl
theorem wl_437 : Cond.selects RX6 yX6_isSoInTrial yX6_isSoInTrial ∈ GW := gw_of 8 (by decide +kernel) rfl
set_option maxRecDepth 100000 in
theorem wl_438 : Cond.code yX6_isSoInTrial cX6_isSoInTrial 3 (some .boolean) ∈ GW := gw_of 518 rfl rfl
theorem wl_439 : Cond.methodLink RL 87 yX6_type ∈ GW := gw_of 629 (by decide +kernel) rfl
theorem wl_440 : Cond.instanceMethod yX6_type ∈ GW := gw_of 630 (by decide +kernel) rfl
theorem wl_441 : Cond.selects RX6 yX6_type yX6_type ∈ GW := gw_of 631 (by decide +kernel) rfl
set_option maxRecDepth 100000 in
theorem wl_442 : Cond.code yX6_type cX6_type 2 (some .int) ∈ GW := gw_of 632 rfl rfl
theorem wl_443 : Cond.methodLink RX6 245 yX4_append ∈ GW := gw_of 633 (by decide +kernel) rfl
theorem wl_444 : Cond.instanceMethod yX4_append ∈ GW := gw_of 634 (by decide +kernel) rfl
theorem wl_445 : Cond.selects RX4 yX4_append yX4_append ∈ GW := gw_of 635 (by decide +kernel) rfl
set_option maxRecDepth 100000 in
theorem wl_446 : Cond.code yX4_append cX4_append 2 none ∈ GW := gw_of 636 rfl rfl
theorem wl_447 : Cond.methodLink RL 90 yX6_fault ∈ GW := gw_of 532 (by decide +kernel) rfl
theorem wl_448 : Cond.instanceMethod yX6_fault ∈ GW := gw_of 533 (by decide +kernel) rfl
theorem wl_449 : Cond.selects RX6 yX6_fault yX6_fault ∈ GW := gw_of 534 (by decide +kernel) rfl
set_option maxRecDepth 100000 in
theorem wl_450 : Cond.code yX6_fault cX6_fault 4 (some .int) ∈ GW := gw_of 535 rfl rfl
theorem wl_451 : Cond.methodLink RX6 249 yX6_possibleYears ∈ GW := gw_of 536 (by decide +kernel) rfl
theorem wl_452 : Cond.instanceMethod yX6_possibleYears ∈ GW := gw_of 538 (by decide +kernel) rfl
theorem wl_453 : Cond.selects RX6 yX6_possibleYears yX6_possibleYears ∈ GW := gw_of 9 (by decide +kernel) rfl
set_option maxRecDepth 100000 in
theorem wl_454 : Cond.code yX6_possibleYears cX6_possibleYears 3 (some .int) ∈ GW := gw_of 539 rfl rfl
theorem wl_455 : Cond.methodLink RX6 255 yX6_reasonAt ∈ GW := gw_of 540 (by decide +kernel) rfl
theorem wl_456 : Cond.instanceMethod yX6_reasonAt ∈ GW := gw_of 542 (by decide +kernel) rfl
theorem wl_457 : Cond.selects RX6 yX6_reasonAt yX6_reasonAt ∈ GW := gw_of 10 (by decide +kernel) rfl
set_option maxRecDepth 100000 in
theorem wl_458 : Cond.code yX6_reasonAt cX6_reasonAt 3 (some .int) ∈ GW := gw_of 543 rfl rfl
theorem wl_459 : Cond.methodLink RX6 264 yX4_endOfYear ∈ GW := gw_of 544 (by decide +kernel) rfl
theorem wl_460 : Cond.instanceMethod yX4_endOfYear ∈ GW := gw_of 545 (by decide +kernel) rfl
theorem wl_461 : Cond.selects RX4 yX4_endOfYear yX4_endOfYear ∈ GW := gw_of 546 (by decide +kernel) rfl
set_option maxRecDepth 100000 in
theorem wl_462 : Cond.code yX4_endOfYear cX4_endOfYear 4 (some .int) ∈ GW := gw_of 547 rfl rfl
theorem wl_463 : Cond.methodLink RX4 23 yX4_endOfNumber ∈ GW := gw_of 548 (by decide +kernel) rfl
theorem wl_464 : Cond.instanceMethod yX4_endOfNumber ∈ GW := gw_of 550 (by decide +kernel) rfl
theorem wl_465 : Cond.selects RX4 yX4_endOfNumber yX4_endOfNumber ∈ GW := gw_of 11 (by decide +kernel) rfl
set_option maxRecDepth 100000 in
theorem wl_466 : Cond.code yX4_endOfNumber cX4_endOfNumber 3 (some .int) ∈ GW := gw_of 551 rfl rfl
theorem wl_467 : Cond.methodLink RX4 19 yX4_isDigitAt ∈ GW := gw_of 552 (by decide +kernel) rfl
theorem wl_468 : Cond.instanceMethod yX4_isDigitAt ∈ GW := gw_of 554 (by decide +kernel) rfl
theorem wl_469 : Cond.selects RX4 yX4_isDigitAt yX4_isDigitAt ∈ GW := gw_of 12 (by decide +kernel) rfl
set_option maxRecDepth 100000 in
theorem wl_470 : Cond.code yX4_isDigitAt cX4_isDigitAt 2 (some .boolean) ∈ GW := gw_of 555 rfl rfl
theorem wl_471 : Cond.methodLink RX4 27 yX4_isSignAt ∈ GW := gw_of 556 (by decide +kernel) rfl
theorem wl_472 : Cond.instanceMethod yX4_isSignAt ∈ GW := gw_of 558 (by decide +kernel) rfl
theorem wl_473 : Cond.selects RX4 yX4_isSignAt yX4_isSignAt ∈ GW := gw_of 13 (by decide +kernel) rfl
set_option maxRecDepth 100000 in
theorem wl_474 : Cond.code yX4_isSignAt cX4_isSignAt 3 (some .boolean) ∈ GW := gw_of 559 rfl rfl
theorem wl_475 : Cond.methodLink RX6 258 yX4_snowOfYear ∈ GW := gw_of 560 (by decide +kernel) rfl
theorem wl_476 : Cond.instanceMethod yX4_snowOfYear ∈ GW := gw_of 561 (by decide +kernel) rfl
theorem wl_477 : Cond.selects RX4 yX4_snowOfYear yX4_snowOfYear ∈ GW := gw_of 562 (by decide +kernel) rfl
set_option maxRecDepth 100000 in
theorem wl_478 : Cond.code yX4_snowOfYear cX4_snowOfYear 2 (some .int) ∈ GW := gw_of 563 rfl rfl
theorem wl_479 : Cond.methodLink RX4 31 yX4_numberAt ∈ GW := gw_of 564 (by decide +kernel) rfl
theorem wl_480 : Cond.instanceMethod yX4_numberAt ∈ GW := gw_of 566 (by decide +kernel) rfl
theorem wl_481 : Cond.selects RX4 yX4_numberAt yX4_numberAt ∈ GW := gw_of 14 (by decide +kernel) rfl
set_option maxRecDepth 100000 in
theorem wl_482 : Cond.code yX4_numberAt cX4_numberAt 5 (some .int) ∈ GW := gw_of 567 rfl rfl
theorem wl_483 : Cond.methodLink RX6 261 yX4_meltOfYear ∈ GW := gw_of 568 (by decide +kernel) rfl
theorem wl_484 : Cond.instanceMethod yX4_meltOfYear ∈ GW := gw_of 569 (by decide +kernel) rfl
theorem wl_485 : Cond.selects RX4 yX4_meltOfYear yX4_meltOfYear ∈ GW := gw_of 570 (by decide +kernel) rfl
set_option maxRecDepth 100000 in
theorem wl_486 : Cond.code yX4_meltOfYear cX4_meltOfYear 2 (some .int) ∈ GW := gw_of 571 rfl rfl
theorem wl_487 : Cond.methodLink RX6 252 yX4_startOfYear ∈ GW := gw_of 572 (by decide +kernel) rfl
theorem wl_488 : Cond.instanceMethod yX4_startOfYear ∈ GW := gw_of 573 (by decide +kernel) rfl
theorem wl_489 : Cond.selects RX4 yX4_startOfYear yX4_startOfYear ∈ GW := gw_of 574 (by decide +kernel) rfl
set_option maxRecDepth 100000 in
theorem wl_490 : Cond.code yX4_startOfYear cX4_startOfYear 4 (some .int) ∈ GW := gw_of 575 rfl rfl
theorem wl_491 : Cond.methodLink RX4 34 yX4_endOfYear ∈ GW := gw_of 576 (by decide +kernel) rfl
theorem wl_492 : Cond.methodLink RL 61 yX6_undo ∈ GW := gw_of 528 (by decide +kernel) rfl
theorem wl_493 : Cond.instanceMethod yX6_undo ∈ GW := gw_of 529 (by decide +kernel) rfl
theorem wl_494 : Cond.selects RX6 yX6_undo yX6_undo ∈ GW := gw_of 530 (by decide +kernel) rfl
set_option maxRecDepth 100000 in
theorem wl_495 : Cond.code yX6_undo cX6_undo 2 (some .int) ∈ GW := gw_of 531 rfl rfl
theorem wl_496 : Cond.methodLink RL 99 yL_sound ∈ GW := gw_of 585 (by decide +kernel) rfl
theorem wl_497 : Cond.static yL_sound ∈ GW := gw_of 586 (by decide +kernel) rfl
set_option maxRecDepth 100000 in
theorem wl_498 : Cond.code yL_sound cL_sound 14 (some .boolean) ∈ GW := gw_of 587 rfl rfl
theorem wl_499 : Cond.methodLink RL 42 yX6_line ∈ GW := gw_of 602 (by decide +kernel) rfl
theorem wl_500 : Cond.instanceMethod yX6_line ∈ GW := gw_of 603 (by decide +kernel) rfl
theorem wl_501 : Cond.selects RX6 yX6_line yX6_line ∈ GW := gw_of 604 (by decide +kernel) rfl
set_option maxRecDepth 100000 in
theorem wl_502 : Cond.code yX6_line cX6_line 3 (some .int) ∈ GW := gw_of 605 rfl rfl
theorem wl_503 : Cond.methodLink RL 64 yX6_steadyMelt ∈ GW := gw_of 520 (by decide +kernel) rfl
theorem wl_504 : Cond.instanceMethod yX6_steadyMelt ∈ GW := gw_of 521 (by decide +kernel) rfl
theorem wl_505 : Cond.selects RX6 yX6_steadyMelt yX6_steadyMelt ∈ GW := gw_of 522 (by decide +kernel) rfl
set_option maxRecDepth 100000 in
theorem wl_506 : Cond.code yX6_steadyMelt cX6_steadyMelt 3 (some .int) ∈ GW := gw_of 523 rfl rfl
theorem wl_507 : Cond.methodLink RX6 239 yX5_snowOutweighsMelt ∈ GW := gw_of 524 (by decide +kernel) rfl
theorem wl_508 : Cond.instanceMethod yX5_snowOutweighsMelt ∈ GW := gw_of 525 (by decide +kernel) rfl
theorem wl_509 : Cond.selects RX5 yX5_snowOutweighsMelt yX5_snowOutweighsMelt ∈ GW := gw_of 526 (by decide +kernel) rfl
set_option maxRecDepth 100000 in
theorem wl_510 : Cond.code yX5_snowOutweighsMelt cX5_snowOutweighsMelt 4 (some .boolean) ∈ GW := gw_of 527 rfl rfl
theorem wl_511 : Cond.methodLink RL 102 yL_lot ∈ GW := gw_of 577 (by decide +kernel) rfl
theorem wl_512 : Cond.static yL_lot ∈ GW := gw_of 578 (by decide +kernel) rfl
set_option maxRecDepth 100000 in
theorem wl_513 : Cond.code yL_lot cL_lot 2 (some .int) ∈ GW := gw_of 579 rfl rfl
theorem wl_514 : Cond.constant RL 7 (-2049193025) ∈ GW := gw_of 580 (by decide +kernel) rfl
theorem wl_515 : Cond.methodLink RL 51 yL_low ∈ GW := gw_of 581 (by decide +kernel) rfl
theorem wl_516 : Cond.static yL_low ∈ GW := gw_of 582 (by decide +kernel) rfl
set_option maxRecDepth 100000 in
theorem wl_517 : Cond.code yL_low cL_low 2 (some .int) ∈ GW := gw_of 583 rfl rfl
theorem wl_518 : Cond.constant RL 8 (2147483647) ∈ GW := gw_of 584 (by decide +kernel) rfl
theorem wl_519 : Cond.methodLink RL 106 yL_year ∈ GW := gw_of 606 (by decide +kernel) rfl
theorem wl_520 : Cond.static yL_year ∈ GW := gw_of 607 (by decide +kernel) rfl
set_option maxRecDepth 100000 in
theorem wl_521 : Cond.code yL_year cL_year 19 (some .boolean) ∈ GW := gw_of 608 rfl rfl
theorem wl_522 : Cond.constantLong RL 49 (1000) ∈ GW := gw_of 609 (by decide +kernel) rfl
theorem wl_523 : Cond.methodLink RL 109 yL_thoughts ∈ GW := gw_of 610 (by decide +kernel) rfl
theorem wl_524 : Cond.static yL_thoughts ∈ GW := gw_of 611 (by decide +kernel) rfl
set_option maxRecDepth 100000 in
theorem wl_525 : Cond.code yL_thoughts cL_thoughts 15 (some .boolean) ∈ GW := gw_of 612 rfl rfl
theorem inlX0 : ∀ w ∈ wsX00, w ∈ GW := gw_sub [128, 130, 132, 134, 136, 138, 140] (by decide +kernel) (by decide +kernel)
theorem inlX1 : ∀ w ∈ wsX10, w ∈ GW := gw_sub [68, 70, 72, 74] (by decide +kernel) (by decide +kernel)
theorem inlX2 : ∀ w ∈ wsX20, w ∈ GW := gw_sub [99, 101, 103, 105] (by decide +kernel) (by decide +kernel)
theorem inlX3 : ∀ w ∈ wsX30, w ∈ GW := gw_sub [166, 168, 170, 172, 174, 176] (by decide +kernel) (by decide +kernel)
theorem inlX4 : ∀ w ∈ wsX40, w ∈ GW := gw_sub [234, 236] (by decide +kernel) (by decide +kernel)
theorem inlX5 : ∀ w ∈ wsX50, w ∈ GW := gw_sub [201, 203, 205, 207, 209, 211, 213, 215, 217, 219, 221] (by decide +kernel) (by decide +kernel)
theorem inlX6 : ∀ w ∈ wsX60, w ∈ GW := gw_sub [245, 247, 249, 251, 253] (by decide +kernel) (by decide +kernel)
set_option maxRecDepth 100000 in
theorem wl_good : GW.all goodWord = true := List.all_eq_true.mpr (fun w h => (List.mem_filter.mp h).2)
theorem wl_in (w : Cond) (ws : List Cond) (h : w ∈ GW) (hg : goodWord w = true) : ∀ v ∈ w :: GW, v ∈ GW ∧ ((v.onTables && v.keeps) = true ∨ ∃ ty, v = .arrayClass ty) := by
  intro v hv
  rcases List.mem_cons.mp hv with rfl | hv
  · exact ⟨h, good_of_word hg⟩
  · exact ⟨hv, good_of_word (List.all_eq_true.mp wl_good v hv)⟩
theorem wl_goodIn {w : Cond} (h : w ∈ GW) : GoodIn GW (w :: GW) := fun v hv => wl_in w [] h (List.all_eq_true.mp wl_good w h) v hv
theorem wl_goodV {own C : String} {idx : Nat} {y : MethodName} {w : Cond} (h1 : Cond.methodLink own idx y ∈ GW) (h2 : Cond.instanceMethod y ∈ GW) (h3 : Cond.selects C y y ∈ GW) (h4 : Cond.initialized C ∈ GW) (h : w ∈ GW) : GoodIn GW (wsV own idx C y (w :: GW)) := by
  intro v hv
  rcases List.mem_append.mp hv with hv | hv
  · have hm : v ∈ GW := by
      simp only [List.mem_cons, List.not_mem_nil, or_false] at hv
      rcases hv with rfl | rfl | rfl | rfl <;> assumption
    exact ⟨hm, good_of_word (List.all_eq_true.mp wl_good v hm)⟩
  · exact wl_goodIn h v hv
theorem wl_goodS {own : String} {idx : Nat} {y : MethodName} {w : Cond} (h1 : Cond.methodLink own idx y ∈ GW) (h2 : Cond.static y ∈ GW) (h4 : Cond.initialized own ∈ GW) (h : w ∈ GW) : GoodIn GW (wsS own idx y (w :: GW)) := by
  intro v hv
  rcases List.mem_append.mp hv with hv | hv
  · have hm : v ∈ GW := by
      simp only [List.mem_cons, List.not_mem_nil, or_false] at hv
      rcases hv with rfl | rfl | rfl <;> assumption
    exact ⟨hm, good_of_word (List.all_eq_true.mp wl_good v hm)⟩
  · exact wl_goodIn h v hv
