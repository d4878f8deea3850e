/-! what is thrown -/
theorem tw_nb : pm_tw "ElasticNets" 171 173 175 "java/lang/IllegalStateException" "it is not built" ["java/lang/RuntimeException", "java/lang/Exception"] := by
  unfold pm_tw
  decide +kernel
theorem tw_bt : pm_tw "ElasticNets" 171 176 175 "java/lang/IllegalStateException" "it is built" ["java/lang/RuntimeException", "java/lang/Exception"] := by
  unfold pm_tw
  decide +kernel
theorem tw_op : pm_tw "ElasticNets" 52 54 56 "java/lang/IllegalArgumentException" "no such operation" ["java/lang/RuntimeException", "java/lang/Exception"] := by
  unfold pm_tw
  decide +kernel
theorem tw_no : pm_tw "ElasticNets" 52 178 56 "java/lang/IllegalArgumentException" "no such number" ["java/lang/RuntimeException", "java/lang/Exception"] := by
  unfold pm_tw
  decide +kernel
theorem tw_vl : pm_tw "ElasticNets" 141 143 145 "java/lang/IndexOutOfBoundsException" "the port has not got so many" ["java/lang/RuntimeException", "java/lang/Exception"] := by
  unfold pm_tw
  decide +kernel
theorem tw_cy : pm_tw "ElasticNets" 141 153 145 "java/lang/IndexOutOfBoundsException" "no such cycle, or nothing was taken for it" ["java/lang/RuntimeException", "java/lang/Exception"] := by
  unfold pm_tw
  decide +kernel
