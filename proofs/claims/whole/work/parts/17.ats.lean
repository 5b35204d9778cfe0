theorem at_xIA_114 : ∀ x ∈ vx_atS "StockDesk" 114 xIA ["java/lang/RuntimeException", "java/lang/Exception"], x ∈ sd_all ∨ x ∈ sd_nws := sd_at (by decide +kernel)
theorem gd_xIA_110_114 : ∀ x ∈ Cond.classLink "StockDesk" 110 xIA :: Cond.initialized xIA :: vx_atS "StockDesk" 114 xIA ["java/lang/RuntimeException", "java/lang/Exception"], vx_ot x = true := by decide +kernel
theorem at_xNS_158 : ∀ x ∈ sd_atX "StockDesk" 158 xNS 13 prog_13_method_4_code "java/lang/RuntimeException" ["java/lang/Exception"], x ∈ sd_all ∨ x ∈ sd_nws := sd_at (by decide +kernel)
theorem gd_xNS_154_158 : ∀ x ∈ Cond.classLink "StockDesk" 154 xNS :: Cond.initialized xNS :: sd_atX "StockDesk" 158 xNS 13 prog_13_method_4_code "java/lang/RuntimeException" ["java/lang/Exception"], vx_ot x = true := by decide +kernel
theorem at_xUO_38 : ∀ x ∈ vx_atS "StockDesk" 38 xUO ["java/lang/RuntimeException", "java/lang/Exception"], x ∈ sd_all ∨ x ∈ sd_nws := sd_at (by decide +kernel)
theorem gd_xUO_34_38 : ∀ x ∈ Cond.classLink "StockDesk" 34 xUO :: Cond.initialized xUO :: vx_atS "StockDesk" 38 xUO ["java/lang/RuntimeException", "java/lang/Exception"], vx_ot x = true := by decide +kernel
theorem at_xIS_73 : ∀ x ∈ vx_atS "StockDesk" 73 xIS ["java/lang/RuntimeException", "java/lang/Exception"], x ∈ sd_all ∨ x ∈ sd_nws := sd_at (by decide +kernel)
theorem gd_xIS_69_73 : ∀ x ∈ Cond.classLink "StockDesk" 69 xIS :: Cond.initialized xIS :: vx_atS "StockDesk" 73 xIS ["java/lang/RuntimeException", "java/lang/Exception"], vx_ot x = true := by decide +kernel
