def nxR : List Cond := nxAt RX4 76 "java/util/NoSuchElementException" 13 prog_27_method_4_code "java/lang/RuntimeException" ["java/lang/Exception"]
def nxG : List Cond := nxR.filter goodWord
theorem nxd_0 : decode prog_27_method_4_code 0 = .ok (.aload_n 0, 1) := by decide +kernel
theorem nxd_1 : decode prog_27_method_4_code 1 = .ok (.aload_n 1, 1) := by decide +kernel
theorem nxd_2 : decode prog_27_method_4_code 2 = .ok (.invokespecial 13, 3) := by decide +kernel
theorem nxd_5 : decode prog_27_method_4_code 5 = .ok (.return_, 1) := by decide +kernel
