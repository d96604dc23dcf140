theorem ex_lawseg_0 : (List.range' 0 60).all (ex_okP 161) = true := by decide +kernel
theorem ex_lawseg_1 : (List.range' 60 60).all (ex_okP 161) = true := by decide +kernel
theorem ex_lawseg_2 : (List.range' 120 60).all (ex_okP 161) = true := by decide +kernel
theorem ex_lawseg_3 : (List.range' 180 60).all (ex_okP 161) = true := by decide +kernel
theorem ex_lawseg_4 : (List.range' 240 60).all (ex_okP 161) = true := by decide +kernel
