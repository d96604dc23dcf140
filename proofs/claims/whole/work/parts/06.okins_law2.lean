theorem ex_lawseg_5 : (List.range' 300 60).all (ex_okP 161) = true := by decide +kernel
theorem ex_lawseg_6 : (List.range' 360 60).all (ex_okP 161) = true := by decide +kernel
theorem ex_lawseg_7 : (List.range' 420 60).all (ex_okP 161) = true := by decide +kernel
theorem ex_lawseg_8 : (List.range' 480 60).all (ex_okP 161) = true := by decide +kernel
theorem ex_lawseg_9 : (List.range' 540 60).all (ex_okP 161) = true := by decide +kernel
