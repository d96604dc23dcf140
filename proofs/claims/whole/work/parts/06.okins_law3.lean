theorem ex_lawseg_10 : (List.range' 600 60).all (ex_okP 161) = true := by decide +kernel
theorem ex_lawseg_11 : (List.range' 660 60).all (ex_okP 161) = true := by decide +kernel
theorem ex_lawseg_12 : (List.range' 720 60).all (ex_okP 161) = true := by decide +kernel
theorem ex_lawseg_13 : (List.range' 780 60).all (ex_okP 161) = true := by decide +kernel
theorem ex_lawseg_14 : (List.range' 840 34).all (ex_okP 161) = true := by decide +kernel
