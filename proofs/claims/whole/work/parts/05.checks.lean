/-! WHAT THE TABLES SAY, checked by the kernel: the code rows, links, layouts. -/
def ex_wb (w : Jvm.Cond) : Bool := decide (w ∈ lw_tbl) && goodWord w
theorem ex_wb_at {w : Jvm.Cond} (i : Nat) (h : lw_tbl[i]? = some w) (g : goodWord w = true) : w ∈ lw_tbl ∧ goodWord w = true := ⟨List.mem_of_getElem? h, g⟩
theorem ex_wb_of {w : Jvm.Cond} (h : ex_wb w = true) : w ∈ lw_tbl ∧ goodWord w = true := by
  unfold ex_wb at h
  rw [Bool.and_eq_true, decide_eq_true_eq] at h
  exact h
def ex_T (ci : Nat) : vw_C := vwCl.getD ci ("", TX2, 0)
def ex_o (k : Nat) : String := ex_own.getD k ""
abbrev ex_nm (y : Nat) : MethodName := (ex_m y).1
abbrev ex_by (y : Nat) : ByteArray := (ex_m y).2.1
abbrev ex_mL (y : Nat) : Nat := (ex_m y).2.2.1
abbrev ex_rt (y : Nat) : Option FieldType := (ex_m y).2.2.2.1
abbrev ex_ow (y : Nat) : Nat := (ex_m y).2.2.2.2.1
abbrev ex_na (y : Nat) : Nat := (ex_m y).2.2.2.2.2.1
abbrev ex_fr (y : Nat) : Nat := (ex_m y).2.2.2.2.2.2.1
abbrev ex_lo (y : Nat) : Nat := (ex_m y).2.2.2.2.2.2.2
def ex_nest : List Jvm.Cond := [.methodLinkNest RX5 17 yX3_init RX8, .methodLinkNest RX4 19 yX8_isWithin RX8, .methodLinkNest RX3 30 yX8_isWithin RX8, .methodLinkNest RX8 47 yX6_init RX8, .methodLinkNest RX8 40 yX0_init RX8, .methodLinkNest RX8 9 yX4_init RX8]
set_option maxRecDepth 100000 in
theorem ex_ci_0 : lw_tbl[310]? = some (Jvm.Cond.code (ex_nm 0) (ex_by 0) (ex_mL 0) (ex_rt 0)) := rfl
set_option maxRecDepth 100000 in
theorem ex_ci_1 : lw_tbl[504]? = some (Jvm.Cond.code (ex_nm 1) (ex_by 1) (ex_mL 1) (ex_rt 1)) := rfl
set_option maxRecDepth 100000 in
theorem ex_ci_2 : lw_tbl[516]? = some (Jvm.Cond.code (ex_nm 2) (ex_by 2) (ex_mL 2) (ex_rt 2)) := rfl
set_option maxRecDepth 100000 in
theorem ex_ci_3 : lw_tbl[541]? = some (Jvm.Cond.code (ex_nm 3) (ex_by 3) (ex_mL 3) (ex_rt 3)) := rfl
set_option maxRecDepth 100000 in
theorem ex_ci_4 : lw_tbl[549]? = some (Jvm.Cond.code (ex_nm 4) (ex_by 4) (ex_mL 4) (ex_rt 4)) := rfl
set_option maxRecDepth 100000 in
theorem ex_ci_5 : lw_tbl[524]? = some (Jvm.Cond.code (ex_nm 5) (ex_by 5) (ex_mL 5) (ex_rt 5)) := rfl
set_option maxRecDepth 100000 in
theorem ex_ci_6 : lw_tbl[558]? = some (Jvm.Cond.code (ex_nm 6) (ex_by 6) (ex_mL 6) (ex_rt 6)) := rfl
set_option maxRecDepth 100000 in
theorem ex_ci_7 : lw_tbl[581]? = some (Jvm.Cond.code (ex_nm 7) (ex_by 7) (ex_mL 7) (ex_rt 7)) := rfl
set_option maxRecDepth 100000 in
theorem ex_ci_8 : lw_tbl[97]? = some (Jvm.Cond.code (ex_nm 8) (ex_by 8) (ex_mL 8) (ex_rt 8)) := rfl
set_option maxRecDepth 100000 in
theorem ex_ci_9 : lw_tbl[174]? = some (Jvm.Cond.code (ex_nm 9) (ex_by 9) (ex_mL 9) (ex_rt 9)) := rfl
set_option maxRecDepth 100000 in
theorem ex_ci_10 : lw_tbl[170]? = some (Jvm.Cond.code (ex_nm 10) (ex_by 10) (ex_mL 10) (ex_rt 10)) := rfl
set_option maxRecDepth 100000 in
theorem ex_ci_11 : lw_tbl[187]? = some (Jvm.Cond.code (ex_nm 11) (ex_by 11) (ex_mL 11) (ex_rt 11)) := rfl
set_option maxRecDepth 100000 in
theorem ex_ci_12 : lw_tbl[456]? = some (Jvm.Cond.code (ex_nm 12) (ex_by 12) (ex_mL 12) (ex_rt 12)) := rfl
set_option maxRecDepth 100000 in
theorem ex_ci_13 : lw_tbl[472]? = some (Jvm.Cond.code (ex_nm 13) (ex_by 13) (ex_mL 13) (ex_rt 13)) := rfl
set_option maxRecDepth 100000 in
theorem ex_ci_14 : lw_tbl[444]? = some (Jvm.Cond.code (ex_nm 14) (ex_by 14) (ex_mL 14) (ex_rt 14)) := rfl
set_option maxRecDepth 100000 in
theorem ex_ci_15 : lw_tbl[448]? = some (Jvm.Cond.code (ex_nm 15) (ex_by 15) (ex_mL 15) (ex_rt 15)) := rfl
set_option maxRecDepth 100000 in
theorem ex_ci_16 : lw_tbl[452]? = some (Jvm.Cond.code (ex_nm 16) (ex_by 16) (ex_mL 16) (ex_rt 16)) := rfl
set_option maxRecDepth 100000 in
theorem ex_ci_17 : lw_tbl[432]? = some (Jvm.Cond.code (ex_nm 17) (ex_by 17) (ex_mL 17) (ex_rt 17)) := rfl
set_option maxRecDepth 100000 in
theorem ex_ci_18 : lw_tbl[428]? = some (Jvm.Cond.code (ex_nm 18) (ex_by 18) (ex_mL 18) (ex_rt 18)) := rfl
set_option maxRecDepth 100000 in
theorem ex_ci_19 : lw_tbl[191]? = some (Jvm.Cond.code (ex_nm 19) (ex_by 19) (ex_mL 19) (ex_rt 19)) := rfl
set_option maxRecDepth 100000 in
theorem ex_ci_20 : lw_tbl[195]? = some (Jvm.Cond.code (ex_nm 20) (ex_by 20) (ex_mL 20) (ex_rt 20)) := rfl
set_option maxRecDepth 100000 in
theorem ex_ci_21 : lw_tbl[199]? = some (Jvm.Cond.code (ex_nm 21) (ex_by 21) (ex_mL 21) (ex_rt 21)) := rfl
set_option maxRecDepth 100000 in
theorem ex_ci_22 : lw_tbl[202]? = some (Jvm.Cond.code (ex_nm 22) (ex_by 22) (ex_mL 22) (ex_rt 22)) := rfl
set_option maxRecDepth 100000 in
theorem ex_ci_23 : lw_tbl[205]? = some (Jvm.Cond.code (ex_nm 23) (ex_by 23) (ex_mL 23) (ex_rt 23)) := rfl
set_option maxRecDepth 100000 in
theorem ex_ci_24 : lw_tbl[608]? = some (Jvm.Cond.code (ex_nm 24) (ex_by 24) (ex_mL 24) (ex_rt 24)) := rfl
set_option maxRecDepth 100000 in
theorem ex_ci_25 : lw_tbl[605]? = some (Jvm.Cond.code (ex_nm 25) (ex_by 25) (ex_mL 25) (ex_rt 25)) := rfl
set_option maxRecDepth 100000 in
theorem ex_ci_26 : lw_tbl[261]? = some (Jvm.Cond.code (ex_nm 26) (ex_by 26) (ex_mL 26) (ex_rt 26)) := rfl
set_option maxRecDepth 100000 in
theorem ex_ci_27 : lw_tbl[280]? = some (Jvm.Cond.code (ex_nm 27) (ex_by 27) (ex_mL 27) (ex_rt 27)) := rfl
set_option maxRecDepth 100000 in
theorem ex_ci_28 : lw_tbl[288]? = some (Jvm.Cond.code (ex_nm 28) (ex_by 28) (ex_mL 28) (ex_rt 28)) := rfl
set_option maxRecDepth 100000 in
theorem ex_ci_29 : lw_tbl[508]? = some (Jvm.Cond.code (ex_nm 29) (ex_by 29) (ex_mL 29) (ex_rt 29)) := rfl
set_option maxRecDepth 100000 in
theorem ex_ci_30 : lw_tbl[520]? = some (Jvm.Cond.code (ex_nm 30) (ex_by 30) (ex_mL 30) (ex_rt 30)) := rfl
set_option maxRecDepth 100000 in
theorem ex_ci_31 : lw_tbl[284]? = some (Jvm.Cond.code (ex_nm 31) (ex_by 31) (ex_mL 31) (ex_rt 31)) := rfl
set_option maxRecDepth 100000 in
theorem ex_ci_32 : lw_tbl[587]? = some (Jvm.Cond.code (ex_nm 32) (ex_by 32) (ex_mL 32) (ex_rt 32)) := rfl
set_option maxRecDepth 100000 in
theorem ex_ci_33 : lw_tbl[530]? = some (Jvm.Cond.code (ex_nm 33) (ex_by 33) (ex_mL 33) (ex_rt 33)) := rfl
set_option maxRecDepth 100000 in
theorem ex_ci_34 : lw_tbl[567]? = some (Jvm.Cond.code (ex_nm 34) (ex_by 34) (ex_mL 34) (ex_rt 34)) := rfl
set_option maxRecDepth 100000 in
theorem ex_ci_35 : lw_tbl[576]? = some (Jvm.Cond.code (ex_nm 35) (ex_by 35) (ex_mL 35) (ex_rt 35)) := rfl
set_option maxRecDepth 100000 in
theorem ex_ci_36 : lw_tbl[81]? = some (Jvm.Cond.code (ex_nm 36) (ex_by 36) (ex_mL 36) (ex_rt 36)) := rfl
set_option maxRecDepth 100000 in
theorem ex_ci_37 : lw_tbl[382]? = some (Jvm.Cond.code (ex_nm 37) (ex_by 37) (ex_mL 37) (ex_rt 37)) := rfl
set_option maxRecDepth 100000 in
theorem ex_ci_38 : lw_tbl[386]? = some (Jvm.Cond.code (ex_nm 38) (ex_by 38) (ex_mL 38) (ex_rt 38)) := rfl
set_option maxRecDepth 100000 in
theorem ex_ci_39 : lw_tbl[394]? = some (Jvm.Cond.code (ex_nm 39) (ex_by 39) (ex_mL 39) (ex_rt 39)) := rfl
set_option maxRecDepth 100000 in
theorem ex_ci_40 : lw_tbl[402]? = some (Jvm.Cond.code (ex_nm 40) (ex_by 40) (ex_mL 40) (ex_rt 40)) := rfl
set_option maxRecDepth 100000 in
theorem ex_ci_41 : lw_tbl[406]? = some (Jvm.Cond.code (ex_nm 41) (ex_by 41) (ex_mL 41) (ex_rt 41)) := rfl
set_option maxRecDepth 100000 in
theorem ex_ci_42 : lw_tbl[424]? = some (Jvm.Cond.code (ex_nm 42) (ex_by 42) (ex_mL 42) (ex_rt 42)) := rfl
set_option maxRecDepth 100000 in
theorem ex_ci_43 : lw_tbl[415]? = some (Jvm.Cond.code (ex_nm 43) (ex_by 43) (ex_mL 43) (ex_rt 43)) := rfl
set_option maxRecDepth 100000 in
theorem ex_ci_44 : lw_tbl[255]? = some (Jvm.Cond.code (ex_nm 44) (ex_by 44) (ex_mL 44) (ex_rt 44)) := rfl
set_option maxRecDepth 100000 in
theorem ex_ci_45 : lw_tbl[642]? = some (Jvm.Cond.code (ex_nm 45) (ex_by 45) (ex_mL 45) (ex_rt 45)) := rfl
set_option maxRecDepth 100000 in
theorem ex_ci_46 : lw_tbl[373]? = some (Jvm.Cond.code (ex_nm 46) (ex_by 46) (ex_mL 46) (ex_rt 46)) := rfl
set_option maxRecDepth 100000 in
theorem ex_ci_47 : lw_tbl[512]? = some (Jvm.Cond.code (ex_nm 47) (ex_by 47) (ex_mL 47) (ex_rt 47)) := rfl
set_option maxRecDepth 100000 in
theorem ex_ci_48 : lw_tbl[326]? = some (Jvm.Cond.code (ex_nm 48) (ex_by 48) (ex_mL 48) (ex_rt 48)) := rfl
set_option maxRecDepth 100000 in
theorem ex_ci_49 : lw_tbl[601]? = some (Jvm.Cond.code (ex_nm 49) (ex_by 49) (ex_mL 49) (ex_rt 49)) := rfl
set_option maxRecDepth 100000 in
theorem ex_ci_50 : lw_tbl[614]? = some (Jvm.Cond.code (ex_nm 50) (ex_by 50) (ex_mL 50) (ex_rt 50)) := rfl
set_option maxRecDepth 100000 in
theorem ex_ci_51 : lw_tbl[618]? = some (Jvm.Cond.code (ex_nm 51) (ex_by 51) (ex_mL 51) (ex_rt 51)) := rfl
set_option maxRecDepth 100000 in
theorem ex_ci_52 : lw_tbl[622]? = some (Jvm.Cond.code (ex_nm 52) (ex_by 52) (ex_mL 52) (ex_rt 52)) := rfl
set_option maxRecDepth 100000 in
theorem ex_ci_53 : lw_tbl[628]? = some (Jvm.Cond.code (ex_nm 53) (ex_by 53) (ex_mL 53) (ex_rt 53)) := rfl
set_option maxRecDepth 100000 in
theorem ex_ci_54 : lw_tbl[103]? = some (Jvm.Cond.code (ex_nm 54) (ex_by 54) (ex_mL 54) (ex_rt 54)) := rfl
set_option maxRecDepth 100000 in
theorem ex_ci_55 : lw_tbl[108]? = some (Jvm.Cond.code (ex_nm 55) (ex_by 55) (ex_mL 55) (ex_rt 55)) := rfl
set_option maxRecDepth 100000 in
theorem ex_ci_56 : lw_tbl[112]? = some (Jvm.Cond.code (ex_nm 56) (ex_by 56) (ex_mL 56) (ex_rt 56)) := rfl
set_option maxRecDepth 100000 in
theorem ex_ci_57 : lw_tbl[115]? = some (Jvm.Cond.code (ex_nm 57) (ex_by 57) (ex_mL 57) (ex_rt 57)) := rfl
set_option maxRecDepth 100000 in
theorem ex_ci_58 : lw_tbl[183]? = some (Jvm.Cond.code (ex_nm 58) (ex_by 58) (ex_mL 58) (ex_rt 58)) := rfl
set_option maxRecDepth 100000 in
theorem ex_ci_59 : lw_tbl[179]? = some (Jvm.Cond.code (ex_nm 59) (ex_by 59) (ex_mL 59) (ex_rt 59)) := rfl
set_option maxRecDepth 100000 in
theorem ex_ci_60 : lw_tbl[73]? = some (Jvm.Cond.code (ex_nm 60) (ex_by 60) (ex_mL 60) (ex_rt 60)) := rfl
set_option maxRecDepth 100000 in
theorem ex_ci_61 : lw_tbl[366]? = some (Jvm.Cond.code (ex_nm 61) (ex_by 61) (ex_mL 61) (ex_rt 61)) := rfl
set_option maxRecDepth 100000 in
theorem ex_ci_62 : lw_tbl[378]? = some (Jvm.Cond.code (ex_nm 62) (ex_by 62) (ex_mL 62) (ex_rt 62)) := rfl
set_option maxRecDepth 100000 in
theorem ex_ci_63 : lw_tbl[390]? = some (Jvm.Cond.code (ex_nm 63) (ex_by 63) (ex_mL 63) (ex_rt 63)) := rfl
set_option maxRecDepth 100000 in
theorem ex_ci_64 : lw_tbl[398]? = some (Jvm.Cond.code (ex_nm 64) (ex_by 64) (ex_mL 64) (ex_rt 64)) := rfl
set_option maxRecDepth 100000 in
theorem ex_ci_65 : lw_tbl[411]? = some (Jvm.Cond.code (ex_nm 65) (ex_by 65) (ex_mL 65) (ex_rt 65)) := rfl
set_option maxRecDepth 100000 in
theorem ex_ci_66 : lw_tbl[420]? = some (Jvm.Cond.code (ex_nm 66) (ex_by 66) (ex_mL 66) (ex_rt 66)) := rfl
set_option maxRecDepth 100000 in
theorem ex_ci_67 : lw_tbl[436]? = some (Jvm.Cond.code (ex_nm 67) (ex_by 67) (ex_mL 67) (ex_rt 67)) := rfl
set_option maxRecDepth 100000 in
theorem ex_ci_68 : lw_tbl[460]? = some (Jvm.Cond.code (ex_nm 68) (ex_by 68) (ex_mL 68) (ex_rt 68)) := rfl
set_option maxRecDepth 100000 in
theorem ex_ci_69 : lw_tbl[464]? = some (Jvm.Cond.code (ex_nm 69) (ex_by 69) (ex_mL 69) (ex_rt 69)) := rfl
set_option maxRecDepth 100000 in
theorem ex_ci_70 : lw_tbl[468]? = some (Jvm.Cond.code (ex_nm 70) (ex_by 70) (ex_mL 70) (ex_rt 70)) := rfl
set_option maxRecDepth 100000 in
theorem ex_ci_71 : lw_tbl[476]? = some (Jvm.Cond.code (ex_nm 71) (ex_by 71) (ex_mL 71) (ex_rt 71)) := rfl
set_option maxRecDepth 100000 in
theorem ex_ci_72 : lw_tbl[484]? = some (Jvm.Cond.code (ex_nm 72) (ex_by 72) (ex_mL 72) (ex_rt 72)) := rfl
set_option maxRecDepth 100000 in
theorem ex_ci_73 : lw_tbl[496]? = some (Jvm.Cond.code (ex_nm 73) (ex_by 73) (ex_mL 73) (ex_rt 73)) := rfl
set_option maxRecDepth 100000 in
theorem ex_ci_74 : lw_tbl[500]? = some (Jvm.Cond.code (ex_nm 74) (ex_by 74) (ex_mL 74) (ex_rt 74)) := rfl
set_option maxRecDepth 100000 in
theorem ex_ci_75 : lw_tbl[537]? = some (Jvm.Cond.code (ex_nm 75) (ex_by 75) (ex_mL 75) (ex_rt 75)) := rfl
set_option maxRecDepth 100000 in
theorem ex_ci_76 : lw_tbl[545]? = some (Jvm.Cond.code (ex_nm 76) (ex_by 76) (ex_mL 76) (ex_rt 76)) := rfl
set_option maxRecDepth 100000 in
theorem ex_ci_77 : lw_tbl[554]? = some (Jvm.Cond.code (ex_nm 77) (ex_by 77) (ex_mL 77) (ex_rt 77)) := rfl
set_option maxRecDepth 100000 in
theorem ex_ci_78 : lw_tbl[563]? = some (Jvm.Cond.code (ex_nm 78) (ex_by 78) (ex_mL 78) (ex_rt 78)) := rfl
set_option maxRecDepth 100000 in
theorem ex_ci_79 : lw_tbl[572]? = some (Jvm.Cond.code (ex_nm 79) (ex_by 79) (ex_mL 79) (ex_rt 79)) := rfl
set_option maxRecDepth 100000 in
theorem ex_ci_80 : lw_tbl[593]? = some (Jvm.Cond.code (ex_nm 80) (ex_by 80) (ex_mL 80) (ex_rt 80)) := rfl
set_option maxRecDepth 100000 in
theorem ex_ci_81 : lw_tbl[633]? = some (Jvm.Cond.code (ex_nm 81) (ex_by 81) (ex_mL 81) (ex_rt 81)) := rfl
set_option maxRecDepth 100000 in
theorem ex_ci_82 : lw_tbl[638]? = some (Jvm.Cond.code (ex_nm 82) (ex_by 82) (ex_mL 82) (ex_rt 82)) := rfl
set_option maxRecDepth 100000 in
theorem ex_ci_83 : lw_tbl[647]? = some (Jvm.Cond.code (ex_nm 83) (ex_by 83) (ex_mL 83) (ex_rt 83)) := rfl
set_option maxRecDepth 100000 in
theorem ex_ci_84 : lw_tbl[651]? = some (Jvm.Cond.code (ex_nm 84) (ex_by 84) (ex_mL 84) (ex_rt 84)) := rfl
set_option maxRecDepth 100000 in
theorem ex_ci_85 : lw_tbl[369]? = some (Jvm.Cond.code (ex_nm 85) (ex_by 85) (ex_mL 85) (ex_rt 85)) := rfl
set_option maxRecDepth 100000 in
theorem ex_ci_86 : lw_tbl[479]? = some (Jvm.Cond.code (ex_nm 86) (ex_by 86) (ex_mL 86) (ex_rt 86)) := rfl
set_option maxRecDepth 100000 in
theorem ex_ci_87 : lw_tbl[440]? = some (Jvm.Cond.code (ex_nm 87) (ex_by 87) (ex_mL 87) (ex_rt 87)) := rfl
set_option maxRecDepth 100000 in
theorem ex_ci_88 : lw_tbl[488]? = some (Jvm.Cond.code (ex_nm 88) (ex_by 88) (ex_mL 88) (ex_rt 88)) := rfl
set_option maxRecDepth 100000 in
theorem ex_ci_89 : lw_tbl[492]? = some (Jvm.Cond.code (ex_nm 89) (ex_by 89) (ex_mL 89) (ex_rt 89)) := rfl
set_option maxRecDepth 100000 in
theorem ex_ci_90 : lw_tbl[597]? = some (Jvm.Cond.code (ex_nm 90) (ex_by 90) (ex_mL 90) (ex_rt 90)) := rfl
set_option maxRecDepth 100000 in
theorem ex_ci_91 : lw_tbl[656]? = some (Jvm.Cond.code (ex_nm 91) (ex_by 91) (ex_mL 91) (ex_rt 91)) := rfl
set_option maxRecDepth 100000 in
theorem ex_ci_92 : lw_tbl[791]? = some (Jvm.Cond.code (ex_nm 92) (ex_by 92) (ex_mL 92) (ex_rt 92)) := rfl
set_option maxRecDepth 100000 in
theorem ex_ci_93 : lw_tbl[665]? = some (Jvm.Cond.code (ex_nm 93) (ex_by 93) (ex_mL 93) (ex_rt 93)) := rfl
set_option maxRecDepth 100000 in
theorem ex_ci_94 : lw_tbl[669]? = some (Jvm.Cond.code (ex_nm 94) (ex_by 94) (ex_mL 94) (ex_rt 94)) := rfl
set_option maxRecDepth 100000 in
theorem ex_ci_95 : lw_tbl[701]? = some (Jvm.Cond.code (ex_nm 95) (ex_by 95) (ex_mL 95) (ex_rt 95)) := rfl
set_option maxRecDepth 100000 in
theorem ex_ci_96 : lw_tbl[697]? = some (Jvm.Cond.code (ex_nm 96) (ex_by 96) (ex_mL 96) (ex_rt 96)) := rfl
set_option maxRecDepth 100000 in
theorem ex_ci_97 : lw_tbl[681]? = some (Jvm.Cond.code (ex_nm 97) (ex_by 97) (ex_mL 97) (ex_rt 97)) := rfl
set_option maxRecDepth 100000 in
theorem ex_ci_98 : lw_tbl[685]? = some (Jvm.Cond.code (ex_nm 98) (ex_by 98) (ex_mL 98) (ex_rt 98)) := rfl
set_option maxRecDepth 100000 in
theorem ex_ci_99 : lw_tbl[661]? = some (Jvm.Cond.code (ex_nm 99) (ex_by 99) (ex_mL 99) (ex_rt 99)) := rfl
set_option maxRecDepth 100000 in
theorem ex_ci_100 : lw_tbl[677]? = some (Jvm.Cond.code (ex_nm 100) (ex_by 100) (ex_mL 100) (ex_rt 100)) := rfl
set_option maxRecDepth 100000 in
theorem ex_ci_101 : lw_tbl[689]? = some (Jvm.Cond.code (ex_nm 101) (ex_by 101) (ex_mL 101) (ex_rt 101)) := rfl
set_option maxRecDepth 100000 in
theorem ex_ci_102 : lw_tbl[693]? = some (Jvm.Cond.code (ex_nm 102) (ex_by 102) (ex_mL 102) (ex_rt 102)) := rfl
set_option maxRecDepth 100000 in
theorem ex_ci_103 : lw_tbl[673]? = some (Jvm.Cond.code (ex_nm 103) (ex_by 103) (ex_mL 103) (ex_rt 103)) := rfl
set_option maxRecDepth 100000 in
theorem ex_ci_104 : lw_tbl[843]? = some (Jvm.Cond.code (ex_nm 104) (ex_by 104) (ex_mL 104) (ex_rt 104)) := rfl
set_option maxRecDepth 100000 in
theorem ex_ci_105 : lw_tbl[885]? = some (Jvm.Cond.code (ex_nm 105) (ex_by 105) (ex_mL 105) (ex_rt 105)) := rfl
set_option maxRecDepth 100000 in
theorem ex_ci_106 : lw_tbl[795]? = some (Jvm.Cond.code (ex_nm 106) (ex_by 106) (ex_mL 106) (ex_rt 106)) := rfl
set_option maxRecDepth 100000 in
theorem ex_ci_107 : lw_tbl[788]? = some (Jvm.Cond.code (ex_nm 107) (ex_by 107) (ex_mL 107) (ex_rt 107)) := rfl
set_option maxRecDepth 100000 in
theorem ex_ci_108 : lw_tbl[799]? = some (Jvm.Cond.code (ex_nm 108) (ex_by 108) (ex_mL 108) (ex_rt 108)) := rfl
set_option maxRecDepth 100000 in
theorem ex_ci_109 : lw_tbl[803]? = some (Jvm.Cond.code (ex_nm 109) (ex_by 109) (ex_mL 109) (ex_rt 109)) := rfl
set_option maxRecDepth 100000 in
theorem ex_ci_110 : lw_tbl[811]? = some (Jvm.Cond.code (ex_nm 110) (ex_by 110) (ex_mL 110) (ex_rt 110)) := rfl
set_option maxRecDepth 100000 in
theorem ex_ci_111 : lw_tbl[819]? = some (Jvm.Cond.code (ex_nm 111) (ex_by 111) (ex_mL 111) (ex_rt 111)) := rfl
set_option maxRecDepth 100000 in
theorem ex_ci_112 : lw_tbl[815]? = some (Jvm.Cond.code (ex_nm 112) (ex_by 112) (ex_mL 112) (ex_rt 112)) := rfl
set_option maxRecDepth 100000 in
theorem ex_ci_113 : lw_tbl[807]? = some (Jvm.Cond.code (ex_nm 113) (ex_by 113) (ex_mL 113) (ex_rt 113)) := rfl
set_option maxRecDepth 100000 in
theorem ex_ci_114 : lw_tbl[823]? = some (Jvm.Cond.code (ex_nm 114) (ex_by 114) (ex_mL 114) (ex_rt 114)) := rfl
set_option maxRecDepth 100000 in
theorem ex_ci_115 : lw_tbl[835]? = some (Jvm.Cond.code (ex_nm 115) (ex_by 115) (ex_mL 115) (ex_rt 115)) := rfl
set_option maxRecDepth 100000 in
theorem ex_ci_116 : lw_tbl[831]? = some (Jvm.Cond.code (ex_nm 116) (ex_by 116) (ex_mL 116) (ex_rt 116)) := rfl
set_option maxRecDepth 100000 in
theorem ex_ci_117 : lw_tbl[827]? = some (Jvm.Cond.code (ex_nm 117) (ex_by 117) (ex_mL 117) (ex_rt 117)) := rfl
set_option maxRecDepth 100000 in
theorem ex_ci_118 : lw_tbl[847]? = some (Jvm.Cond.code (ex_nm 118) (ex_by 118) (ex_mL 118) (ex_rt 118)) := rfl
set_option maxRecDepth 100000 in
theorem ex_ci_119 : lw_tbl[851]? = some (Jvm.Cond.code (ex_nm 119) (ex_by 119) (ex_mL 119) (ex_rt 119)) := rfl
set_option maxRecDepth 100000 in
theorem ex_ci_120 : lw_tbl[855]? = some (Jvm.Cond.code (ex_nm 120) (ex_by 120) (ex_mL 120) (ex_rt 120)) := rfl
set_option maxRecDepth 100000 in
theorem ex_ci_121 : lw_tbl[859]? = some (Jvm.Cond.code (ex_nm 121) (ex_by 121) (ex_mL 121) (ex_rt 121)) := rfl
set_option maxRecDepth 100000 in
theorem ex_ci_122 : lw_tbl[839]? = some (Jvm.Cond.code (ex_nm 122) (ex_by 122) (ex_mL 122) (ex_rt 122)) := rfl
set_option maxRecDepth 100000 in
theorem ex_ci_123 : lw_tbl[863]? = some (Jvm.Cond.code (ex_nm 123) (ex_by 123) (ex_mL 123) (ex_rt 123)) := rfl
set_option maxRecDepth 100000 in
theorem ex_ci_124 : lw_tbl[867]? = some (Jvm.Cond.code (ex_nm 124) (ex_by 124) (ex_mL 124) (ex_rt 124)) := rfl
set_option maxRecDepth 100000 in
theorem ex_ci_125 : lw_tbl[871]? = some (Jvm.Cond.code (ex_nm 125) (ex_by 125) (ex_mL 125) (ex_rt 125)) := rfl
set_option maxRecDepth 100000 in
theorem ex_ci_126 : lw_tbl[878]? = some (Jvm.Cond.code (ex_nm 126) (ex_by 126) (ex_mL 126) (ex_rt 126)) := rfl
set_option maxRecDepth 100000 in
theorem ex_ci_127 : lw_tbl[889]? = some (Jvm.Cond.code (ex_nm 127) (ex_by 127) (ex_mL 127) (ex_rt 127)) := rfl
set_option maxRecDepth 100000 in
theorem ex_ci_128 : lw_tbl[905]? = some (Jvm.Cond.code (ex_nm 128) (ex_by 128) (ex_mL 128) (ex_rt 128)) := rfl
set_option maxRecDepth 100000 in
theorem ex_ci_129 : lw_tbl[913]? = some (Jvm.Cond.code (ex_nm 129) (ex_by 129) (ex_mL 129) (ex_rt 129)) := rfl
set_option maxRecDepth 100000 in
theorem ex_ci_130 : lw_tbl[875]? = some (Jvm.Cond.code (ex_nm 130) (ex_by 130) (ex_mL 130) (ex_rt 130)) := rfl
set_option maxRecDepth 100000 in
theorem ex_ci_131 : lw_tbl[893]? = some (Jvm.Cond.code (ex_nm 131) (ex_by 131) (ex_mL 131) (ex_rt 131)) := rfl
set_option maxRecDepth 100000 in
theorem ex_ci_132 : lw_tbl[882]? = some (Jvm.Cond.code (ex_nm 132) (ex_by 132) (ex_mL 132) (ex_rt 132)) := rfl
set_option maxRecDepth 100000 in
theorem ex_ci_133 : lw_tbl[897]? = some (Jvm.Cond.code (ex_nm 133) (ex_by 133) (ex_mL 133) (ex_rt 133)) := rfl
set_option maxRecDepth 100000 in
theorem ex_ci_134 : lw_tbl[917]? = some (Jvm.Cond.code (ex_nm 134) (ex_by 134) (ex_mL 134) (ex_rt 134)) := rfl
set_option maxRecDepth 100000 in
theorem ex_ci_135 : lw_tbl[909]? = some (Jvm.Cond.code (ex_nm 135) (ex_by 135) (ex_mL 135) (ex_rt 135)) := rfl
set_option maxRecDepth 100000 in
theorem ex_ci_136 : lw_tbl[901]? = some (Jvm.Cond.code (ex_nm 136) (ex_by 136) (ex_mL 136) (ex_rt 136)) := rfl
set_option maxRecDepth 100000 in
theorem ex_ci_137 : lw_tbl[921]? = some (Jvm.Cond.code (ex_nm 137) (ex_by 137) (ex_mL 137) (ex_rt 137)) := rfl
set_option maxRecDepth 100000 in
theorem ex_ci_138 : lw_tbl[925]? = some (Jvm.Cond.code (ex_nm 138) (ex_by 138) (ex_mL 138) (ex_rt 138)) := rfl
set_option maxRecDepth 100000 in
theorem ex_ci_139 : lw_tbl[929]? = some (Jvm.Cond.code (ex_nm 139) (ex_by 139) (ex_mL 139) (ex_rt 139)) := rfl
set_option maxRecDepth 100000 in
theorem ex_ci_140 : lw_tbl[937]? = some (Jvm.Cond.code (ex_nm 140) (ex_by 140) (ex_mL 140) (ex_rt 140)) := rfl
set_option maxRecDepth 100000 in
theorem ex_ci_141 : lw_tbl[933]? = some (Jvm.Cond.code (ex_nm 141) (ex_by 141) (ex_mL 141) (ex_rt 141)) := rfl
set_option maxRecDepth 100000 in
theorem ex_ci_142 : lw_tbl[949]? = some (Jvm.Cond.code (ex_nm 142) (ex_by 142) (ex_mL 142) (ex_rt 142)) := rfl
set_option maxRecDepth 100000 in
theorem ex_ci_143 : lw_tbl[945]? = some (Jvm.Cond.code (ex_nm 143) (ex_by 143) (ex_mL 143) (ex_rt 143)) := rfl
set_option maxRecDepth 100000 in
theorem ex_ci_144 : lw_tbl[941]? = some (Jvm.Cond.code (ex_nm 144) (ex_by 144) (ex_mL 144) (ex_rt 144)) := rfl
set_option maxRecDepth 100000 in
theorem ex_ci_145 : lw_tbl[965]? = some (Jvm.Cond.code (ex_nm 145) (ex_by 145) (ex_mL 145) (ex_rt 145)) := rfl
set_option maxRecDepth 100000 in
theorem ex_ci_146 : lw_tbl[961]? = some (Jvm.Cond.code (ex_nm 146) (ex_by 146) (ex_mL 146) (ex_rt 146)) := rfl
set_option maxRecDepth 100000 in
theorem ex_ci_147 : lw_tbl[977]? = some (Jvm.Cond.code (ex_nm 147) (ex_by 147) (ex_mL 147) (ex_rt 147)) := rfl
set_option maxRecDepth 100000 in
theorem ex_ci_148 : lw_tbl[973]? = some (Jvm.Cond.code (ex_nm 148) (ex_by 148) (ex_mL 148) (ex_rt 148)) := rfl
set_option maxRecDepth 100000 in
theorem ex_ci_149 : lw_tbl[957]? = some (Jvm.Cond.code (ex_nm 149) (ex_by 149) (ex_mL 149) (ex_rt 149)) := rfl
set_option maxRecDepth 100000 in
theorem ex_ci_150 : lw_tbl[985]? = some (Jvm.Cond.code (ex_nm 150) (ex_by 150) (ex_mL 150) (ex_rt 150)) := rfl
set_option maxRecDepth 100000 in
theorem ex_ci_151 : lw_tbl[981]? = some (Jvm.Cond.code (ex_nm 151) (ex_by 151) (ex_mL 151) (ex_rt 151)) := rfl
set_option maxRecDepth 100000 in
theorem ex_ci_152 : lw_tbl[989]? = some (Jvm.Cond.code (ex_nm 152) (ex_by 152) (ex_mL 152) (ex_rt 152)) := rfl
set_option maxRecDepth 100000 in
theorem ex_ci_153 : lw_tbl[969]? = some (Jvm.Cond.code (ex_nm 153) (ex_by 153) (ex_mL 153) (ex_rt 153)) := rfl
set_option maxRecDepth 100000 in
theorem ex_ci_154 : lw_tbl[953]? = some (Jvm.Cond.code (ex_nm 154) (ex_by 154) (ex_mL 154) (ex_rt 154)) := rfl
set_option maxRecDepth 100000 in
theorem ex_ci_155 : lw_tbl[993]? = some (Jvm.Cond.code (ex_nm 155) (ex_by 155) (ex_mL 155) (ex_rt 155)) := rfl
set_option maxRecDepth 100000 in
theorem ex_ci_156 : lw_tbl[997]? = some (Jvm.Cond.code (ex_nm 156) (ex_by 156) (ex_mL 156) (ex_rt 156)) := rfl
set_option maxRecDepth 100000 in
theorem ex_ci_157 : lw_tbl[1001]? = some (Jvm.Cond.code (ex_nm 157) (ex_by 157) (ex_mL 157) (ex_rt 157)) := rfl
set_option maxRecDepth 100000 in
theorem ex_ci_158 : lw_tbl[1005]? = some (Jvm.Cond.code (ex_nm 158) (ex_by 158) (ex_mL 158) (ex_rt 158)) := rfl
set_option maxRecDepth 100000 in
theorem ex_ci_159 : lw_tbl[166]? = some (Jvm.Cond.code (ex_nm 159) (ex_by 159) (ex_mL 159) (ex_rt 159)) := rfl
set_option maxRecDepth 100000 in
theorem ex_ci_160 : lw_tbl[118]? = some (Jvm.Cond.code (ex_nm 160) (ex_by 160) (ex_mL 160) (ex_rt 160)) := rfl
theorem ex_code_in : ∀ y, y < 161 → Jvm.Cond.code (ex_nm y) (ex_by y) (ex_mL y) (ex_rt y) ∈ lw_tbl ∧ goodWord (Jvm.Cond.code (ex_nm y) (ex_by y) (ex_mL y) (ex_rt y)) = true := by
  intro y hy
  refine ⟨?_, rfl⟩
  match y, hy with
  | 0, _ => exact List.mem_of_getElem? ex_ci_0
  | 1, _ => exact List.mem_of_getElem? ex_ci_1
  | 2, _ => exact List.mem_of_getElem? ex_ci_2
  | 3, _ => exact List.mem_of_getElem? ex_ci_3
  | 4, _ => exact List.mem_of_getElem? ex_ci_4
  | 5, _ => exact List.mem_of_getElem? ex_ci_5
  | 6, _ => exact List.mem_of_getElem? ex_ci_6
  | 7, _ => exact List.mem_of_getElem? ex_ci_7
  | 8, _ => exact List.mem_of_getElem? ex_ci_8
  | 9, _ => exact List.mem_of_getElem? ex_ci_9
  | 10, _ => exact List.mem_of_getElem? ex_ci_10
  | 11, _ => exact List.mem_of_getElem? ex_ci_11
  | 12, _ => exact List.mem_of_getElem? ex_ci_12
  | 13, _ => exact List.mem_of_getElem? ex_ci_13
  | 14, _ => exact List.mem_of_getElem? ex_ci_14
  | 15, _ => exact List.mem_of_getElem? ex_ci_15
  | 16, _ => exact List.mem_of_getElem? ex_ci_16
  | 17, _ => exact List.mem_of_getElem? ex_ci_17
  | 18, _ => exact List.mem_of_getElem? ex_ci_18
  | 19, _ => exact List.mem_of_getElem? ex_ci_19
  | 20, _ => exact List.mem_of_getElem? ex_ci_20
  | 21, _ => exact List.mem_of_getElem? ex_ci_21
  | 22, _ => exact List.mem_of_getElem? ex_ci_22
  | 23, _ => exact List.mem_of_getElem? ex_ci_23
  | 24, _ => exact List.mem_of_getElem? ex_ci_24
  | 25, _ => exact List.mem_of_getElem? ex_ci_25
  | 26, _ => exact List.mem_of_getElem? ex_ci_26
  | 27, _ => exact List.mem_of_getElem? ex_ci_27
  | 28, _ => exact List.mem_of_getElem? ex_ci_28
  | 29, _ => exact List.mem_of_getElem? ex_ci_29
  | 30, _ => exact List.mem_of_getElem? ex_ci_30
  | 31, _ => exact List.mem_of_getElem? ex_ci_31
  | 32, _ => exact List.mem_of_getElem? ex_ci_32
  | 33, _ => exact List.mem_of_getElem? ex_ci_33
  | 34, _ => exact List.mem_of_getElem? ex_ci_34
  | 35, _ => exact List.mem_of_getElem? ex_ci_35
  | 36, _ => exact List.mem_of_getElem? ex_ci_36
  | 37, _ => exact List.mem_of_getElem? ex_ci_37
  | 38, _ => exact List.mem_of_getElem? ex_ci_38
  | 39, _ => exact List.mem_of_getElem? ex_ci_39
  | 40, _ => exact List.mem_of_getElem? ex_ci_40
  | 41, _ => exact List.mem_of_getElem? ex_ci_41
  | 42, _ => exact List.mem_of_getElem? ex_ci_42
  | 43, _ => exact List.mem_of_getElem? ex_ci_43
  | 44, _ => exact List.mem_of_getElem? ex_ci_44
  | 45, _ => exact List.mem_of_getElem? ex_ci_45
  | 46, _ => exact List.mem_of_getElem? ex_ci_46
  | 47, _ => exact List.mem_of_getElem? ex_ci_47
  | 48, _ => exact List.mem_of_getElem? ex_ci_48
  | 49, _ => exact List.mem_of_getElem? ex_ci_49
  | 50, _ => exact List.mem_of_getElem? ex_ci_50
  | 51, _ => exact List.mem_of_getElem? ex_ci_51
  | 52, _ => exact List.mem_of_getElem? ex_ci_52
  | 53, _ => exact List.mem_of_getElem? ex_ci_53
  | 54, _ => exact List.mem_of_getElem? ex_ci_54
  | 55, _ => exact List.mem_of_getElem? ex_ci_55
  | 56, _ => exact List.mem_of_getElem? ex_ci_56
  | 57, _ => exact List.mem_of_getElem? ex_ci_57
  | 58, _ => exact List.mem_of_getElem? ex_ci_58
  | 59, _ => exact List.mem_of_getElem? ex_ci_59
  | 60, _ => exact List.mem_of_getElem? ex_ci_60
  | 61, _ => exact List.mem_of_getElem? ex_ci_61
  | 62, _ => exact List.mem_of_getElem? ex_ci_62
  | 63, _ => exact List.mem_of_getElem? ex_ci_63
  | 64, _ => exact List.mem_of_getElem? ex_ci_64
  | 65, _ => exact List.mem_of_getElem? ex_ci_65
  | 66, _ => exact List.mem_of_getElem? ex_ci_66
  | 67, _ => exact List.mem_of_getElem? ex_ci_67
  | 68, _ => exact List.mem_of_getElem? ex_ci_68
  | 69, _ => exact List.mem_of_getElem? ex_ci_69
  | 70, _ => exact List.mem_of_getElem? ex_ci_70
  | 71, _ => exact List.mem_of_getElem? ex_ci_71
  | 72, _ => exact List.mem_of_getElem? ex_ci_72
  | 73, _ => exact List.mem_of_getElem? ex_ci_73
  | 74, _ => exact List.mem_of_getElem? ex_ci_74
  | 75, _ => exact List.mem_of_getElem? ex_ci_75
  | 76, _ => exact List.mem_of_getElem? ex_ci_76
  | 77, _ => exact List.mem_of_getElem? ex_ci_77
  | 78, _ => exact List.mem_of_getElem? ex_ci_78
  | 79, _ => exact List.mem_of_getElem? ex_ci_79
  | 80, _ => exact List.mem_of_getElem? ex_ci_80
  | 81, _ => exact List.mem_of_getElem? ex_ci_81
  | 82, _ => exact List.mem_of_getElem? ex_ci_82
  | 83, _ => exact List.mem_of_getElem? ex_ci_83
  | 84, _ => exact List.mem_of_getElem? ex_ci_84
  | 85, _ => exact List.mem_of_getElem? ex_ci_85
  | 86, _ => exact List.mem_of_getElem? ex_ci_86
  | 87, _ => exact List.mem_of_getElem? ex_ci_87
  | 88, _ => exact List.mem_of_getElem? ex_ci_88
  | 89, _ => exact List.mem_of_getElem? ex_ci_89
  | 90, _ => exact List.mem_of_getElem? ex_ci_90
  | 91, _ => exact List.mem_of_getElem? ex_ci_91
  | 92, _ => exact List.mem_of_getElem? ex_ci_92
  | 93, _ => exact List.mem_of_getElem? ex_ci_93
  | 94, _ => exact List.mem_of_getElem? ex_ci_94
  | 95, _ => exact List.mem_of_getElem? ex_ci_95
  | 96, _ => exact List.mem_of_getElem? ex_ci_96
  | 97, _ => exact List.mem_of_getElem? ex_ci_97
  | 98, _ => exact List.mem_of_getElem? ex_ci_98
  | 99, _ => exact List.mem_of_getElem? ex_ci_99
  | 100, _ => exact List.mem_of_getElem? ex_ci_100
  | 101, _ => exact List.mem_of_getElem? ex_ci_101
  | 102, _ => exact List.mem_of_getElem? ex_ci_102
  | 103, _ => exact List.mem_of_getElem? ex_ci_103
  | 104, _ => exact List.mem_of_getElem? ex_ci_104
  | 105, _ => exact List.mem_of_getElem? ex_ci_105
  | 106, _ => exact List.mem_of_getElem? ex_ci_106
  | 107, _ => exact List.mem_of_getElem? ex_ci_107
  | 108, _ => exact List.mem_of_getElem? ex_ci_108
  | 109, _ => exact List.mem_of_getElem? ex_ci_109
  | 110, _ => exact List.mem_of_getElem? ex_ci_110
  | 111, _ => exact List.mem_of_getElem? ex_ci_111
  | 112, _ => exact List.mem_of_getElem? ex_ci_112
  | 113, _ => exact List.mem_of_getElem? ex_ci_113
  | 114, _ => exact List.mem_of_getElem? ex_ci_114
  | 115, _ => exact List.mem_of_getElem? ex_ci_115
  | 116, _ => exact List.mem_of_getElem? ex_ci_116
  | 117, _ => exact List.mem_of_getElem? ex_ci_117
  | 118, _ => exact List.mem_of_getElem? ex_ci_118
  | 119, _ => exact List.mem_of_getElem? ex_ci_119
  | 120, _ => exact List.mem_of_getElem? ex_ci_120
  | 121, _ => exact List.mem_of_getElem? ex_ci_121
  | 122, _ => exact List.mem_of_getElem? ex_ci_122
  | 123, _ => exact List.mem_of_getElem? ex_ci_123
  | 124, _ => exact List.mem_of_getElem? ex_ci_124
  | 125, _ => exact List.mem_of_getElem? ex_ci_125
  | 126, _ => exact List.mem_of_getElem? ex_ci_126
  | 127, _ => exact List.mem_of_getElem? ex_ci_127
  | 128, _ => exact List.mem_of_getElem? ex_ci_128
  | 129, _ => exact List.mem_of_getElem? ex_ci_129
  | 130, _ => exact List.mem_of_getElem? ex_ci_130
  | 131, _ => exact List.mem_of_getElem? ex_ci_131
  | 132, _ => exact List.mem_of_getElem? ex_ci_132
  | 133, _ => exact List.mem_of_getElem? ex_ci_133
  | 134, _ => exact List.mem_of_getElem? ex_ci_134
  | 135, _ => exact List.mem_of_getElem? ex_ci_135
  | 136, _ => exact List.mem_of_getElem? ex_ci_136
  | 137, _ => exact List.mem_of_getElem? ex_ci_137
  | 138, _ => exact List.mem_of_getElem? ex_ci_138
  | 139, _ => exact List.mem_of_getElem? ex_ci_139
  | 140, _ => exact List.mem_of_getElem? ex_ci_140
  | 141, _ => exact List.mem_of_getElem? ex_ci_141
  | 142, _ => exact List.mem_of_getElem? ex_ci_142
  | 143, _ => exact List.mem_of_getElem? ex_ci_143
  | 144, _ => exact List.mem_of_getElem? ex_ci_144
  | 145, _ => exact List.mem_of_getElem? ex_ci_145
  | 146, _ => exact List.mem_of_getElem? ex_ci_146
  | 147, _ => exact List.mem_of_getElem? ex_ci_147
  | 148, _ => exact List.mem_of_getElem? ex_ci_148
  | 149, _ => exact List.mem_of_getElem? ex_ci_149
  | 150, _ => exact List.mem_of_getElem? ex_ci_150
  | 151, _ => exact List.mem_of_getElem? ex_ci_151
  | 152, _ => exact List.mem_of_getElem? ex_ci_152
  | 153, _ => exact List.mem_of_getElem? ex_ci_153
  | 154, _ => exact List.mem_of_getElem? ex_ci_154
  | 155, _ => exact List.mem_of_getElem? ex_ci_155
  | 156, _ => exact List.mem_of_getElem? ex_ci_156
  | 157, _ => exact List.mem_of_getElem? ex_ci_157
  | 158, _ => exact List.mem_of_getElem? ex_ci_158
  | 159, _ => exact List.mem_of_getElem? ex_ci_159
  | 160, _ => exact List.mem_of_getElem? ex_ci_160
  | y + 161, h => exact absurd h (by omega)
def ex_flc (e : Nat × Nat × Nat × Nat) : Jvm.Cond := .fieldLink (ex_o e.1) e.2.1 ((ex_T e.2.2.1).2.1 e.2.2.2).1 ((ex_T e.2.2.1).2.1 e.2.2.2).2.1 ((ex_T e.2.2.1).2.1 e.2.2.2).2.2.1
theorem ex_fl_in : ex_fl.all (fun e => ex_wb (ex_flc e)) = true := by decide +kernel
def ex_clc (e : Nat × Nat × String) : Jvm.Cond := .classLink (ex_o e.1) e.2.1 e.2.2
theorem ex_cl_in : ex_cl.all (fun e => ex_wb (ex_clc e)) = true := by decide +kernel
theorem ex_lay_in : vwCl.all (fun q => ((u_ws q.1 q.2.1 q.2.2) ++ [Jvm.Cond.instantiable q.1 q.2.2, Jvm.Cond.initialized q.1]).all ex_wb) = true := by decide +kernel
theorem ex_ty_in : (List.range 9).all (fun ci => (List.range (ex_nf ci)).all (fun k => decide (parseFieldDescriptor ((ex_T ci).2.1 k).2.2.1 = some (ex_ty ci k)) && decide ((ex_T ci).2.2 = ex_nf ci))) = true := by decide +kernel
theorem ex_nd_in : (List.range 9).all (fun ci => (List.range (ex_nf ci)).all (fun a => (List.range (ex_nf ci)).all (fun b => decide (a = b) || decide (((ex_T ci).2.1 a).2.1 ≠ ((ex_T ci).2.1 b).2.1)))) = true := by decide +kernel
theorem ex_arr_in : ex_wb (.arrayClass .int) = true ∧ ex_wb (.arrayClass .boolean) = true := by decide +kernel
def ex_objInit : Jvm.Cond := .code objectInit ⟨#[0xb1]⟩ 1 none
theorem ex_obj_in : ex_wb (.instanceMethod objectInit) = true ∧ ex_wb ex_objInit = true := by decide +kernel
theorem ex_min_in : ex_wb (.static Lib.Math.min.name) = true ∧ ex_wb (.initialized "java/lang/Math") = true ∧ ex_wb (.code Lib.Math.min.name Lib.Math.min.code 2 (some .int)) = true := by decide +kernel
theorem ex_copy_in : ex_wb (.native arraycopyName) = true ∧ ex_wb (.static arraycopyName) = true ∧ ex_wb (.initialized "java/lang/System") = true := by decide +kernel
def ex_clname : MethodName := ⟨"[I", "clone", "()Ljava/lang/Object;"⟩
def ex_obclone : MethodName := ⟨"java/lang/Object", "clone", "()Ljava/lang/Object;"⟩
theorem ex_clone_in : ex_wb (.sameMethod "[I" "java/lang/Object" "clone" "()Ljava/lang/Object;") = true ∧ ex_wb (.native ex_obclone) = true ∧ ex_wb (.instanceMethod ex_obclone) = true ∧ ex_wb (.selects "[I" ex_clname ex_obclone) = true := by decide +kernel
/-- the name that a link of ex_ml tells -/
def ex_mn (y : Nat) : MethodName := if y < 1000 then ex_nm y else if y = 1000 then objectInit else if y = 1001 then arraycopyName else if y = 1002 then ex_clname else Lib.Math.min.name
def ex_mlc (e : Nat × Nat × Nat × Nat) : Bool := ex_wb (.methodLink (ex_o e.1) e.2.1 (ex_mn e.2.2.1)) || decide (Jvm.Cond.methodLinkNest (ex_o e.1) e.2.1 (ex_mn e.2.2.1) RX8 ∈ ex_nest)
theorem ex_ml_in1 : (ex_ml.take 70).all ex_mlc = true := by decide +kernel
theorem ex_ml_in2 : ((ex_ml.drop 70).take 70).all ex_mlc = true := by decide +kernel
theorem ex_ml_in3 : ((ex_ml.drop 140)).all ex_mlc = true := by decide +kernel
/-- a method's kind: 0 static, 1 one that calls select, 2 a constructor -/
def ex_mk (y : Nat) : Bool := ex_wb (.initialized (ex_nm y).cls) && decide ((ex_nm y).cls ≠ "java/lang/invoke/MethodHandle" ∧ (ex_nm y).cls ≠ "java/lang/invoke/VarHandle") && Jvm.plainName (ex_nm y).cls && decide (ex_na y ≤ ex_mL y) && decide ((ex_nm y).cls = ex_o (ex_ow y)) &&
  (match ex_kd y with
   | 0 => ex_wb (.static (ex_nm y)) && decide ((parseMethodDescriptor (ex_nm y).desc).map (fun d => d.parameters.length) = some (ex_na y))
   | 1 => ex_wb (.instanceMethod (ex_nm y)) && ex_wb (.selects (ex_nm y).cls (ex_nm y) (ex_nm y)) && decide ((parseMethodDescriptor (ex_nm y).desc).map (fun d => d.parameters.length + 1) = some (ex_na y))
   | 2 => ex_wb (.instanceMethod (ex_nm y)) && decide ((ex_nm y).name = "<init>" ∧ ex_rt y = none) && decide ((parseMethodDescriptor (ex_nm y).desc).map (fun d => d.parameters.length + 1) = some (ex_na y))
   | _ => false)
theorem ex_mk_0 : (List.range' 0 41).all ex_mk = true := by decide +kernel
theorem ex_mk_1 : (List.range' 41 41).all ex_mk = true := by decide +kernel
theorem ex_mk_2 : (List.range' 82 41).all ex_mk = true := by decide +kernel
theorem ex_mk_3 : (List.range' 123 38).all ex_mk = true := by decide +kernel
