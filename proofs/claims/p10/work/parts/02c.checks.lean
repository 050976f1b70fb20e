set_option maxRecDepth 100000 in
theorem px_ml_ok : ∀ q ∈ px_ml_, lw_tbl[q.2.2.2]? = some (.methodLink (px_R q.1) q.2.1 (px_y q.2.2.1)) := by decide +kernel
set_option maxRecDepth 100000 in
theorem px_oi_ok : ∀ q ∈ px_oi_, lw_tbl[q.2.2]? = some (.methodLink (px_R q.1) q.2.1 objectInit) := by decide +kernel
set_option maxRecDepth 100000 in
theorem px_fl_ok : ∀ q ∈ px_fl_, q.2.2.1 < 5 ∧ q.2.2.2.1 < px_nf q.2.2.1 ∧ lw_tbl[q.2.2.2.2.1]? = some (if q.2.2.2.2.2 = 0 then .fieldLink (px_R q.1) q.2.1 (px_R q.2.2.1) (px_T q.2.2.1 q.2.2.2.1).2.1 (px_T q.2.2.1 q.2.2.2.1).2.2.1 else .fieldLinkNest (px_R q.1) q.2.1 (px_R q.2.2.1) (px_T q.2.2.1 q.2.2.2.1).2.1 (px_T q.2.2.1 q.2.2.2.1).2.2.1 "ColourSums") := by decide +kernel
set_option maxRecDepth 100000 in
theorem px_sl_ok : ∀ q ∈ px_sl_, 1 ≤ q.2.2.1 ∧ q.2.2.1 ≤ 6 ∧ lw_tbl[q.2.2.2]? = some (.fieldLink (px_R q.1) q.2.1 RX2 (px_sn q.2.2.1) "[I") := by decide +kernel
set_option maxRecDepth 100000 in
theorem px_cl_ok : ∀ q ∈ px_cl_, q.2.2.1 < 5 ∧ lw_tbl[q.2.2.2]? = some (.classLink (px_R q.1) q.2.1 (px_R q.2.2.1)) := by decide +kernel
set_option maxRecDepth 100000 in
theorem px_ki_ok : ∀ q ∈ px_ki_, lw_tbl[q.2.2.2]? = some (.constant (px_R q.1) q.2.1 q.2.2.1) := by decide +kernel
set_option maxRecDepth 100000 in
theorem px_kl_ok : ∀ q ∈ px_kl_, lw_tbl[q.2.2.2]? = some (.constantLong (px_R q.1) q.2.1 q.2.2.1) := by decide +kernel
set_option maxRecDepth 100000 in
theorem px_pc0 : lw_tbl[px_pc 0]? = some (if px_hh 0 = [] then .code (px_y 0) (px_c 0) (px_ml 0) (px_rt 0) else .codeWith (px_y 0) (px_c 0) (px_ml 0) (px_rt 0) (px_hh 0)) := rfl
set_option maxRecDepth 100000 in
theorem px_pc1 : lw_tbl[px_pc 1]? = some (if px_hh 1 = [] then .code (px_y 1) (px_c 1) (px_ml 1) (px_rt 1) else .codeWith (px_y 1) (px_c 1) (px_ml 1) (px_rt 1) (px_hh 1)) := rfl
set_option maxRecDepth 100000 in
theorem px_pc2 : lw_tbl[px_pc 2]? = some (if px_hh 2 = [] then .code (px_y 2) (px_c 2) (px_ml 2) (px_rt 2) else .codeWith (px_y 2) (px_c 2) (px_ml 2) (px_rt 2) (px_hh 2)) := rfl
set_option maxRecDepth 100000 in
theorem px_pc3 : lw_tbl[px_pc 3]? = some (if px_hh 3 = [] then .code (px_y 3) (px_c 3) (px_ml 3) (px_rt 3) else .codeWith (px_y 3) (px_c 3) (px_ml 3) (px_rt 3) (px_hh 3)) := rfl
set_option maxRecDepth 100000 in
theorem px_pc4 : lw_tbl[px_pc 4]? = some (if px_hh 4 = [] then .code (px_y 4) (px_c 4) (px_ml 4) (px_rt 4) else .codeWith (px_y 4) (px_c 4) (px_ml 4) (px_rt 4) (px_hh 4)) := rfl
set_option maxRecDepth 100000 in
theorem px_pc5 : lw_tbl[px_pc 5]? = some (if px_hh 5 = [] then .code (px_y 5) (px_c 5) (px_ml 5) (px_rt 5) else .codeWith (px_y 5) (px_c 5) (px_ml 5) (px_rt 5) (px_hh 5)) := rfl
set_option maxRecDepth 100000 in
theorem px_pc7 : lw_tbl[px_pc 7]? = some (if px_hh 7 = [] then .code (px_y 7) (px_c 7) (px_ml 7) (px_rt 7) else .codeWith (px_y 7) (px_c 7) (px_ml 7) (px_rt 7) (px_hh 7)) := rfl
set_option maxRecDepth 100000 in
theorem px_pc8 : lw_tbl[px_pc 8]? = some (if px_hh 8 = [] then .code (px_y 8) (px_c 8) (px_ml 8) (px_rt 8) else .codeWith (px_y 8) (px_c 8) (px_ml 8) (px_rt 8) (px_hh 8)) := rfl
set_option maxRecDepth 100000 in
theorem px_pc9 : lw_tbl[px_pc 9]? = some (if px_hh 9 = [] then .code (px_y 9) (px_c 9) (px_ml 9) (px_rt 9) else .codeWith (px_y 9) (px_c 9) (px_ml 9) (px_rt 9) (px_hh 9)) := rfl
set_option maxRecDepth 100000 in
theorem px_pc10 : lw_tbl[px_pc 10]? = some (if px_hh 10 = [] then .code (px_y 10) (px_c 10) (px_ml 10) (px_rt 10) else .codeWith (px_y 10) (px_c 10) (px_ml 10) (px_rt 10) (px_hh 10)) := rfl
set_option maxRecDepth 100000 in
theorem px_pc11 : lw_tbl[px_pc 11]? = some (if px_hh 11 = [] then .code (px_y 11) (px_c 11) (px_ml 11) (px_rt 11) else .codeWith (px_y 11) (px_c 11) (px_ml 11) (px_rt 11) (px_hh 11)) := rfl
set_option maxRecDepth 100000 in
theorem px_pc12 : lw_tbl[px_pc 12]? = some (if px_hh 12 = [] then .code (px_y 12) (px_c 12) (px_ml 12) (px_rt 12) else .codeWith (px_y 12) (px_c 12) (px_ml 12) (px_rt 12) (px_hh 12)) := rfl
set_option maxRecDepth 100000 in
theorem px_pc13 : lw_tbl[px_pc 13]? = some (if px_hh 13 = [] then .code (px_y 13) (px_c 13) (px_ml 13) (px_rt 13) else .codeWith (px_y 13) (px_c 13) (px_ml 13) (px_rt 13) (px_hh 13)) := rfl
set_option maxRecDepth 100000 in
theorem px_pc14 : lw_tbl[px_pc 14]? = some (if px_hh 14 = [] then .code (px_y 14) (px_c 14) (px_ml 14) (px_rt 14) else .codeWith (px_y 14) (px_c 14) (px_ml 14) (px_rt 14) (px_hh 14)) := rfl
set_option maxRecDepth 100000 in
theorem px_pc15 : lw_tbl[px_pc 15]? = some (if px_hh 15 = [] then .code (px_y 15) (px_c 15) (px_ml 15) (px_rt 15) else .codeWith (px_y 15) (px_c 15) (px_ml 15) (px_rt 15) (px_hh 15)) := rfl
set_option maxRecDepth 100000 in
theorem px_pc16 : lw_tbl[px_pc 16]? = some (if px_hh 16 = [] then .code (px_y 16) (px_c 16) (px_ml 16) (px_rt 16) else .codeWith (px_y 16) (px_c 16) (px_ml 16) (px_rt 16) (px_hh 16)) := rfl
set_option maxRecDepth 100000 in
theorem px_pc17 : lw_tbl[px_pc 17]? = some (if px_hh 17 = [] then .code (px_y 17) (px_c 17) (px_ml 17) (px_rt 17) else .codeWith (px_y 17) (px_c 17) (px_ml 17) (px_rt 17) (px_hh 17)) := rfl
set_option maxRecDepth 100000 in
theorem px_pc18 : lw_tbl[px_pc 18]? = some (if px_hh 18 = [] then .code (px_y 18) (px_c 18) (px_ml 18) (px_rt 18) else .codeWith (px_y 18) (px_c 18) (px_ml 18) (px_rt 18) (px_hh 18)) := rfl
set_option maxRecDepth 100000 in
theorem px_pc19 : lw_tbl[px_pc 19]? = some (if px_hh 19 = [] then .code (px_y 19) (px_c 19) (px_ml 19) (px_rt 19) else .codeWith (px_y 19) (px_c 19) (px_ml 19) (px_rt 19) (px_hh 19)) := rfl
set_option maxRecDepth 100000 in
theorem px_pc20 : lw_tbl[px_pc 20]? = some (if px_hh 20 = [] then .code (px_y 20) (px_c 20) (px_ml 20) (px_rt 20) else .codeWith (px_y 20) (px_c 20) (px_ml 20) (px_rt 20) (px_hh 20)) := rfl
set_option maxRecDepth 100000 in
theorem px_pc21 : lw_tbl[px_pc 21]? = some (if px_hh 21 = [] then .code (px_y 21) (px_c 21) (px_ml 21) (px_rt 21) else .codeWith (px_y 21) (px_c 21) (px_ml 21) (px_rt 21) (px_hh 21)) := rfl
set_option maxRecDepth 100000 in
theorem px_pc22 : lw_tbl[px_pc 22]? = some (if px_hh 22 = [] then .code (px_y 22) (px_c 22) (px_ml 22) (px_rt 22) else .codeWith (px_y 22) (px_c 22) (px_ml 22) (px_rt 22) (px_hh 22)) := rfl
set_option maxRecDepth 100000 in
theorem px_pc23 : lw_tbl[px_pc 23]? = some (if px_hh 23 = [] then .code (px_y 23) (px_c 23) (px_ml 23) (px_rt 23) else .codeWith (px_y 23) (px_c 23) (px_ml 23) (px_rt 23) (px_hh 23)) := rfl
set_option maxRecDepth 100000 in
theorem px_pc24 : lw_tbl[px_pc 24]? = some (if px_hh 24 = [] then .code (px_y 24) (px_c 24) (px_ml 24) (px_rt 24) else .codeWith (px_y 24) (px_c 24) (px_ml 24) (px_rt 24) (px_hh 24)) := rfl
set_option maxRecDepth 100000 in
theorem px_pc25 : lw_tbl[px_pc 25]? = some (if px_hh 25 = [] then .code (px_y 25) (px_c 25) (px_ml 25) (px_rt 25) else .codeWith (px_y 25) (px_c 25) (px_ml 25) (px_rt 25) (px_hh 25)) := rfl
set_option maxRecDepth 100000 in
theorem px_pc26 : lw_tbl[px_pc 26]? = some (if px_hh 26 = [] then .code (px_y 26) (px_c 26) (px_ml 26) (px_rt 26) else .codeWith (px_y 26) (px_c 26) (px_ml 26) (px_rt 26) (px_hh 26)) := rfl
set_option maxRecDepth 100000 in
theorem px_pc27 : lw_tbl[px_pc 27]? = some (if px_hh 27 = [] then .code (px_y 27) (px_c 27) (px_ml 27) (px_rt 27) else .codeWith (px_y 27) (px_c 27) (px_ml 27) (px_rt 27) (px_hh 27)) := rfl
set_option maxRecDepth 100000 in
theorem px_pc28 : lw_tbl[px_pc 28]? = some (if px_hh 28 = [] then .code (px_y 28) (px_c 28) (px_ml 28) (px_rt 28) else .codeWith (px_y 28) (px_c 28) (px_ml 28) (px_rt 28) (px_hh 28)) := rfl
set_option maxRecDepth 100000 in
theorem px_pc29 : lw_tbl[px_pc 29]? = some (if px_hh 29 = [] then .code (px_y 29) (px_c 29) (px_ml 29) (px_rt 29) else .codeWith (px_y 29) (px_c 29) (px_ml 29) (px_rt 29) (px_hh 29)) := rfl
set_option maxRecDepth 100000 in
theorem px_pc30 : lw_tbl[px_pc 30]? = some (if px_hh 30 = [] then .code (px_y 30) (px_c 30) (px_ml 30) (px_rt 30) else .codeWith (px_y 30) (px_c 30) (px_ml 30) (px_rt 30) (px_hh 30)) := rfl
set_option maxRecDepth 100000 in
theorem px_pc31 : lw_tbl[px_pc 31]? = some (if px_hh 31 = [] then .code (px_y 31) (px_c 31) (px_ml 31) (px_rt 31) else .codeWith (px_y 31) (px_c 31) (px_ml 31) (px_rt 31) (px_hh 31)) := rfl
set_option maxRecDepth 100000 in
theorem px_pc32 : lw_tbl[px_pc 32]? = some (if px_hh 32 = [] then .code (px_y 32) (px_c 32) (px_ml 32) (px_rt 32) else .codeWith (px_y 32) (px_c 32) (px_ml 32) (px_rt 32) (px_hh 32)) := rfl
set_option maxRecDepth 100000 in
theorem px_pc33 : lw_tbl[px_pc 33]? = some (if px_hh 33 = [] then .code (px_y 33) (px_c 33) (px_ml 33) (px_rt 33) else .codeWith (px_y 33) (px_c 33) (px_ml 33) (px_rt 33) (px_hh 33)) := rfl
set_option maxRecDepth 100000 in
theorem px_pc34 : lw_tbl[px_pc 34]? = some (if px_hh 34 = [] then .code (px_y 34) (px_c 34) (px_ml 34) (px_rt 34) else .codeWith (px_y 34) (px_c 34) (px_ml 34) (px_rt 34) (px_hh 34)) := rfl
set_option maxRecDepth 100000 in
theorem px_pc35 : lw_tbl[px_pc 35]? = some (if px_hh 35 = [] then .code (px_y 35) (px_c 35) (px_ml 35) (px_rt 35) else .codeWith (px_y 35) (px_c 35) (px_ml 35) (px_rt 35) (px_hh 35)) := rfl
set_option maxRecDepth 100000 in
theorem px_pc36 : lw_tbl[px_pc 36]? = some (if px_hh 36 = [] then .code (px_y 36) (px_c 36) (px_ml 36) (px_rt 36) else .codeWith (px_y 36) (px_c 36) (px_ml 36) (px_rt 36) (px_hh 36)) := rfl
set_option maxRecDepth 100000 in
theorem px_pc37 : lw_tbl[px_pc 37]? = some (if px_hh 37 = [] then .code (px_y 37) (px_c 37) (px_ml 37) (px_rt 37) else .codeWith (px_y 37) (px_c 37) (px_ml 37) (px_rt 37) (px_hh 37)) := rfl
set_option maxRecDepth 100000 in
theorem px_pc38 : lw_tbl[px_pc 38]? = some (if px_hh 38 = [] then .code (px_y 38) (px_c 38) (px_ml 38) (px_rt 38) else .codeWith (px_y 38) (px_c 38) (px_ml 38) (px_rt 38) (px_hh 38)) := rfl
set_option maxRecDepth 100000 in
theorem px_pc39 : lw_tbl[px_pc 39]? = some (if px_hh 39 = [] then .code (px_y 39) (px_c 39) (px_ml 39) (px_rt 39) else .codeWith (px_y 39) (px_c 39) (px_ml 39) (px_rt 39) (px_hh 39)) := rfl
set_option maxRecDepth 100000 in
theorem px_pc40 : lw_tbl[px_pc 40]? = some (if px_hh 40 = [] then .code (px_y 40) (px_c 40) (px_ml 40) (px_rt 40) else .codeWith (px_y 40) (px_c 40) (px_ml 40) (px_rt 40) (px_hh 40)) := rfl
set_option maxRecDepth 100000 in
theorem px_pc41 : lw_tbl[px_pc 41]? = some (if px_hh 41 = [] then .code (px_y 41) (px_c 41) (px_ml 41) (px_rt 41) else .codeWith (px_y 41) (px_c 41) (px_ml 41) (px_rt 41) (px_hh 41)) := rfl
set_option maxRecDepth 100000 in
theorem px_pc42 : lw_tbl[px_pc 42]? = some (if px_hh 42 = [] then .code (px_y 42) (px_c 42) (px_ml 42) (px_rt 42) else .codeWith (px_y 42) (px_c 42) (px_ml 42) (px_rt 42) (px_hh 42)) := rfl
set_option maxRecDepth 100000 in
theorem px_pc43 : lw_tbl[px_pc 43]? = some (if px_hh 43 = [] then .code (px_y 43) (px_c 43) (px_ml 43) (px_rt 43) else .codeWith (px_y 43) (px_c 43) (px_ml 43) (px_rt 43) (px_hh 43)) := rfl
set_option maxRecDepth 100000 in
theorem px_pc44 : lw_tbl[px_pc 44]? = some (if px_hh 44 = [] then .code (px_y 44) (px_c 44) (px_ml 44) (px_rt 44) else .codeWith (px_y 44) (px_c 44) (px_ml 44) (px_rt 44) (px_hh 44)) := rfl
set_option maxRecDepth 100000 in
theorem px_pc45 : lw_tbl[px_pc 45]? = some (if px_hh 45 = [] then .code (px_y 45) (px_c 45) (px_ml 45) (px_rt 45) else .codeWith (px_y 45) (px_c 45) (px_ml 45) (px_rt 45) (px_hh 45)) := rfl
set_option maxRecDepth 100000 in
theorem px_pc46 : lw_tbl[px_pc 46]? = some (if px_hh 46 = [] then .code (px_y 46) (px_c 46) (px_ml 46) (px_rt 46) else .codeWith (px_y 46) (px_c 46) (px_ml 46) (px_rt 46) (px_hh 46)) := rfl
set_option maxRecDepth 100000 in
theorem px_pc47 : lw_tbl[px_pc 47]? = some (if px_hh 47 = [] then .code (px_y 47) (px_c 47) (px_ml 47) (px_rt 47) else .codeWith (px_y 47) (px_c 47) (px_ml 47) (px_rt 47) (px_hh 47)) := rfl
set_option maxRecDepth 100000 in
theorem px_pc48 : lw_tbl[px_pc 48]? = some (if px_hh 48 = [] then .code (px_y 48) (px_c 48) (px_ml 48) (px_rt 48) else .codeWith (px_y 48) (px_c 48) (px_ml 48) (px_rt 48) (px_hh 48)) := rfl
set_option maxRecDepth 100000 in
theorem px_pc49 : lw_tbl[px_pc 49]? = some (if px_hh 49 = [] then .code (px_y 49) (px_c 49) (px_ml 49) (px_rt 49) else .codeWith (px_y 49) (px_c 49) (px_ml 49) (px_rt 49) (px_hh 49)) := rfl
set_option maxRecDepth 100000 in
theorem px_pc50 : lw_tbl[px_pc 50]? = some (if px_hh 50 = [] then .code (px_y 50) (px_c 50) (px_ml 50) (px_rt 50) else .codeWith (px_y 50) (px_c 50) (px_ml 50) (px_rt 50) (px_hh 50)) := rfl
set_option maxRecDepth 100000 in
theorem px_pc51 : lw_tbl[px_pc 51]? = some (if px_hh 51 = [] then .code (px_y 51) (px_c 51) (px_ml 51) (px_rt 51) else .codeWith (px_y 51) (px_c 51) (px_ml 51) (px_rt 51) (px_hh 51)) := rfl
set_option maxRecDepth 100000 in
theorem px_pc52 : lw_tbl[px_pc 52]? = some (if px_hh 52 = [] then .code (px_y 52) (px_c 52) (px_ml 52) (px_rt 52) else .codeWith (px_y 52) (px_c 52) (px_ml 52) (px_rt 52) (px_hh 52)) := rfl
set_option maxRecDepth 100000 in
theorem px_pc53 : lw_tbl[px_pc 53]? = some (if px_hh 53 = [] then .code (px_y 53) (px_c 53) (px_ml 53) (px_rt 53) else .codeWith (px_y 53) (px_c 53) (px_ml 53) (px_rt 53) (px_hh 53)) := rfl
set_option maxRecDepth 100000 in
theorem px_pc54 : lw_tbl[px_pc 54]? = some (if px_hh 54 = [] then .code (px_y 54) (px_c 54) (px_ml 54) (px_rt 54) else .codeWith (px_y 54) (px_c 54) (px_ml 54) (px_rt 54) (px_hh 54)) := rfl
set_option maxRecDepth 100000 in
theorem px_pc55 : lw_tbl[px_pc 55]? = some (if px_hh 55 = [] then .code (px_y 55) (px_c 55) (px_ml 55) (px_rt 55) else .codeWith (px_y 55) (px_c 55) (px_ml 55) (px_rt 55) (px_hh 55)) := rfl
set_option maxRecDepth 100000 in
theorem px_pc56 : lw_tbl[px_pc 56]? = some (if px_hh 56 = [] then .code (px_y 56) (px_c 56) (px_ml 56) (px_rt 56) else .codeWith (px_y 56) (px_c 56) (px_ml 56) (px_rt 56) (px_hh 56)) := rfl
set_option maxRecDepth 100000 in
theorem px_pc57 : lw_tbl[px_pc 57]? = some (if px_hh 57 = [] then .code (px_y 57) (px_c 57) (px_ml 57) (px_rt 57) else .codeWith (px_y 57) (px_c 57) (px_ml 57) (px_rt 57) (px_hh 57)) := rfl
set_option maxRecDepth 100000 in
theorem px_pc58 : lw_tbl[px_pc 58]? = some (if px_hh 58 = [] then .code (px_y 58) (px_c 58) (px_ml 58) (px_rt 58) else .codeWith (px_y 58) (px_c 58) (px_ml 58) (px_rt 58) (px_hh 58)) := rfl
set_option maxRecDepth 100000 in
theorem px_pc59 : lw_tbl[px_pc 59]? = some (if px_hh 59 = [] then .code (px_y 59) (px_c 59) (px_ml 59) (px_rt 59) else .codeWith (px_y 59) (px_c 59) (px_ml 59) (px_rt 59) (px_hh 59)) := rfl
set_option maxRecDepth 100000 in
theorem px_pc60 : lw_tbl[px_pc 60]? = some (if px_hh 60 = [] then .code (px_y 60) (px_c 60) (px_ml 60) (px_rt 60) else .codeWith (px_y 60) (px_c 60) (px_ml 60) (px_rt 60) (px_hh 60)) := rfl
set_option maxRecDepth 100000 in
theorem px_pc61 : lw_tbl[px_pc 61]? = some (if px_hh 61 = [] then .code (px_y 61) (px_c 61) (px_ml 61) (px_rt 61) else .codeWith (px_y 61) (px_c 61) (px_ml 61) (px_rt 61) (px_hh 61)) := rfl
set_option maxRecDepth 100000 in
theorem px_pc62 : lw_tbl[px_pc 62]? = some (if px_hh 62 = [] then .code (px_y 62) (px_c 62) (px_ml 62) (px_rt 62) else .codeWith (px_y 62) (px_c 62) (px_ml 62) (px_rt 62) (px_hh 62)) := rfl
set_option maxRecDepth 100000 in
theorem px_pc63 : lw_tbl[px_pc 63]? = some (if px_hh 63 = [] then .code (px_y 63) (px_c 63) (px_ml 63) (px_rt 63) else .codeWith (px_y 63) (px_c 63) (px_ml 63) (px_rt 63) (px_hh 63)) := rfl
set_option maxRecDepth 100000 in
theorem px_pc64 : lw_tbl[px_pc 64]? = some (if px_hh 64 = [] then .code (px_y 64) (px_c 64) (px_ml 64) (px_rt 64) else .codeWith (px_y 64) (px_c 64) (px_ml 64) (px_rt 64) (px_hh 64)) := rfl
set_option maxRecDepth 100000 in
theorem px_pc65 : lw_tbl[px_pc 65]? = some (if px_hh 65 = [] then .code (px_y 65) (px_c 65) (px_ml 65) (px_rt 65) else .codeWith (px_y 65) (px_c 65) (px_ml 65) (px_rt 65) (px_hh 65)) := rfl
set_option maxRecDepth 100000 in
theorem px_pc66 : lw_tbl[px_pc 66]? = some (if px_hh 66 = [] then .code (px_y 66) (px_c 66) (px_ml 66) (px_rt 66) else .codeWith (px_y 66) (px_c 66) (px_ml 66) (px_rt 66) (px_hh 66)) := rfl
set_option maxRecDepth 100000 in
theorem px_pc67 : lw_tbl[px_pc 67]? = some (if px_hh 67 = [] then .code (px_y 67) (px_c 67) (px_ml 67) (px_rt 67) else .codeWith (px_y 67) (px_c 67) (px_ml 67) (px_rt 67) (px_hh 67)) := rfl
set_option maxRecDepth 100000 in
theorem px_pc68 : lw_tbl[px_pc 68]? = some (if px_hh 68 = [] then .code (px_y 68) (px_c 68) (px_ml 68) (px_rt 68) else .codeWith (px_y 68) (px_c 68) (px_ml 68) (px_rt 68) (px_hh 68)) := rfl
set_option maxRecDepth 100000 in
theorem px_pc69 : lw_tbl[px_pc 69]? = some (if px_hh 69 = [] then .code (px_y 69) (px_c 69) (px_ml 69) (px_rt 69) else .codeWith (px_y 69) (px_c 69) (px_ml 69) (px_rt 69) (px_hh 69)) := rfl
set_option maxRecDepth 100000 in
theorem px_pc70 : lw_tbl[px_pc 70]? = some (if px_hh 70 = [] then .code (px_y 70) (px_c 70) (px_ml 70) (px_rt 70) else .codeWith (px_y 70) (px_c 70) (px_ml 70) (px_rt 70) (px_hh 70)) := rfl
set_option maxRecDepth 100000 in
theorem px_pc71 : lw_tbl[px_pc 71]? = some (if px_hh 71 = [] then .code (px_y 71) (px_c 71) (px_ml 71) (px_rt 71) else .codeWith (px_y 71) (px_c 71) (px_ml 71) (px_rt 71) (px_hh 71)) := rfl
set_option maxRecDepth 100000 in
theorem px_pc72 : lw_tbl[px_pc 72]? = some (if px_hh 72 = [] then .code (px_y 72) (px_c 72) (px_ml 72) (px_rt 72) else .codeWith (px_y 72) (px_c 72) (px_ml 72) (px_rt 72) (px_hh 72)) := rfl
set_option maxRecDepth 100000 in
theorem px_pc73 : lw_tbl[px_pc 73]? = some (if px_hh 73 = [] then .code (px_y 73) (px_c 73) (px_ml 73) (px_rt 73) else .codeWith (px_y 73) (px_c 73) (px_ml 73) (px_rt 73) (px_hh 73)) := rfl
set_option maxRecDepth 100000 in
theorem px_pc74 : lw_tbl[px_pc 74]? = some (if px_hh 74 = [] then .code (px_y 74) (px_c 74) (px_ml 74) (px_rt 74) else .codeWith (px_y 74) (px_c 74) (px_ml 74) (px_rt 74) (px_hh 74)) := rfl
set_option maxRecDepth 100000 in
theorem px_pc75 : lw_tbl[px_pc 75]? = some (if px_hh 75 = [] then .code (px_y 75) (px_c 75) (px_ml 75) (px_rt 75) else .codeWith (px_y 75) (px_c 75) (px_ml 75) (px_rt 75) (px_hh 75)) := rfl
set_option maxRecDepth 100000 in
theorem px_pc76 : lw_tbl[px_pc 76]? = some (if px_hh 76 = [] then .code (px_y 76) (px_c 76) (px_ml 76) (px_rt 76) else .codeWith (px_y 76) (px_c 76) (px_ml 76) (px_rt 76) (px_hh 76)) := rfl
set_option maxRecDepth 100000 in
theorem px_pc77 : lw_tbl[px_pc 77]? = some (if px_hh 77 = [] then .code (px_y 77) (px_c 77) (px_ml 77) (px_rt 77) else .codeWith (px_y 77) (px_c 77) (px_ml 77) (px_rt 77) (px_hh 77)) := rfl
set_option maxRecDepth 100000 in
theorem px_pc78 : lw_tbl[px_pc 78]? = some (if px_hh 78 = [] then .code (px_y 78) (px_c 78) (px_ml 78) (px_rt 78) else .codeWith (px_y 78) (px_c 78) (px_ml 78) (px_rt 78) (px_hh 78)) := rfl
set_option maxRecDepth 100000 in
theorem px_pc79 : lw_tbl[px_pc 79]? = some (if px_hh 79 = [] then .code (px_y 79) (px_c 79) (px_ml 79) (px_rt 79) else .codeWith (px_y 79) (px_c 79) (px_ml 79) (px_rt 79) (px_hh 79)) := rfl
set_option maxRecDepth 100000 in
theorem px_pc80 : lw_tbl[px_pc 80]? = some (if px_hh 80 = [] then .code (px_y 80) (px_c 80) (px_ml 80) (px_rt 80) else .codeWith (px_y 80) (px_c 80) (px_ml 80) (px_rt 80) (px_hh 80)) := rfl
set_option maxRecDepth 100000 in
theorem px_pc81 : lw_tbl[px_pc 81]? = some (if px_hh 81 = [] then .code (px_y 81) (px_c 81) (px_ml 81) (px_rt 81) else .codeWith (px_y 81) (px_c 81) (px_ml 81) (px_rt 81) (px_hh 81)) := rfl
set_option maxRecDepth 100000 in
theorem px_pc82 : lw_tbl[px_pc 82]? = some (if px_hh 82 = [] then .code (px_y 82) (px_c 82) (px_ml 82) (px_rt 82) else .codeWith (px_y 82) (px_c 82) (px_ml 82) (px_rt 82) (px_hh 82)) := rfl
set_option maxRecDepth 100000 in
theorem px_pc83 : lw_tbl[px_pc 83]? = some (if px_hh 83 = [] then .code (px_y 83) (px_c 83) (px_ml 83) (px_rt 83) else .codeWith (px_y 83) (px_c 83) (px_ml 83) (px_rt 83) (px_hh 83)) := rfl
set_option maxRecDepth 100000 in
theorem px_pc84 : lw_tbl[px_pc 84]? = some (if px_hh 84 = [] then .code (px_y 84) (px_c 84) (px_ml 84) (px_rt 84) else .codeWith (px_y 84) (px_c 84) (px_ml 84) (px_rt 84) (px_hh 84)) := rfl
set_option maxRecDepth 100000 in
theorem px_pc85 : lw_tbl[px_pc 85]? = some (if px_hh 85 = [] then .code (px_y 85) (px_c 85) (px_ml 85) (px_rt 85) else .codeWith (px_y 85) (px_c 85) (px_ml 85) (px_rt 85) (px_hh 85)) := rfl
set_option maxRecDepth 100000 in
theorem px_pc86 : lw_tbl[px_pc 86]? = some (if px_hh 86 = [] then .code (px_y 86) (px_c 86) (px_ml 86) (px_rt 86) else .codeWith (px_y 86) (px_c 86) (px_ml 86) (px_rt 86) (px_hh 86)) := rfl
set_option maxRecDepth 100000 in
theorem px_pc87 : lw_tbl[px_pc 87]? = some (if px_hh 87 = [] then .code (px_y 87) (px_c 87) (px_ml 87) (px_rt 87) else .codeWith (px_y 87) (px_c 87) (px_ml 87) (px_rt 87) (px_hh 87)) := rfl
set_option maxRecDepth 100000 in
theorem px_pc88 : lw_tbl[px_pc 88]? = some (if px_hh 88 = [] then .code (px_y 88) (px_c 88) (px_ml 88) (px_rt 88) else .codeWith (px_y 88) (px_c 88) (px_ml 88) (px_rt 88) (px_hh 88)) := rfl
set_option maxRecDepth 100000 in
theorem px_pc89 : lw_tbl[px_pc 89]? = some (if px_hh 89 = [] then .code (px_y 89) (px_c 89) (px_ml 89) (px_rt 89) else .codeWith (px_y 89) (px_c 89) (px_ml 89) (px_rt 89) (px_hh 89)) := rfl
set_option maxRecDepth 100000 in
theorem px_pc90 : lw_tbl[px_pc 90]? = some (if px_hh 90 = [] then .code (px_y 90) (px_c 90) (px_ml 90) (px_rt 90) else .codeWith (px_y 90) (px_c 90) (px_ml 90) (px_rt 90) (px_hh 90)) := rfl
set_option maxRecDepth 100000 in
theorem px_pc91 : lw_tbl[px_pc 91]? = some (if px_hh 91 = [] then .code (px_y 91) (px_c 91) (px_ml 91) (px_rt 91) else .codeWith (px_y 91) (px_c 91) (px_ml 91) (px_rt 91) (px_hh 91)) := rfl
set_option maxRecDepth 100000 in
theorem px_pc92 : lw_tbl[px_pc 92]? = some (if px_hh 92 = [] then .code (px_y 92) (px_c 92) (px_ml 92) (px_rt 92) else .codeWith (px_y 92) (px_c 92) (px_ml 92) (px_rt 92) (px_hh 92)) := rfl
set_option maxRecDepth 100000 in
theorem px_pc93 : lw_tbl[px_pc 93]? = some (if px_hh 93 = [] then .code (px_y 93) (px_c 93) (px_ml 93) (px_rt 93) else .codeWith (px_y 93) (px_c 93) (px_ml 93) (px_rt 93) (px_hh 93)) := rfl
set_option maxRecDepth 100000 in
theorem px_pc94 : lw_tbl[px_pc 94]? = some (if px_hh 94 = [] then .code (px_y 94) (px_c 94) (px_ml 94) (px_rt 94) else .codeWith (px_y 94) (px_c 94) (px_ml 94) (px_rt 94) (px_hh 94)) := rfl
set_option maxRecDepth 100000 in
theorem px_pc95 : lw_tbl[px_pc 95]? = some (if px_hh 95 = [] then .code (px_y 95) (px_c 95) (px_ml 95) (px_rt 95) else .codeWith (px_y 95) (px_c 95) (px_ml 95) (px_rt 95) (px_hh 95)) := rfl
set_option maxRecDepth 100000 in
theorem px_pc96 : lw_tbl[px_pc 96]? = some (if px_hh 96 = [] then .code (px_y 96) (px_c 96) (px_ml 96) (px_rt 96) else .codeWith (px_y 96) (px_c 96) (px_ml 96) (px_rt 96) (px_hh 96)) := rfl
set_option maxRecDepth 100000 in
theorem px_pc97 : lw_tbl[px_pc 97]? = some (if px_hh 97 = [] then .code (px_y 97) (px_c 97) (px_ml 97) (px_rt 97) else .codeWith (px_y 97) (px_c 97) (px_ml 97) (px_rt 97) (px_hh 97)) := rfl
set_option maxRecDepth 100000 in
theorem px_pc98 : lw_tbl[px_pc 98]? = some (if px_hh 98 = [] then .code (px_y 98) (px_c 98) (px_ml 98) (px_rt 98) else .codeWith (px_y 98) (px_c 98) (px_ml 98) (px_rt 98) (px_hh 98)) := rfl
set_option maxRecDepth 100000 in
theorem px_pc99 : lw_tbl[px_pc 99]? = some (if px_hh 99 = [] then .code (px_y 99) (px_c 99) (px_ml 99) (px_rt 99) else .codeWith (px_y 99) (px_c 99) (px_ml 99) (px_rt 99) (px_hh 99)) := rfl
set_option maxRecDepth 100000 in
theorem px_pc100 : lw_tbl[px_pc 100]? = some (if px_hh 100 = [] then .code (px_y 100) (px_c 100) (px_ml 100) (px_rt 100) else .codeWith (px_y 100) (px_c 100) (px_ml 100) (px_rt 100) (px_hh 100)) := rfl
set_option maxRecDepth 100000 in
theorem px_pc101 : lw_tbl[px_pc 101]? = some (if px_hh 101 = [] then .code (px_y 101) (px_c 101) (px_ml 101) (px_rt 101) else .codeWith (px_y 101) (px_c 101) (px_ml 101) (px_rt 101) (px_hh 101)) := rfl
set_option maxRecDepth 100000 in
theorem px_pc_ok : ∀ (j : Nat), j < 102 → j ≠ 6 → lw_tbl[px_pc j]? = some (if px_hh j = [] then .code (px_y j) (px_c j) (px_ml j) (px_rt j) else .codeWith (px_y j) (px_c j) (px_ml j) (px_rt j) (px_hh j))
  | 0, _, _ => px_pc0
  | 1, _, _ => px_pc1
  | 2, _, _ => px_pc2
  | 3, _, _ => px_pc3
  | 4, _, _ => px_pc4
  | 5, _, _ => px_pc5
  | 6, _, h => absurd rfl h
  | 7, _, _ => px_pc7
  | 8, _, _ => px_pc8
  | 9, _, _ => px_pc9
  | 10, _, _ => px_pc10
  | 11, _, _ => px_pc11
  | 12, _, _ => px_pc12
  | 13, _, _ => px_pc13
  | 14, _, _ => px_pc14
  | 15, _, _ => px_pc15
  | 16, _, _ => px_pc16
  | 17, _, _ => px_pc17
  | 18, _, _ => px_pc18
  | 19, _, _ => px_pc19
  | 20, _, _ => px_pc20
  | 21, _, _ => px_pc21
  | 22, _, _ => px_pc22
  | 23, _, _ => px_pc23
  | 24, _, _ => px_pc24
  | 25, _, _ => px_pc25
  | 26, _, _ => px_pc26
  | 27, _, _ => px_pc27
  | 28, _, _ => px_pc28
  | 29, _, _ => px_pc29
  | 30, _, _ => px_pc30
  | 31, _, _ => px_pc31
  | 32, _, _ => px_pc32
  | 33, _, _ => px_pc33
  | 34, _, _ => px_pc34
  | 35, _, _ => px_pc35
  | 36, _, _ => px_pc36
  | 37, _, _ => px_pc37
  | 38, _, _ => px_pc38
  | 39, _, _ => px_pc39
  | 40, _, _ => px_pc40
  | 41, _, _ => px_pc41
  | 42, _, _ => px_pc42
  | 43, _, _ => px_pc43
  | 44, _, _ => px_pc44
  | 45, _, _ => px_pc45
  | 46, _, _ => px_pc46
  | 47, _, _ => px_pc47
  | 48, _, _ => px_pc48
  | 49, _, _ => px_pc49
  | 50, _, _ => px_pc50
  | 51, _, _ => px_pc51
  | 52, _, _ => px_pc52
  | 53, _, _ => px_pc53
  | 54, _, _ => px_pc54
  | 55, _, _ => px_pc55
  | 56, _, _ => px_pc56
  | 57, _, _ => px_pc57
  | 58, _, _ => px_pc58
  | 59, _, _ => px_pc59
  | 60, _, _ => px_pc60
  | 61, _, _ => px_pc61
  | 62, _, _ => px_pc62
  | 63, _, _ => px_pc63
  | 64, _, _ => px_pc64
  | 65, _, _ => px_pc65
  | 66, _, _ => px_pc66
  | 67, _, _ => px_pc67
  | 68, _, _ => px_pc68
  | 69, _, _ => px_pc69
  | 70, _, _ => px_pc70
  | 71, _, _ => px_pc71
  | 72, _, _ => px_pc72
  | 73, _, _ => px_pc73
  | 74, _, _ => px_pc74
  | 75, _, _ => px_pc75
  | 76, _, _ => px_pc76
  | 77, _, _ => px_pc77
  | 78, _, _ => px_pc78
  | 79, _, _ => px_pc79
  | 80, _, _ => px_pc80
  | 81, _, _ => px_pc81
  | 82, _, _ => px_pc82
  | 83, _, _ => px_pc83
  | 84, _, _ => px_pc84
  | 85, _, _ => px_pc85
  | 86, _, _ => px_pc86
  | 87, _, _ => px_pc87
  | 88, _, _ => px_pc88
  | 89, _, _ => px_pc89
  | 90, _, _ => px_pc90
  | 91, _, _ => px_pc91
  | 92, _, _ => px_pc92
  | 93, _, _ => px_pc93
  | 94, _, _ => px_pc94
  | 95, _, _ => px_pc95
  | 96, _, _ => px_pc96
  | 97, _, _ => px_pc97
  | 98, _, _ => px_pc98
  | 99, _, _ => px_pc99
  | 100, _, _ => px_pc100
  | 101, _, _ => px_pc101
  | n + 102, h, _ => absurd h (by omega)
set_option maxRecDepth 100000 in
theorem px_k0_ok : ∀ j, j < 102 → j ≠ 6 → px_kd j = 0 → lw_tbl[px_ps0 j]? = some (.static (px_y j)) := by decide +kernel
set_option maxRecDepth 100000 in
theorem px_k1_ok : ∀ j, j < 102 → px_kd j ≠ 0 → j ≠ 6 → lw_tbl[px_ps1 j]? = some (.instanceMethod (px_y j)) := by decide +kernel
set_option maxRecDepth 100000 in
theorem px_k2_ok : ∀ j, j < 102 → px_kd j = 1 → j ≠ 6 → lw_tbl[px_ps2 j]? = some (.selects (px_R (px_cn j)) (px_y j) (px_y j)) ∧ px_cn j < 5 := by decide +kernel
set_option maxRecDepth 100000 in
theorem px_in_ok : ∀ j, j < 102 → lw_tbl[px_pin (px_cn j)]? = some (.initialized (px_R (px_cn j))) ∧ (px_y j).cls = px_R (px_cn j) := by decide +kernel
set_option maxRecDepth 100000 in
theorem px_in2 : ∀ j, j < 102 → (parseMethodDescriptor (px_y j).desc).map (fun d => d.parameters.length) = some (px_np j) := by decide +kernel
set_option maxRecDepth 100000 in
theorem px_in3 : ∀ j, j < 102 → (px_y j).cls ≠ "java/lang/invoke/MethodHandle" ∧ (px_y j).cls ≠ "java/lang/invoke/VarHandle" ∧ px_ml j ≤ 40 := by decide +kernel
set_option maxRecDepth 100000 in
theorem px_in4 : ∀ j, j < 102 → j ≠ 2 → j ≠ 3 → plainName (px_y j).cls = true := by decide +kernel
set_option maxRecDepth 100000 in
theorem px_in5 : ∀ j, j < 102 → px_kd j = 2 → (px_y j).name = "<init>" ∧ px_rt j = none ∧ px_hh j = [] := by decide +kernel
set_option maxRecDepth 100000 in
theorem px_ml_lt : ∀ q ∈ px_ml_, q.2.2.1 < 102 ∧ q.2.2.1 ≠ 6 := by decide +kernel
set_option maxRecDepth 100000 in
theorem px_lay_ok : ∀ t, t < 5 → ∀ w ∈ u_ws (px_R t) (px_T t) (px_nf t), w ∈ px_PT := by decide +kernel
set_option maxRecDepth 100000 in
theorem px_ty_ok : ∀ t, t < 5 → ∀ k, k < px_nf t → parseFieldDescriptor (px_T t k).2.2.1 = some (px_ft t k) := by decide +kernel
set_option maxRecDepth 100000 in
theorem px_nm_ok : ∀ t, t < 5 → ∀ a, a < px_nf t → ∀ b, b < px_nf t → a ≠ b → (px_T t a).2.1 ≠ (px_T t b).2.1 := by decide +kernel
set_option maxRecDepth 100000 in
theorem px_dcl_ok : ∀ t, t < 5 → ∀ k, k < px_nf t → (px_T t k).1 = px_R t := by decide +kernel
set_option maxRecDepth 100000 in
theorem px_df_ok : ∀ t, t < 5 → (px_df t).length = px_nf t ∧ ∀ k, k < px_nf t → (px_df t)[k]? = some (defaultValue (px_ft t k)) := by decide +kernel
set_option maxRecDepth 100000 in
theorem px_inst_ok : ∀ t, t < 5 → Cond.instantiable (px_R t) (px_nf t) ∈ px_PT ∧ Cond.initialized (px_R t) ∈ px_PT := by decide +kernel
