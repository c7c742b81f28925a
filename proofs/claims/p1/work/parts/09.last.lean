theorem kF_X11_12 : (Cond.fieldLink RX11 12 "HalfDays" "now" "LHalfDays$County;") ∈ lw_g := mk_k 519 (by decide +kernel) rfl
