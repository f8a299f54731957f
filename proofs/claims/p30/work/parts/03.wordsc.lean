set_option maxRecDepth 100000 in
theorem wd_583 : (Cond.code yX9_fingerprint cX9_fingerprint 5 (some .long) : Cond) ∈ wG := wG_of 583 rfl rfl
set_option maxRecDepth 100000 in
theorem wd_620 : (Cond.code yL_fails cL_fails 5 (some .boolean) : Cond) ∈ wG := wG_of 620 rfl rfl
set_option maxRecDepth 100000 in
theorem wd_655 : (Cond.code yL_agrees cL_agrees 8 (some .boolean) : Cond) ∈ wG := wG_of 655 rfl rfl
set_option maxRecDepth 100000 in
theorem wd_660 : (Cond.code yL_repairs cL_repairs 18 (some .boolean) : Cond) ∈ wG := wG_of 660 rfl rfl
set_option maxRecDepth 100000 in
theorem wd_667 : (Cond.code yL_draws cL_draws 8 (some .boolean) : Cond) ∈ wG := wG_of 667 rfl rfl
