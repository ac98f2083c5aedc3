/-! decode rows; written by wip/gen/names.py -/
theorem d_Ob_init_0 : decode b_Ob_init 0 = .ok (.return_, 1) := by decide +kernel
