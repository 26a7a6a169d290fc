theorem dX11_would_39 : decode cX11_would 39 = .ok (.iload_n 2, 1) := by decide +kernel
theorem dX11_would_40 : decode cX11_would 40 = .ok (.invokevirtual 212, 3) := by decide +kernel
theorem dX11_would_43 : decode cX11_would 43 = .ok (.ireturn, 1) := by decide +kernel
