theorem dX11_signHere_0 : decode cX11_signHere 0 = .ok (.aload_n 0, 1) := by decide +kernel
theorem dX11_signHere_1 : decode cX11_signHere 1 = .ok (.bipush 43, 2) := by decide +kernel
theorem dX11_signHere_3 : decode cX11_signHere 3 = .ok (.invokevirtual 317, 3) := by decide +kernel
theorem dX11_signHere_6 : decode cX11_signHere 6 = .ok (.ifCond .eq 8, 3) := by decide +kernel
theorem dX11_signHere_9 : decode cX11_signHere 9 = .ok (.bipush 13, 2) := by decide +kernel
theorem dX11_signHere_11 : decode cX11_signHere 11 = .ok (.goto 60, 3) := by decide +kernel
theorem dX11_signHere_14 : decode cX11_signHere 14 = .ok (.aload_n 0, 1) := by decide +kernel
theorem dX11_signHere_15 : decode cX11_signHere 15 = .ok (.bipush 45, 2) := by decide +kernel
theorem dX11_signHere_17 : decode cX11_signHere 17 = .ok (.invokevirtual 317, 3) := by decide +kernel
theorem dX11_signHere_20 : decode cX11_signHere 20 = .ok (.ifCond .eq 8, 3) := by decide +kernel
theorem dX11_signHere_23 : decode cX11_signHere 23 = .ok (.bipush 14, 2) := by decide +kernel
theorem dX11_signHere_25 : decode cX11_signHere 25 = .ok (.goto 46, 3) := by decide +kernel
theorem dX11_signHere_28 : decode cX11_signHere 28 = .ok (.aload_n 0, 1) := by decide +kernel
theorem dX11_signHere_29 : decode cX11_signHere 29 = .ok (.bipush 42, 2) := by decide +kernel
theorem dX11_signHere_31 : decode cX11_signHere 31 = .ok (.invokevirtual 317, 3) := by decide +kernel
theorem dX11_signHere_34 : decode cX11_signHere 34 = .ok (.ifCond .eq 8, 3) := by decide +kernel
theorem dX11_signHere_37 : decode cX11_signHere 37 = .ok (.bipush 15, 2) := by decide +kernel
theorem dX11_signHere_39 : decode cX11_signHere 39 = .ok (.goto 32, 3) := by decide +kernel
theorem dX11_signHere_42 : decode cX11_signHere 42 = .ok (.aload_n 0, 1) := by decide +kernel
theorem dX11_signHere_43 : decode cX11_signHere 43 = .ok (.bipush 47, 2) := by decide +kernel
theorem dX11_signHere_45 : decode cX11_signHere 45 = .ok (.invokevirtual 317, 3) := by decide +kernel
theorem dX11_signHere_48 : decode cX11_signHere 48 = .ok (.ifCond .eq 8, 3) := by decide +kernel
theorem dX11_signHere_51 : decode cX11_signHere 51 = .ok (.bipush 16, 2) := by decide +kernel
theorem dX11_signHere_53 : decode cX11_signHere 53 = .ok (.goto 18, 3) := by decide +kernel
theorem dX11_signHere_56 : decode cX11_signHere 56 = .ok (.aload_n 0, 1) := by decide +kernel
theorem dX11_signHere_57 : decode cX11_signHere 57 = .ok (.bipush 37, 2) := by decide +kernel
theorem dX11_signHere_59 : decode cX11_signHere 59 = .ok (.invokevirtual 317, 3) := by decide +kernel
theorem dX11_signHere_62 : decode cX11_signHere 62 = .ok (.ifCond .eq 8, 3) := by decide +kernel
theorem dX11_signHere_65 : decode cX11_signHere 65 = .ok (.bipush 17, 2) := by decide +kernel
theorem dX11_signHere_67 : decode cX11_signHere 67 = .ok (.goto 4, 3) := by decide +kernel
theorem dX11_signHere_70 : decode cX11_signHere 70 = .ok (.iconst (-1), 1) := by decide +kernel
theorem dX11_signHere_71 : decode cX11_signHere 71 = .ok (.ireturn, 1) := by decide +kernel
theorem dX11_closesBracket_0 : decode cX11_closesBracket 0 = .ok (.aload_n 0, 1) := by decide +kernel
theorem dX11_closesBracket_1 : decode cX11_closesBracket 1 = .ok (.bipush 41, 2) := by decide +kernel
theorem dX11_closesBracket_3 : decode cX11_closesBracket 3 = .ok (.invokevirtual 363, 3) := by decide +kernel
theorem dX11_closesBracket_6 : decode cX11_closesBracket 6 = .ok (.aload_n 0, 1) := by decide +kernel
theorem dX11_closesBracket_7 : decode cX11_closesBracket 7 = .ok (.invokevirtual 313, 3) := by decide +kernel
theorem dX11_closesBracket_10 : decode cX11_closesBracket 10 = .ok (.ifCond .ne 4, 3) := by decide +kernel
theorem dX11_closesBracket_13 : decode cX11_closesBracket 13 = .ok (.return_, 1) := by decide +kernel
theorem dX11_closesBracket_14 : decode cX11_closesBracket 14 = .ok (.aload_n 0, 1) := by decide +kernel
theorem dX11_closesBracket_15 : decode cX11_closesBracket 15 = .ok (.dup, 1) := by decide +kernel
theorem dX11_closesBracket_16 : decode cX11_closesBracket 16 = .ok (.getfield 341, 3) := by decide +kernel
theorem dX11_closesBracket_19 : decode cX11_closesBracket 19 = .ok (.iconst 1, 1) := by decide +kernel
theorem dX11_closesBracket_20 : decode cX11_closesBracket 20 = .ok (.isub, 1) := by decide +kernel
theorem dX11_closesBracket_21 : decode cX11_closesBracket 21 = .ok (.putfield 341, 3) := by decide +kernel
theorem dX11_closesBracket_24 : decode cX11_closesBracket 24 = .ok (.aload_n 0, 1) := by decide +kernel
theorem dX11_closesBracket_25 : decode cX11_closesBracket 25 = .ok (.dup, 1) := by decide +kernel
theorem dX11_closesBracket_26 : decode cX11_closesBracket 26 = .ok (.getfield 338, 3) := by decide +kernel
theorem dX11_closesBracket_29 : decode cX11_closesBracket 29 = .ok (.iconst 1, 1) := by decide +kernel
theorem dX11_closesBracket_30 : decode cX11_closesBracket 30 = .ok (.isub, 1) := by decide +kernel
theorem dX11_closesBracket_31 : decode cX11_closesBracket 31 = .ok (.putfield 338, 3) := by decide +kernel
theorem dX11_closesBracket_34 : decode cX11_closesBracket 34 = .ok (.return_, 1) := by decide +kernel
