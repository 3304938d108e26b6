theorem dLa_law_968 : decode cLa_law 968 = .ok (.iload 6, 2) := by decide +kernel
theorem dLa_law_970 : decode cLa_law 970 = .ok (.i2l, 1) := by decide +kernel
theorem dLa_law_971 : decode cLa_law 971 = .ok (.lcmp, 1) := by decide +kernel
theorem dLa_law_972 : decode cLa_law 972 = .ok (.ifCond .eq 5, 3) := by decide +kernel
theorem dLa_law_975 : decode cLa_law 975 = .ok (.iconst 0, 1) := by decide +kernel
theorem dLa_law_976 : decode cLa_law 976 = .ok (.ireturn, 1) := by decide +kernel
theorem dLa_law_977 : decode cLa_law 977 = .ok (.goto 3, 3) := by decide +kernel
theorem dLa_law_980 : decode cLa_law 980 = .ok (.iinc 4 5, 3) := by decide +kernel
theorem dLa_law_983 : decode cLa_law 983 = .ok (.goto (-960), 3) := by decide +kernel
theorem dLa_law_986 : decode cLa_law 986 = .ok (.iconst 1, 1) := by decide +kernel
theorem dLa_law_987 : decode cLa_law 987 = .ok (.ireturn, 1) := by decide +kernel
