theorem wd_by : ∀ si : Nat, si < 9 → ∀ j : Nat, j < lenS.getD si 0 → ((bytS.getD si []).getD j 0) &&& 255 = nI ((wdS.getD si []).getD j 0) := by decide +kernel
theorem wd_len : ∀ si : Nat, si < 9 → (wdS.getD si []).length = lenS.getD si 0 := by decide
theorem wd_le : ∀ si : Nat, si < 9 → ∀ j : Nat, j < lenS.getD si 0 → (wdS.getD si []).getD j 0 ≤ 255 := by decide

