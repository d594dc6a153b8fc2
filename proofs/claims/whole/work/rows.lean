section
theorem zz_look (n : Nat) : n + 0 = n := by omega
theorem i_vc : Claimed_1_1 ∧ Claimed_1_2 := sorry
end
