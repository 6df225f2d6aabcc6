theorem dL_law_27 : decode cL_law 27 = .ok (.aload_n 0, 1) := by decide +kernel
theorem dL_law_28 : decode cL_law 28 = .ok (.iload_n 3, 1) := by decide +kernel
theorem dL_law_29 : decode cL_law 29 = .ok (.iaload, 1) := by decide +kernel
theorem dL_law_30 : decode cL_law 30 = .ok (.bipush 63, 2) := by decide +kernel
theorem dL_law_32 : decode cL_law 32 = .ok (.iand, 1) := by decide +kernel
theorem dL_law_33 : decode cL_law 33 = .ok (.tableswitch 2131 0 49 #[215, 278, 301, 314, 337, 370, 413, 456, 489, 522, 565, 598, 611, 634, 667, 680, 723, 746, 789, 832, 875, 918, 941, 994, 1047, 1100, 1143, 1166, 1199, 1222, 1255, 1278, 1321, 1374, 1423, 1476, 1519, 1562, 1615, 1658, 1701, 1744, 1777, 1820, 1883, 1906, 1929, 1952, 1995, 2068], 215) := by decide +kernel
theorem cs50 (x : Int32) : ¬ (0 ≤ x.toInt ∧ x.toInt ≤ 49) ∨ x = 0 ∨ x = 1 ∨ x = 2 ∨ x = 3 ∨ x = 4 ∨ x = 5 ∨ x = 6 ∨ x = 7 ∨ x = 8 ∨ x = 9 ∨ x = 10 ∨ x = 11 ∨ x = 12 ∨ x = 13 ∨ x = 14 ∨ x = 15 ∨ x = 16 ∨ x = 17 ∨ x = 18 ∨ x = 19 ∨ x = 20 ∨ x = 21 ∨ x = 22 ∨ x = 23 ∨ x = 24 ∨ x = 25 ∨ x = 26 ∨ x = 27 ∨ x = 28 ∨ x = 29 ∨ x = 30 ∨ x = 31 ∨ x = 32 ∨ x = 33 ∨ x = 34 ∨ x = 35 ∨ x = 36 ∨ x = 37 ∨ x = 38 ∨ x = 39 ∨ x = 40 ∨ x = 41 ∨ x = 42 ∨ x = 43 ∨ x = 44 ∨ x = 45 ∨ x = 46 ∨ x = 47 ∨ x = 48 ∨ x = 49 := by
  by_cases h : 0 ≤ x.toInt ∧ x.toInt ≤ 49
  · refine Or.inr ?_
    have e : ∀ k : Int32, x.toInt = k.toInt → x = k := fun k q => of_int q
    rcases (show x.toInt = 0 ∨ x.toInt = 1 ∨ x.toInt = 2 ∨ x.toInt = 3 ∨ x.toInt = 4 ∨ x.toInt = 5 ∨ x.toInt = 6 ∨ x.toInt = 7 ∨ x.toInt = 8 ∨ x.toInt = 9 ∨ x.toInt = 10 ∨ x.toInt = 11 ∨ x.toInt = 12 ∨ x.toInt = 13 ∨ x.toInt = 14 ∨ x.toInt = 15 ∨ x.toInt = 16 ∨ x.toInt = 17 ∨ x.toInt = 18 ∨ x.toInt = 19 ∨ x.toInt = 20 ∨ x.toInt = 21 ∨ x.toInt = 22 ∨ x.toInt = 23 ∨ x.toInt = 24 ∨ x.toInt = 25 ∨ x.toInt = 26 ∨ x.toInt = 27 ∨ x.toInt = 28 ∨ x.toInt = 29 ∨ x.toInt = 30 ∨ x.toInt = 31 ∨ x.toInt = 32 ∨ x.toInt = 33 ∨ x.toInt = 34 ∨ x.toInt = 35 ∨ x.toInt = 36 ∨ x.toInt = 37 ∨ x.toInt = 38 ∨ x.toInt = 39 ∨ x.toInt = 40 ∨ x.toInt = 41 ∨ x.toInt = 42 ∨ x.toInt = 43 ∨ x.toInt = 44 ∨ x.toInt = 45 ∨ x.toInt = 46 ∨ x.toInt = 47 ∨ x.toInt = 48 ∨ x.toInt = 49 by omega) with q | q | q | q | q | q | q | q | q | q | q | q | q | q | q | q | q | q | q | q | q | q | q | q | q | q | q | q | q | q | q | q | q | q | q | q | q | q | q | q | q | q | q | q | q | q | q | q | q | q
    · exact Or.inl (e 0 (q.trans (by decide)))
    · exact Or.inr (Or.inl (e 1 (q.trans (by decide))))
    · exact Or.inr (Or.inr (Or.inl (e 2 (q.trans (by decide)))))
    · exact Or.inr (Or.inr (Or.inr (Or.inl (e 3 (q.trans (by decide))))))
    · exact Or.inr (Or.inr (Or.inr (Or.inr (Or.inl (e 4 (q.trans (by decide)))))))
    · exact Or.inr (Or.inr (Or.inr (Or.inr (Or.inr (Or.inl (e 5 (q.trans (by decide))))))))
    · exact Or.inr (Or.inr (Or.inr (Or.inr (Or.inr (Or.inr (Or.inl (e 6 (q.trans (by decide)))))))))
    · exact Or.inr (Or.inr (Or.inr (Or.inr (Or.inr (Or.inr (Or.inr (Or.inl (e 7 (q.trans (by decide))))))))))
    · exact Or.inr (Or.inr (Or.inr (Or.inr (Or.inr (Or.inr (Or.inr (Or.inr (Or.inl (e 8 (q.trans (by decide)))))))))))
    · exact Or.inr (Or.inr (Or.inr (Or.inr (Or.inr (Or.inr (Or.inr (Or.inr (Or.inr (Or.inl (e 9 (q.trans (by decide))))))))))))
    · exact Or.inr (Or.inr (Or.inr (Or.inr (Or.inr (Or.inr (Or.inr (Or.inr (Or.inr (Or.inr (Or.inl (e 10 (q.trans (by decide)))))))))))))
    · exact Or.inr (Or.inr (Or.inr (Or.inr (Or.inr (Or.inr (Or.inr (Or.inr (Or.inr (Or.inr (Or.inr (Or.inl (e 11 (q.trans (by decide))))))))))))))
    · exact Or.inr (Or.inr (Or.inr (Or.inr (Or.inr (Or.inr (Or.inr (Or.inr (Or.inr (Or.inr (Or.inr (Or.inr (Or.inl (e 12 (q.trans (by decide)))))))))))))))
    · exact Or.inr (Or.inr (Or.inr (Or.inr (Or.inr (Or.inr (Or.inr (Or.inr (Or.inr (Or.inr (Or.inr (Or.inr (Or.inr (Or.inl (e 13 (q.trans (by decide))))))))))))))))
    · exact Or.inr (Or.inr (Or.inr (Or.inr (Or.inr (Or.inr (Or.inr (Or.inr (Or.inr (Or.inr (Or.inr (Or.inr (Or.inr (Or.inr (Or.inl (e 14 (q.trans (by decide)))))))))))))))))
    · exact Or.inr (Or.inr (Or.inr (Or.inr (Or.inr (Or.inr (Or.inr (Or.inr (Or.inr (Or.inr (Or.inr (Or.inr (Or.inr (Or.inr (Or.inr (Or.inl (e 15 (q.trans (by decide))))))))))))))))))
    · exact Or.inr (Or.inr (Or.inr (Or.inr (Or.inr (Or.inr (Or.inr (Or.inr (Or.inr (Or.inr (Or.inr (Or.inr (Or.inr (Or.inr (Or.inr (Or.inr (Or.inl (e 16 (q.trans (by decide)))))))))))))))))))
    · exact Or.inr (Or.inr (Or.inr (Or.inr (Or.inr (Or.inr (Or.inr (Or.inr (Or.inr (Or.inr (Or.inr (Or.inr (Or.inr (Or.inr (Or.inr (Or.inr (Or.inr (Or.inl (e 17 (q.trans (by decide))))))))))))))))))))
    · exact Or.inr (Or.inr (Or.inr (Or.inr (Or.inr (Or.inr (Or.inr (Or.inr (Or.inr (Or.inr (Or.inr (Or.inr (Or.inr (Or.inr (Or.inr (Or.inr (Or.inr (Or.inr (Or.inl (e 18 (q.trans (by decide)))))))))))))))))))))
    · exact Or.inr (Or.inr (Or.inr (Or.inr (Or.inr (Or.inr (Or.inr (Or.inr (Or.inr (Or.inr (Or.inr (Or.inr (Or.inr (Or.inr (Or.inr (Or.inr (Or.inr (Or.inr (Or.inr (Or.inl (e 19 (q.trans (by decide))))))))))))))))))))))
    · exact Or.inr (Or.inr (Or.inr (Or.inr (Or.inr (Or.inr (Or.inr (Or.inr (Or.inr (Or.inr (Or.inr (Or.inr (Or.inr (Or.inr (Or.inr (Or.inr (Or.inr (Or.inr (Or.inr (Or.inr (Or.inl (e 20 (q.trans (by decide)))))))))))))))))))))))
    · exact Or.inr (Or.inr (Or.inr (Or.inr (Or.inr (Or.inr (Or.inr (Or.inr (Or.inr (Or.inr (Or.inr (Or.inr (Or.inr (Or.inr (Or.inr (Or.inr (Or.inr (Or.inr (Or.inr (Or.inr (Or.inr (Or.inl (e 21 (q.trans (by decide))))))))))))))))))))))))
    · exact Or.inr (Or.inr (Or.inr (Or.inr (Or.inr (Or.inr (Or.inr (Or.inr (Or.inr (Or.inr (Or.inr (Or.inr (Or.inr (Or.inr (Or.inr (Or.inr (Or.inr (Or.inr (Or.inr (Or.inr (Or.inr (Or.inr (Or.inl (e 22 (q.trans (by decide)))))))))))))))))))))))))
    · exact Or.inr (Or.inr (Or.inr (Or.inr (Or.inr (Or.inr (Or.inr (Or.inr (Or.inr (Or.inr (Or.inr (Or.inr (Or.inr (Or.inr (Or.inr (Or.inr (Or.inr (Or.inr (Or.inr (Or.inr (Or.inr (Or.inr (Or.inr (Or.inl (e 23 (q.trans (by decide))))))))))))))))))))))))))
    · exact Or.inr (Or.inr (Or.inr (Or.inr (Or.inr (Or.inr (Or.inr (Or.inr (Or.inr (Or.inr (Or.inr (Or.inr (Or.inr (Or.inr (Or.inr (Or.inr (Or.inr (Or.inr (Or.inr (Or.inr (Or.inr (Or.inr (Or.inr (Or.inr (Or.inl (e 24 (q.trans (by decide)))))))))))))))))))))))))))
    · exact Or.inr (Or.inr (Or.inr (Or.inr (Or.inr (Or.inr (Or.inr (Or.inr (Or.inr (Or.inr (Or.inr (Or.inr (Or.inr (Or.inr (Or.inr (Or.inr (Or.inr (Or.inr (Or.inr (Or.inr (Or.inr (Or.inr (Or.inr (Or.inr (Or.inr (Or.inl (e 25 (q.trans (by decide))))))))))))))))))))))))))))
    · exact Or.inr (Or.inr (Or.inr (Or.inr (Or.inr (Or.inr (Or.inr (Or.inr (Or.inr (Or.inr (Or.inr (Or.inr (Or.inr (Or.inr (Or.inr (Or.inr (Or.inr (Or.inr (Or.inr (Or.inr (Or.inr (Or.inr (Or.inr (Or.inr (Or.inr (Or.inr (Or.inl (e 26 (q.trans (by decide)))))))))))))))))))))))))))))
    · exact Or.inr (Or.inr (Or.inr (Or.inr (Or.inr (Or.inr (Or.inr (Or.inr (Or.inr (Or.inr (Or.inr (Or.inr (Or.inr (Or.inr (Or.inr (Or.inr (Or.inr (Or.inr (Or.inr (Or.inr (Or.inr (Or.inr (Or.inr (Or.inr (Or.inr (Or.inr (Or.inr (Or.inl (e 27 (q.trans (by decide))))))))))))))))))))))))))))))
    · exact Or.inr (Or.inr (Or.inr (Or.inr (Or.inr (Or.inr (Or.inr (Or.inr (Or.inr (Or.inr (Or.inr (Or.inr (Or.inr (Or.inr (Or.inr (Or.inr (Or.inr (Or.inr (Or.inr (Or.inr (Or.inr (Or.inr (Or.inr (Or.inr (Or.inr (Or.inr (Or.inr (Or.inr (Or.inl (e 28 (q.trans (by decide)))))))))))))))))))))))))))))))
    · exact Or.inr (Or.inr (Or.inr (Or.inr (Or.inr (Or.inr (Or.inr (Or.inr (Or.inr (Or.inr (Or.inr (Or.inr (Or.inr (Or.inr (Or.inr (Or.inr (Or.inr (Or.inr (Or.inr (Or.inr (Or.inr (Or.inr (Or.inr (Or.inr (Or.inr (Or.inr (Or.inr (Or.inr (Or.inr (Or.inl (e 29 (q.trans (by decide))))))))))))))))))))))))))))))))
    · exact Or.inr (Or.inr (Or.inr (Or.inr (Or.inr (Or.inr (Or.inr (Or.inr (Or.inr (Or.inr (Or.inr (Or.inr (Or.inr (Or.inr (Or.inr (Or.inr (Or.inr (Or.inr (Or.inr (Or.inr (Or.inr (Or.inr (Or.inr (Or.inr (Or.inr (Or.inr (Or.inr (Or.inr (Or.inr (Or.inr (Or.inl (e 30 (q.trans (by decide)))))))))))))))))))))))))))))))))
    · exact Or.inr (Or.inr (Or.inr (Or.inr (Or.inr (Or.inr (Or.inr (Or.inr (Or.inr (Or.inr (Or.inr (Or.inr (Or.inr (Or.inr (Or.inr (Or.inr (Or.inr (Or.inr (Or.inr (Or.inr (Or.inr (Or.inr (Or.inr (Or.inr (Or.inr (Or.inr (Or.inr (Or.inr (Or.inr (Or.inr (Or.inr (Or.inl (e 31 (q.trans (by decide))))))))))))))))))))))))))))))))))
    · exact Or.inr (Or.inr (Or.inr (Or.inr (Or.inr (Or.inr (Or.inr (Or.inr (Or.inr (Or.inr (Or.inr (Or.inr (Or.inr (Or.inr (Or.inr (Or.inr (Or.inr (Or.inr (Or.inr (Or.inr (Or.inr (Or.inr (Or.inr (Or.inr (Or.inr (Or.inr (Or.inr (Or.inr (Or.inr (Or.inr (Or.inr (Or.inr (Or.inl (e 32 (q.trans (by decide)))))))))))))))))))))))))))))))))))
    · exact Or.inr (Or.inr (Or.inr (Or.inr (Or.inr (Or.inr (Or.inr (Or.inr (Or.inr (Or.inr (Or.inr (Or.inr (Or.inr (Or.inr (Or.inr (Or.inr (Or.inr (Or.inr (Or.inr (Or.inr (Or.inr (Or.inr (Or.inr (Or.inr (Or.inr (Or.inr (Or.inr (Or.inr (Or.inr (Or.inr (Or.inr (Or.inr (Or.inr (Or.inl (e 33 (q.trans (by decide))))))))))))))))))))))))))))))))))))
    · exact Or.inr (Or.inr (Or.inr (Or.inr (Or.inr (Or.inr (Or.inr (Or.inr (Or.inr (Or.inr (Or.inr (Or.inr (Or.inr (Or.inr (Or.inr (Or.inr (Or.inr (Or.inr (Or.inr (Or.inr (Or.inr (Or.inr (Or.inr (Or.inr (Or.inr (Or.inr (Or.inr (Or.inr (Or.inr (Or.inr (Or.inr (Or.inr (Or.inr (Or.inr (Or.inl (e 34 (q.trans (by decide)))))))))))))))))))))))))))))))))))))
    · exact Or.inr (Or.inr (Or.inr (Or.inr (Or.inr (Or.inr (Or.inr (Or.inr (Or.inr (Or.inr (Or.inr (Or.inr (Or.inr (Or.inr (Or.inr (Or.inr (Or.inr (Or.inr (Or.inr (Or.inr (Or.inr (Or.inr (Or.inr (Or.inr (Or.inr (Or.inr (Or.inr (Or.inr (Or.inr (Or.inr (Or.inr (Or.inr (Or.inr (Or.inr (Or.inr (Or.inl (e 35 (q.trans (by decide))))))))))))))))))))))))))))))))))))))
    · exact Or.inr (Or.inr (Or.inr (Or.inr (Or.inr (Or.inr (Or.inr (Or.inr (Or.inr (Or.inr (Or.inr (Or.inr (Or.inr (Or.inr (Or.inr (Or.inr (Or.inr (Or.inr (Or.inr (Or.inr (Or.inr (Or.inr (Or.inr (Or.inr (Or.inr (Or.inr (Or.inr (Or.inr (Or.inr (Or.inr (Or.inr (Or.inr (Or.inr (Or.inr (Or.inr (Or.inr (Or.inl (e 36 (q.trans (by decide)))))))))))))))))))))))))))))))))))))))
    · exact Or.inr (Or.inr (Or.inr (Or.inr (Or.inr (Or.inr (Or.inr (Or.inr (Or.inr (Or.inr (Or.inr (Or.inr (Or.inr (Or.inr (Or.inr (Or.inr (Or.inr (Or.inr (Or.inr (Or.inr (Or.inr (Or.inr (Or.inr (Or.inr (Or.inr (Or.inr (Or.inr (Or.inr (Or.inr (Or.inr (Or.inr (Or.inr (Or.inr (Or.inr (Or.inr (Or.inr (Or.inr (Or.inl (e 37 (q.trans (by decide))))))))))))))))))))))))))))))))))))))))
    · exact Or.inr (Or.inr (Or.inr (Or.inr (Or.inr (Or.inr (Or.inr (Or.inr (Or.inr (Or.inr (Or.inr (Or.inr (Or.inr (Or.inr (Or.inr (Or.inr (Or.inr (Or.inr (Or.inr (Or.inr (Or.inr (Or.inr (Or.inr (Or.inr (Or.inr (Or.inr (Or.inr (Or.inr (Or.inr (Or.inr (Or.inr (Or.inr (Or.inr (Or.inr (Or.inr (Or.inr (Or.inr (Or.inr (Or.inl (e 38 (q.trans (by decide)))))))))))))))))))))))))))))))))))))))))
    · exact Or.inr (Or.inr (Or.inr (Or.inr (Or.inr (Or.inr (Or.inr (Or.inr (Or.inr (Or.inr (Or.inr (Or.inr (Or.inr (Or.inr (Or.inr (Or.inr (Or.inr (Or.inr (Or.inr (Or.inr (Or.inr (Or.inr (Or.inr (Or.inr (Or.inr (Or.inr (Or.inr (Or.inr (Or.inr (Or.inr (Or.inr (Or.inr (Or.inr (Or.inr (Or.inr (Or.inr (Or.inr (Or.inr (Or.inr (Or.inl (e 39 (q.trans (by decide))))))))))))))))))))))))))))))))))))))))))
    · exact Or.inr (Or.inr (Or.inr (Or.inr (Or.inr (Or.inr (Or.inr (Or.inr (Or.inr (Or.inr (Or.inr (Or.inr (Or.inr (Or.inr (Or.inr (Or.inr (Or.inr (Or.inr (Or.inr (Or.inr (Or.inr (Or.inr (Or.inr (Or.inr (Or.inr (Or.inr (Or.inr (Or.inr (Or.inr (Or.inr (Or.inr (Or.inr (Or.inr (Or.inr (Or.inr (Or.inr (Or.inr (Or.inr (Or.inr (Or.inr (Or.inl (e 40 (q.trans (by decide)))))))))))))))))))))))))))))))))))))))))))
    · exact Or.inr (Or.inr (Or.inr (Or.inr (Or.inr (Or.inr (Or.inr (Or.inr (Or.inr (Or.inr (Or.inr (Or.inr (Or.inr (Or.inr (Or.inr (Or.inr (Or.inr (Or.inr (Or.inr (Or.inr (Or.inr (Or.inr (Or.inr (Or.inr (Or.inr (Or.inr (Or.inr (Or.inr (Or.inr (Or.inr (Or.inr (Or.inr (Or.inr (Or.inr (Or.inr (Or.inr (Or.inr (Or.inr (Or.inr (Or.inr (Or.inr (Or.inl (e 41 (q.trans (by decide))))))))))))))))))))))))))))))))))))))))))))
    · exact Or.inr (Or.inr (Or.inr (Or.inr (Or.inr (Or.inr (Or.inr (Or.inr (Or.inr (Or.inr (Or.inr (Or.inr (Or.inr (Or.inr (Or.inr (Or.inr (Or.inr (Or.inr (Or.inr (Or.inr (Or.inr (Or.inr (Or.inr (Or.inr (Or.inr (Or.inr (Or.inr (Or.inr (Or.inr (Or.inr (Or.inr (Or.inr (Or.inr (Or.inr (Or.inr (Or.inr (Or.inr (Or.inr (Or.inr (Or.inr (Or.inr (Or.inr (Or.inl (e 42 (q.trans (by decide)))))))))))))))))))))))))))))))))))))))))))))
    · exact Or.inr (Or.inr (Or.inr (Or.inr (Or.inr (Or.inr (Or.inr (Or.inr (Or.inr (Or.inr (Or.inr (Or.inr (Or.inr (Or.inr (Or.inr (Or.inr (Or.inr (Or.inr (Or.inr (Or.inr (Or.inr (Or.inr (Or.inr (Or.inr (Or.inr (Or.inr (Or.inr (Or.inr (Or.inr (Or.inr (Or.inr (Or.inr (Or.inr (Or.inr (Or.inr (Or.inr (Or.inr (Or.inr (Or.inr (Or.inr (Or.inr (Or.inr (Or.inr (Or.inl (e 43 (q.trans (by decide))))))))))))))))))))))))))))))))))))))))))))))
    · exact Or.inr (Or.inr (Or.inr (Or.inr (Or.inr (Or.inr (Or.inr (Or.inr (Or.inr (Or.inr (Or.inr (Or.inr (Or.inr (Or.inr (Or.inr (Or.inr (Or.inr (Or.inr (Or.inr (Or.inr (Or.inr (Or.inr (Or.inr (Or.inr (Or.inr (Or.inr (Or.inr (Or.inr (Or.inr (Or.inr (Or.inr (Or.inr (Or.inr (Or.inr (Or.inr (Or.inr (Or.inr (Or.inr (Or.inr (Or.inr (Or.inr (Or.inr (Or.inr (Or.inr (Or.inl (e 44 (q.trans (by decide)))))))))))))))))))))))))))))))))))))))))))))))
    · exact Or.inr (Or.inr (Or.inr (Or.inr (Or.inr (Or.inr (Or.inr (Or.inr (Or.inr (Or.inr (Or.inr (Or.inr (Or.inr (Or.inr (Or.inr (Or.inr (Or.inr (Or.inr (Or.inr (Or.inr (Or.inr (Or.inr (Or.inr (Or.inr (Or.inr (Or.inr (Or.inr (Or.inr (Or.inr (Or.inr (Or.inr (Or.inr (Or.inr (Or.inr (Or.inr (Or.inr (Or.inr (Or.inr (Or.inr (Or.inr (Or.inr (Or.inr (Or.inr (Or.inr (Or.inr (Or.inl (e 45 (q.trans (by decide))))))))))))))))))))))))))))))))))))))))))))))))
    · exact Or.inr (Or.inr (Or.inr (Or.inr (Or.inr (Or.inr (Or.inr (Or.inr (Or.inr (Or.inr (Or.inr (Or.inr (Or.inr (Or.inr (Or.inr (Or.inr (Or.inr (Or.inr (Or.inr (Or.inr (Or.inr (Or.inr (Or.inr (Or.inr (Or.inr (Or.inr (Or.inr (Or.inr (Or.inr (Or.inr (Or.inr (Or.inr (Or.inr (Or.inr (Or.inr (Or.inr (Or.inr (Or.inr (Or.inr (Or.inr (Or.inr (Or.inr (Or.inr (Or.inr (Or.inr (Or.inr (Or.inl (e 46 (q.trans (by decide)))))))))))))))))))))))))))))))))))))))))))))))))
    · exact Or.inr (Or.inr (Or.inr (Or.inr (Or.inr (Or.inr (Or.inr (Or.inr (Or.inr (Or.inr (Or.inr (Or.inr (Or.inr (Or.inr (Or.inr (Or.inr (Or.inr (Or.inr (Or.inr (Or.inr (Or.inr (Or.inr (Or.inr (Or.inr (Or.inr (Or.inr (Or.inr (Or.inr (Or.inr (Or.inr (Or.inr (Or.inr (Or.inr (Or.inr (Or.inr (Or.inr (Or.inr (Or.inr (Or.inr (Or.inr (Or.inr (Or.inr (Or.inr (Or.inr (Or.inr (Or.inr (Or.inr (Or.inl (e 47 (q.trans (by decide))))))))))))))))))))))))))))))))))))))))))))))))))
    · exact Or.inr (Or.inr (Or.inr (Or.inr (Or.inr (Or.inr (Or.inr (Or.inr (Or.inr (Or.inr (Or.inr (Or.inr (Or.inr (Or.inr (Or.inr (Or.inr (Or.inr (Or.inr (Or.inr (Or.inr (Or.inr (Or.inr (Or.inr (Or.inr (Or.inr (Or.inr (Or.inr (Or.inr (Or.inr (Or.inr (Or.inr (Or.inr (Or.inr (Or.inr (Or.inr (Or.inr (Or.inr (Or.inr (Or.inr (Or.inr (Or.inr (Or.inr (Or.inr (Or.inr (Or.inr (Or.inr (Or.inr (Or.inr (Or.inl (e 48 (q.trans (by decide)))))))))))))))))))))))))))))))))))))))))))))))))))
    · exact Or.inr (Or.inr (Or.inr (Or.inr (Or.inr (Or.inr (Or.inr (Or.inr (Or.inr (Or.inr (Or.inr (Or.inr (Or.inr (Or.inr (Or.inr (Or.inr (Or.inr (Or.inr (Or.inr (Or.inr (Or.inr (Or.inr (Or.inr (Or.inr (Or.inr (Or.inr (Or.inr (Or.inr (Or.inr (Or.inr (Or.inr (Or.inr (Or.inr (Or.inr (Or.inr (Or.inr (Or.inr (Or.inr (Or.inr (Or.inr (Or.inr (Or.inr (Or.inr (Or.inr (Or.inr (Or.inr (Or.inr (Or.inr (Or.inr (e 49 (q.trans (by decide)))))))))))))))))))))))))))))))))))))))))))))))))))
  · exact Or.inl h

set_option maxHeartbeats 4000000 in
set_option maxRecDepth 100000 in
/-- the loop's head: a script of less than six ints ends at once; else its one call is made -/
theorem law_loop {p : Program} {l : Launch} {e : Env} {s : State} {m : MethodId} {below : List Frame} {meth : Method} {c : Code} {b L : Nat} {xs : Nat → Int32} (hL : L ≤ 6) (C0 : lw_At p s m meth c b L xs) {D : va_G} {E : Nat → ClassId} {A : Nat → Prop} (hA : ∀ q : Nat, s.heap.size ≤ q → A q) (hAb : ∀ q : Nat, A q → s.heap.size ≤ q) (hK : va_K D vwCl (tyE E) s) (hN : nw s) {x y : Nat} {u w : Nat → Nat} {H : Heap} {locs : List Loc} (hP : va_P D vwCl (wX E x u ++ wM E y w) H) (hD : va_D A (wX E x u ++ wM E y w)) (hS : va_S A s.heap H locs) {ls : Array Slot} (hl : lv_has ls 4 [(3, .int 0), (2, .ref y), (1, .ref x), (0, .ref b)]) : W p l e room_1 s m #[Value.ref b] below meth c H locs 203 75658 (lw_Z below #[Value.ref b] s) (F0 m 18 ls []) := by
  rcases (show L = 0 ∨ L = 1 ∨ L = 2 ∨ L = 3 ∨ L = 4 ∨ L = 5 ∨ L = 6 by omega) with rfl | rfl | rfl | rfl | rfl | rfl | rfl
  · obtain ⟨hx, hb, hr, hml, hown, hts, hX, hbl, hlocks, hgv⟩ := id C0
    have hbA : ¬ A b := fun h => Nat.not_le.mpr hbl (hAb _ h)
    refine lv_iload_n hx hb dL_law_18 rfl (lv_at hl 0 rfl) ?_
    refine lv_aload_n hx hb dL_law_19 rfl (lv_at hl 3 rfl) ?_
    refine va_slen hx hb hX hbl hbA hS dL_law_20 ?_
    refine lv_toc (y := 0) (by decide) ?_
    refine lv_bipush (v := 6) hx hb dL_law_21 (by decide) ?_
    refine lv_isub hx hb dL_law_23 ?_
    refine lv_toc (y := (-6)) (by decide) ?_
    refine lv_icmp_gt (tgt := 2170) hx hb dL_law_24 (by decide) (fun _ => ?_) (fun h9 => absurd (by decide) h9)
    exact law_exit C0 hAb hS (by decide) (by decide)
  · obtain ⟨hx, hb, hr, hml, hown, hts, hX, hbl, hlocks, hgv⟩ := id C0
    have hbA : ¬ A b := fun h => Nat.not_le.mpr hbl (hAb _ h)
    refine lv_iload_n hx hb dL_law_18 rfl (lv_at hl 0 rfl) ?_
    refine lv_aload_n hx hb dL_law_19 rfl (lv_at hl 3 rfl) ?_
    refine va_slen hx hb hX hbl hbA hS dL_law_20 ?_
    refine lv_toc (y := 1) (by decide) ?_
    refine lv_bipush (v := 6) hx hb dL_law_21 (by decide) ?_
    refine lv_isub hx hb dL_law_23 ?_
    refine lv_toc (y := (-5)) (by decide) ?_
    refine lv_icmp_gt (tgt := 2170) hx hb dL_law_24 (by decide) (fun _ => ?_) (fun h9 => absurd (by decide) h9)
    exact law_exit C0 hAb hS (by decide) (by decide)
  · obtain ⟨hx, hb, hr, hml, hown, hts, hX, hbl, hlocks, hgv⟩ := id C0
    have hbA : ¬ A b := fun h => Nat.not_le.mpr hbl (hAb _ h)
    refine lv_iload_n hx hb dL_law_18 rfl (lv_at hl 0 rfl) ?_
    refine lv_aload_n hx hb dL_law_19 rfl (lv_at hl 3 rfl) ?_
    refine va_slen hx hb hX hbl hbA hS dL_law_20 ?_
    refine lv_toc (y := 2) (by decide) ?_
    refine lv_bipush (v := 6) hx hb dL_law_21 (by decide) ?_
    refine lv_isub hx hb dL_law_23 ?_
    refine lv_toc (y := (-4)) (by decide) ?_
    refine lv_icmp_gt (tgt := 2170) hx hb dL_law_24 (by decide) (fun _ => ?_) (fun h9 => absurd (by decide) h9)
    exact law_exit C0 hAb hS (by decide) (by decide)
  · obtain ⟨hx, hb, hr, hml, hown, hts, hX, hbl, hlocks, hgv⟩ := id C0
    have hbA : ¬ A b := fun h => Nat.not_le.mpr hbl (hAb _ h)
    refine lv_iload_n hx hb dL_law_18 rfl (lv_at hl 0 rfl) ?_
    refine lv_aload_n hx hb dL_law_19 rfl (lv_at hl 3 rfl) ?_
    refine va_slen hx hb hX hbl hbA hS dL_law_20 ?_
    refine lv_toc (y := 3) (by decide) ?_
    refine lv_bipush (v := 6) hx hb dL_law_21 (by decide) ?_
    refine lv_isub hx hb dL_law_23 ?_
    refine lv_toc (y := (-3)) (by decide) ?_
    refine lv_icmp_gt (tgt := 2170) hx hb dL_law_24 (by decide) (fun _ => ?_) (fun h9 => absurd (by decide) h9)
    exact law_exit C0 hAb hS (by decide) (by decide)
  · obtain ⟨hx, hb, hr, hml, hown, hts, hX, hbl, hlocks, hgv⟩ := id C0
    have hbA : ¬ A b := fun h => Nat.not_le.mpr hbl (hAb _ h)
    refine lv_iload_n hx hb dL_law_18 rfl (lv_at hl 0 rfl) ?_
    refine lv_aload_n hx hb dL_law_19 rfl (lv_at hl 3 rfl) ?_
    refine va_slen hx hb hX hbl hbA hS dL_law_20 ?_
    refine lv_toc (y := 4) (by decide) ?_
    refine lv_bipush (v := 6) hx hb dL_law_21 (by decide) ?_
    refine lv_isub hx hb dL_law_23 ?_
    refine lv_toc (y := (-2)) (by decide) ?_
    refine lv_icmp_gt (tgt := 2170) hx hb dL_law_24 (by decide) (fun _ => ?_) (fun h9 => absurd (by decide) h9)
    exact law_exit C0 hAb hS (by decide) (by decide)
  · obtain ⟨hx, hb, hr, hml, hown, hts, hX, hbl, hlocks, hgv⟩ := id C0
    have hbA : ¬ A b := fun h => Nat.not_le.mpr hbl (hAb _ h)
    refine lv_iload_n hx hb dL_law_18 rfl (lv_at hl 0 rfl) ?_
    refine lv_aload_n hx hb dL_law_19 rfl (lv_at hl 3 rfl) ?_
    refine va_slen hx hb hX hbl hbA hS dL_law_20 ?_
    refine lv_toc (y := 5) (by decide) ?_
    refine lv_bipush (v := 6) hx hb dL_law_21 (by decide) ?_
    refine lv_isub hx hb dL_law_23 ?_
    refine lv_toc (y := (-1)) (by decide) ?_
    refine lv_icmp_gt (tgt := 2170) hx hb dL_law_24 (by decide) (fun _ => ?_) (fun h9 => absurd (by decide) h9)
    exact law_exit C0 hAb hS (by decide) (by decide)
  · obtain ⟨hx, hb, hr, hml, hown, hts, hX, hbl, hlocks, hgv⟩ := id C0
    have hbA : ¬ A b := fun h => Nat.not_le.mpr hbl (hAb _ h)
    refine lv_iload_n hx hb dL_law_18 rfl (lv_at hl 0 rfl) ?_
    refine lv_aload_n hx hb dL_law_19 rfl (lv_at hl 3 rfl) ?_
    refine va_slen hx hb hX hbl hbA hS dL_law_20 ?_
    refine lv_toc (y := 6) (by decide) ?_
    refine lv_bipush (v := 6) hx hb dL_law_21 (by decide) ?_
    refine lv_isub hx hb dL_law_23 ?_
    refine lv_toc (y := 0) (by decide) ?_
    refine lv_icmp_gt (tgt := 2170) hx hb dL_law_24 (by decide) (fun h9 => absurd h9 (by decide)) (fun _ => ?_)
    refine lv_aload_n hx hb dL_law_27 rfl (lv_at hl 3 rfl) ?_
    refine lv_iload_n hx hb dL_law_28 rfl (lv_at hl 0 rfl) ?_
    refine va_sld hx hb hX hbl hbA hS (by unfold vp_in; decide) dL_law_29 ?_
    refine lv_bipush (v := 63) hx hb dL_law_30 (by decide) ?_
    refine lv_iand hx hb dL_law_32 ?_
    refine lv_topi (fun z ez => ?_)
    clear ez
    rcases cs50 z with h | rfl | rfl | rfl | rfl | rfl | rfl | rfl | rfl | rfl | rfl | rfl | rfl | rfl | rfl | rfl | rfl | rfl | rfl | rfl | rfl | rfl | rfl | rfl | rfl | rfl | rfl | rfl | rfl | rfl | rfl | rfl | rfl | rfl | rfl | rfl | rfl | rfl | rfl | rfl | rfl | rfl | rfl | rfl | rfl | rfl | rfl | rfl | rfl | rfl | rfl
    · refine lv_tableOut (tgt := 2164) hx hb dL_law_33 (out_tb h) (by decide) ?_
      exact law_tail C0 hA hAb hS (by decide) (by decide) hl
    · exact lv_tableIn (off := 215) (tgt := 248) hx hb dL_law_33 (by decide) (by decide) rfl (by decide) (law_c0 C0 hA hAb hK hN hP hD hS hl)
    · exact lv_tableIn (off := 278) (tgt := 311) hx hb dL_law_33 (by decide) (by decide) rfl (by decide) (law_c1 C0 hA hAb hK hN hP hD hS hl)
    · exact lv_tableIn (off := 301) (tgt := 334) hx hb dL_law_33 (by decide) (by decide) rfl (by decide) (law_c2 C0 hA hAb hK hN hP hD hS hl)
    · exact lv_tableIn (off := 314) (tgt := 347) hx hb dL_law_33 (by decide) (by decide) rfl (by decide) (law_c3 C0 hA hAb hK hN hP hD hS hl)
    · exact lv_tableIn (off := 337) (tgt := 370) hx hb dL_law_33 (by decide) (by decide) rfl (by decide) (law_c4 C0 hA hAb hK hN hP hD hS hl)
    · exact lv_tableIn (off := 370) (tgt := 403) hx hb dL_law_33 (by decide) (by decide) rfl (by decide) (law_c5 C0 hA hAb hK hN hP hD hS hl)
    · exact lv_tableIn (off := 413) (tgt := 446) hx hb dL_law_33 (by decide) (by decide) rfl (by decide) (law_c6 C0 hA hAb hK hN hP hD hS hl)
    · exact lv_tableIn (off := 456) (tgt := 489) hx hb dL_law_33 (by decide) (by decide) rfl (by decide) (law_c7 C0 hA hAb hK hN hP hD hS hl)
    · exact lv_tableIn (off := 489) (tgt := 522) hx hb dL_law_33 (by decide) (by decide) rfl (by decide) (law_c8 C0 hA hAb hK hN hP hD hS hl)
    · exact lv_tableIn (off := 522) (tgt := 555) hx hb dL_law_33 (by decide) (by decide) rfl (by decide) (law_c9 C0 hA hAb hK hN hP hD hS hl)
    · exact lv_tableIn (off := 565) (tgt := 598) hx hb dL_law_33 (by decide) (by decide) rfl (by decide) (law_c10 C0 hA hAb hK hN hP hD hS hl)
    · exact lv_tableIn (off := 598) (tgt := 631) hx hb dL_law_33 (by decide) (by decide) rfl (by decide) (law_c11 C0 hA hAb hK hN hP hD hS hl)
    · exact lv_tableIn (off := 611) (tgt := 644) hx hb dL_law_33 (by decide) (by decide) rfl (by decide) (law_c12 C0 hA hAb hK hN hP hD hS hl)
    · exact lv_tableIn (off := 634) (tgt := 667) hx hb dL_law_33 (by decide) (by decide) rfl (by decide) (law_c13 C0 hA hAb hK hN hP hD hS hl)
    · exact lv_tableIn (off := 667) (tgt := 700) hx hb dL_law_33 (by decide) (by decide) rfl (by decide) (law_c14 C0 hA hAb hK hN hP hD hS hl)
    · exact lv_tableIn (off := 680) (tgt := 713) hx hb dL_law_33 (by decide) (by decide) rfl (by decide) (law_c15 C0 hA hAb hK hN hP hD hS hl)
    · exact lv_tableIn (off := 723) (tgt := 756) hx hb dL_law_33 (by decide) (by decide) rfl (by decide) (law_c16 C0 hA hAb hK hN hP hD hS hl)
    · exact lv_tableIn (off := 746) (tgt := 779) hx hb dL_law_33 (by decide) (by decide) rfl (by decide) (law_c17 C0 hA hAb hK hN hP hD hS hl)
    · exact lv_tableIn (off := 789) (tgt := 822) hx hb dL_law_33 (by decide) (by decide) rfl (by decide) (law_c18 C0 hA hAb hK hN hP hD hS hl)
    · exact lv_tableIn (off := 832) (tgt := 865) hx hb dL_law_33 (by decide) (by decide) rfl (by decide) (law_c19 C0 hA hAb hK hN hP hD hS hl)
    · exact lv_tableIn (off := 875) (tgt := 908) hx hb dL_law_33 (by decide) (by decide) rfl (by decide) (law_c20 C0 hA hAb hK hN hP hD hS hl)
    · exact lv_tableIn (off := 918) (tgt := 951) hx hb dL_law_33 (by decide) (by decide) rfl (by decide) (law_c21 C0 hA hAb hK hN hP hD hS hl)
    · exact lv_tableIn (off := 941) (tgt := 974) hx hb dL_law_33 (by decide) (by decide) rfl (by decide) (law_c22 C0 hA hAb hK hN hP hD hS hl)
    · exact lv_tableIn (off := 994) (tgt := 1027) hx hb dL_law_33 (by decide) (by decide) rfl (by decide) (law_c23 C0 hA hAb hK hN hP hD hS hl)
    · exact lv_tableIn (off := 1047) (tgt := 1080) hx hb dL_law_33 (by decide) (by decide) rfl (by decide) (law_c24 C0 hA hAb hK hN hP hD hS hl)
    · exact lv_tableIn (off := 1100) (tgt := 1133) hx hb dL_law_33 (by decide) (by decide) rfl (by decide) (law_c25 C0 hA hAb hK hN hP hD hS hl)
    · exact lv_tableIn (off := 1143) (tgt := 1176) hx hb dL_law_33 (by decide) (by decide) rfl (by decide) (law_c26 C0 hA hAb hK hN hP hD hS hl)
    · exact lv_tableIn (off := 1166) (tgt := 1199) hx hb dL_law_33 (by decide) (by decide) rfl (by decide) (law_c27 C0 hA hAb hK hN hP hD hS hl)
    · exact lv_tableIn (off := 1199) (tgt := 1232) hx hb dL_law_33 (by decide) (by decide) rfl (by decide) (law_c28 C0 hA hAb hK hN hP hD hS hl)
    · exact lv_tableIn (off := 1222) (tgt := 1255) hx hb dL_law_33 (by decide) (by decide) rfl (by decide) (law_c29 C0 hA hAb hK hN hP hD hS hl)
    · exact lv_tableIn (off := 1255) (tgt := 1288) hx hb dL_law_33 (by decide) (by decide) rfl (by decide) (law_c30 C0 hA hAb hK hN hP hD hS hl)
    · exact lv_tableIn (off := 1278) (tgt := 1311) hx hb dL_law_33 (by decide) (by decide) rfl (by decide) (law_c31 C0 hA hAb hK hN hP hD hS hl)
    · exact lv_tableIn (off := 1321) (tgt := 1354) hx hb dL_law_33 (by decide) (by decide) rfl (by decide) (law_c32 C0 hA hAb hK hN hP hD hS hl)
    · exact lv_tableIn (off := 1374) (tgt := 1407) hx hb dL_law_33 (by decide) (by decide) rfl (by decide) (law_c33 C0 hA hAb hK hN hP hD hS hl)
    · exact lv_tableIn (off := 1423) (tgt := 1456) hx hb dL_law_33 (by decide) (by decide) rfl (by decide) (law_c34 C0 hA hAb hK hN hP hD hS hl)
    · exact lv_tableIn (off := 1476) (tgt := 1509) hx hb dL_law_33 (by decide) (by decide) rfl (by decide) (law_c35 C0 hA hAb hK hN hP hD hS hl)
    · exact lv_tableIn (off := 1519) (tgt := 1552) hx hb dL_law_33 (by decide) (by decide) rfl (by decide) (law_c36 C0 hA hAb hK hN hP hD hS hl)
    · exact lv_tableIn (off := 1562) (tgt := 1595) hx hb dL_law_33 (by decide) (by decide) rfl (by decide) (law_c37 C0 hA hAb hK hN hP hD hS hl)
    · exact lv_tableIn (off := 1615) (tgt := 1648) hx hb dL_law_33 (by decide) (by decide) rfl (by decide) (law_c38 C0 hA hAb hK hN hP hD hS hl)
    · exact lv_tableIn (off := 1658) (tgt := 1691) hx hb dL_law_33 (by decide) (by decide) rfl (by decide) (law_c39 C0 hA hAb hK hN hP hD hS hl)
    · exact lv_tableIn (off := 1701) (tgt := 1734) hx hb dL_law_33 (by decide) (by decide) rfl (by decide) (law_c40 C0 hA hAb hK hN hP hD hS hl)
    · exact lv_tableIn (off := 1744) (tgt := 1777) hx hb dL_law_33 (by decide) (by decide) rfl (by decide) (law_c41 C0 hA hAb hK hN hP hD hS hl)
    · exact lv_tableIn (off := 1777) (tgt := 1810) hx hb dL_law_33 (by decide) (by decide) rfl (by decide) (law_c42 C0 hA hAb hK hN hP hD hS hl)
    · exact lv_tableIn (off := 1820) (tgt := 1853) hx hb dL_law_33 (by decide) (by decide) rfl (by decide) (law_c43 C0 hA hAb hK hN hP hD hS hl)
    · exact lv_tableIn (off := 1883) (tgt := 1916) hx hb dL_law_33 (by decide) (by decide) rfl (by decide) (law_c44 C0 hA hAb hK hN hP hD hS hl)
    · exact lv_tableIn (off := 1906) (tgt := 1939) hx hb dL_law_33 (by decide) (by decide) rfl (by decide) (law_c45 C0 hA hAb hK hN hP hD hS hl)
    · exact lv_tableIn (off := 1929) (tgt := 1962) hx hb dL_law_33 (by decide) (by decide) rfl (by decide) (law_c46 C0 hA hAb hK hN hP hD hS hl)
    · exact lv_tableIn (off := 1952) (tgt := 1985) hx hb dL_law_33 (by decide) (by decide) rfl (by decide) (law_c47 C0 hA hAb hK hN hP hD hS hl)
    · exact lv_tableIn (off := 1995) (tgt := 2028) hx hb dL_law_33 (by decide) (by decide) rfl (by decide) (law_c48 C0 hA hAb hK hN hP hD hS hl)
    · exact lv_tableIn (off := 2068) (tgt := 2101) hx hb dL_law_33 (by decide) (by decide) rfl (by decide) (law_c49 C0 hA hAb hK hN hP hD hS hl)

