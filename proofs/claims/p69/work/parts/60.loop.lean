theorem mm_k127 : mm_rg 127 127 127 := ⟨by decide, by decide⟩
theorem mm_cases72 {v : Int32} (h : mm_rg v 0 71) : v = 0 ∨ v = 1 ∨ v = 2 ∨ v = 3 ∨ v = 4 ∨ v = 5 ∨ v = 6 ∨ v = 7 ∨ v = 8 ∨ v = 9 ∨ v = 10 ∨ v = 11 ∨ v = 12 ∨ v = 13 ∨ v = 14 ∨ v = 15 ∨ v = 16 ∨ v = 17 ∨ v = 18 ∨ v = 19 ∨ v = 20 ∨ v = 21 ∨ v = 22 ∨ v = 23 ∨ v = 24 ∨ v = 25 ∨ v = 26 ∨ v = 27 ∨ v = 28 ∨ v = 29 ∨ v = 30 ∨ v = 31 ∨ v = 32 ∨ v = 33 ∨ v = 34 ∨ v = 35 ∨ v = 36 ∨ v = 37 ∨ v = 38 ∨ v = 39 ∨ v = 40 ∨ v = 41 ∨ v = 42 ∨ v = 43 ∨ v = 44 ∨ v = 45 ∨ v = 46 ∨ v = 47 ∨ v = 48 ∨ v = 49 ∨ v = 50 ∨ v = 51 ∨ v = 52 ∨ v = 53 ∨ v = 54 ∨ v = 55 ∨ v = 56 ∨ v = 57 ∨ v = 58 ∨ v = 59 ∨ v = 60 ∨ v = 61 ∨ v = 62 ∨ v = 63 ∨ v = 64 ∨ v = 65 ∨ v = 66 ∨ v = 67 ∨ v = 68 ∨ v = 69 ∨ v = 70 ∨ v = 71 := by
  have q : v.toInt = 0 ∨ v.toInt = 1 ∨ v.toInt = 2 ∨ v.toInt = 3 ∨ v.toInt = 4 ∨ v.toInt = 5 ∨ v.toInt = 6 ∨ v.toInt = 7 ∨ v.toInt = 8 ∨ v.toInt = 9 ∨ v.toInt = 10 ∨ v.toInt = 11 ∨ v.toInt = 12 ∨ v.toInt = 13 ∨ v.toInt = 14 ∨ v.toInt = 15 ∨ v.toInt = 16 ∨ v.toInt = 17 ∨ v.toInt = 18 ∨ v.toInt = 19 ∨ v.toInt = 20 ∨ v.toInt = 21 ∨ v.toInt = 22 ∨ v.toInt = 23 ∨ v.toInt = 24 ∨ v.toInt = 25 ∨ v.toInt = 26 ∨ v.toInt = 27 ∨ v.toInt = 28 ∨ v.toInt = 29 ∨ v.toInt = 30 ∨ v.toInt = 31 ∨ v.toInt = 32 ∨ v.toInt = 33 ∨ v.toInt = 34 ∨ v.toInt = 35 ∨ v.toInt = 36 ∨ v.toInt = 37 ∨ v.toInt = 38 ∨ v.toInt = 39 ∨ v.toInt = 40 ∨ v.toInt = 41 ∨ v.toInt = 42 ∨ v.toInt = 43 ∨ v.toInt = 44 ∨ v.toInt = 45 ∨ v.toInt = 46 ∨ v.toInt = 47 ∨ v.toInt = 48 ∨ v.toInt = 49 ∨ v.toInt = 50 ∨ v.toInt = 51 ∨ v.toInt = 52 ∨ v.toInt = 53 ∨ v.toInt = 54 ∨ v.toInt = 55 ∨ v.toInt = 56 ∨ v.toInt = 57 ∨ v.toInt = 58 ∨ v.toInt = 59 ∨ v.toInt = 60 ∨ v.toInt = 61 ∨ v.toInt = 62 ∨ v.toInt = 63 ∨ v.toInt = 64 ∨ v.toInt = 65 ∨ v.toInt = 66 ∨ v.toInt = 67 ∨ v.toInt = 68 ∨ v.toInt = 69 ∨ v.toInt = 70 ∨ v.toInt = 71 := by have := h.1; have := h.2; omega
  rcases q with q | q | q | q | q | q | q | q | q | q | q | q | q | q | q | q | q | q | q | q | q | q | q | q | q | q | q | q | q | q | q | q | q | q | q | q | q | q | q | q | q | q | q | q | q | q | q | q | q | q | q | q | q | q | q | q | q | q | q | q | q | q | q | q | q | q | q | q | q | q | q | q
  · exact Or.inl (mm_eq (q.trans (by decide)))
  · exact Or.inr (Or.inl (mm_eq (q.trans (by decide))))
  · exact Or.inr (Or.inr (Or.inl (mm_eq (q.trans (by decide)))))
  · exact Or.inr (Or.inr (Or.inr (Or.inl (mm_eq (q.trans (by decide))))))
  · exact Or.inr (Or.inr (Or.inr (Or.inr (Or.inl (mm_eq (q.trans (by decide)))))))
  · exact Or.inr (Or.inr (Or.inr (Or.inr (Or.inr (Or.inl (mm_eq (q.trans (by decide))))))))
  · exact Or.inr (Or.inr (Or.inr (Or.inr (Or.inr (Or.inr (Or.inl (mm_eq (q.trans (by decide)))))))))
  · exact Or.inr (Or.inr (Or.inr (Or.inr (Or.inr (Or.inr (Or.inr (Or.inl (mm_eq (q.trans (by decide))))))))))
  · exact Or.inr (Or.inr (Or.inr (Or.inr (Or.inr (Or.inr (Or.inr (Or.inr (Or.inl (mm_eq (q.trans (by decide)))))))))))
  · exact Or.inr (Or.inr (Or.inr (Or.inr (Or.inr (Or.inr (Or.inr (Or.inr (Or.inr (Or.inl (mm_eq (q.trans (by decide))))))))))))
  · exact Or.inr (Or.inr (Or.inr (Or.inr (Or.inr (Or.inr (Or.inr (Or.inr (Or.inr (Or.inr (Or.inl (mm_eq (q.trans (by decide)))))))))))))
  · exact Or.inr (Or.inr (Or.inr (Or.inr (Or.inr (Or.inr (Or.inr (Or.inr (Or.inr (Or.inr (Or.inr (Or.inl (mm_eq (q.trans (by decide))))))))))))))
  · exact Or.inr (Or.inr (Or.inr (Or.inr (Or.inr (Or.inr (Or.inr (Or.inr (Or.inr (Or.inr (Or.inr (Or.inr (Or.inl (mm_eq (q.trans (by decide)))))))))))))))
  · exact Or.inr (Or.inr (Or.inr (Or.inr (Or.inr (Or.inr (Or.inr (Or.inr (Or.inr (Or.inr (Or.inr (Or.inr (Or.inr (Or.inl (mm_eq (q.trans (by decide))))))))))))))))
  · exact Or.inr (Or.inr (Or.inr (Or.inr (Or.inr (Or.inr (Or.inr (Or.inr (Or.inr (Or.inr (Or.inr (Or.inr (Or.inr (Or.inr (Or.inl (mm_eq (q.trans (by decide)))))))))))))))))
  · exact Or.inr (Or.inr (Or.inr (Or.inr (Or.inr (Or.inr (Or.inr (Or.inr (Or.inr (Or.inr (Or.inr (Or.inr (Or.inr (Or.inr (Or.inr (Or.inl (mm_eq (q.trans (by decide))))))))))))))))))
  · exact Or.inr (Or.inr (Or.inr (Or.inr (Or.inr (Or.inr (Or.inr (Or.inr (Or.inr (Or.inr (Or.inr (Or.inr (Or.inr (Or.inr (Or.inr (Or.inr (Or.inl (mm_eq (q.trans (by decide)))))))))))))))))))
  · exact Or.inr (Or.inr (Or.inr (Or.inr (Or.inr (Or.inr (Or.inr (Or.inr (Or.inr (Or.inr (Or.inr (Or.inr (Or.inr (Or.inr (Or.inr (Or.inr (Or.inr (Or.inl (mm_eq (q.trans (by decide))))))))))))))))))))
  · exact Or.inr (Or.inr (Or.inr (Or.inr (Or.inr (Or.inr (Or.inr (Or.inr (Or.inr (Or.inr (Or.inr (Or.inr (Or.inr (Or.inr (Or.inr (Or.inr (Or.inr (Or.inr (Or.inl (mm_eq (q.trans (by decide)))))))))))))))))))))
  · exact Or.inr (Or.inr (Or.inr (Or.inr (Or.inr (Or.inr (Or.inr (Or.inr (Or.inr (Or.inr (Or.inr (Or.inr (Or.inr (Or.inr (Or.inr (Or.inr (Or.inr (Or.inr (Or.inr (Or.inl (mm_eq (q.trans (by decide))))))))))))))))))))))
  · exact Or.inr (Or.inr (Or.inr (Or.inr (Or.inr (Or.inr (Or.inr (Or.inr (Or.inr (Or.inr (Or.inr (Or.inr (Or.inr (Or.inr (Or.inr (Or.inr (Or.inr (Or.inr (Or.inr (Or.inr (Or.inl (mm_eq (q.trans (by decide)))))))))))))))))))))))
  · exact Or.inr (Or.inr (Or.inr (Or.inr (Or.inr (Or.inr (Or.inr (Or.inr (Or.inr (Or.inr (Or.inr (Or.inr (Or.inr (Or.inr (Or.inr (Or.inr (Or.inr (Or.inr (Or.inr (Or.inr (Or.inr (Or.inl (mm_eq (q.trans (by decide))))))))))))))))))))))))
  · exact Or.inr (Or.inr (Or.inr (Or.inr (Or.inr (Or.inr (Or.inr (Or.inr (Or.inr (Or.inr (Or.inr (Or.inr (Or.inr (Or.inr (Or.inr (Or.inr (Or.inr (Or.inr (Or.inr (Or.inr (Or.inr (Or.inr (Or.inl (mm_eq (q.trans (by decide)))))))))))))))))))))))))
  · exact Or.inr (Or.inr (Or.inr (Or.inr (Or.inr (Or.inr (Or.inr (Or.inr (Or.inr (Or.inr (Or.inr (Or.inr (Or.inr (Or.inr (Or.inr (Or.inr (Or.inr (Or.inr (Or.inr (Or.inr (Or.inr (Or.inr (Or.inr (Or.inl (mm_eq (q.trans (by decide))))))))))))))))))))))))))
  · exact Or.inr (Or.inr (Or.inr (Or.inr (Or.inr (Or.inr (Or.inr (Or.inr (Or.inr (Or.inr (Or.inr (Or.inr (Or.inr (Or.inr (Or.inr (Or.inr (Or.inr (Or.inr (Or.inr (Or.inr (Or.inr (Or.inr (Or.inr (Or.inr (Or.inl (mm_eq (q.trans (by decide)))))))))))))))))))))))))))
  · exact Or.inr (Or.inr (Or.inr (Or.inr (Or.inr (Or.inr (Or.inr (Or.inr (Or.inr (Or.inr (Or.inr (Or.inr (Or.inr (Or.inr (Or.inr (Or.inr (Or.inr (Or.inr (Or.inr (Or.inr (Or.inr (Or.inr (Or.inr (Or.inr (Or.inr (Or.inl (mm_eq (q.trans (by decide))))))))))))))))))))))))))))
  · exact Or.inr (Or.inr (Or.inr (Or.inr (Or.inr (Or.inr (Or.inr (Or.inr (Or.inr (Or.inr (Or.inr (Or.inr (Or.inr (Or.inr (Or.inr (Or.inr (Or.inr (Or.inr (Or.inr (Or.inr (Or.inr (Or.inr (Or.inr (Or.inr (Or.inr (Or.inr (Or.inl (mm_eq (q.trans (by decide)))))))))))))))))))))))))))))
  · exact Or.inr (Or.inr (Or.inr (Or.inr (Or.inr (Or.inr (Or.inr (Or.inr (Or.inr (Or.inr (Or.inr (Or.inr (Or.inr (Or.inr (Or.inr (Or.inr (Or.inr (Or.inr (Or.inr (Or.inr (Or.inr (Or.inr (Or.inr (Or.inr (Or.inr (Or.inr (Or.inr (Or.inl (mm_eq (q.trans (by decide))))))))))))))))))))))))))))))
  · exact Or.inr (Or.inr (Or.inr (Or.inr (Or.inr (Or.inr (Or.inr (Or.inr (Or.inr (Or.inr (Or.inr (Or.inr (Or.inr (Or.inr (Or.inr (Or.inr (Or.inr (Or.inr (Or.inr (Or.inr (Or.inr (Or.inr (Or.inr (Or.inr (Or.inr (Or.inr (Or.inr (Or.inr (Or.inl (mm_eq (q.trans (by decide)))))))))))))))))))))))))))))))
  · exact Or.inr (Or.inr (Or.inr (Or.inr (Or.inr (Or.inr (Or.inr (Or.inr (Or.inr (Or.inr (Or.inr (Or.inr (Or.inr (Or.inr (Or.inr (Or.inr (Or.inr (Or.inr (Or.inr (Or.inr (Or.inr (Or.inr (Or.inr (Or.inr (Or.inr (Or.inr (Or.inr (Or.inr (Or.inr (Or.inl (mm_eq (q.trans (by decide))))))))))))))))))))))))))))))))
  · exact Or.inr (Or.inr (Or.inr (Or.inr (Or.inr (Or.inr (Or.inr (Or.inr (Or.inr (Or.inr (Or.inr (Or.inr (Or.inr (Or.inr (Or.inr (Or.inr (Or.inr (Or.inr (Or.inr (Or.inr (Or.inr (Or.inr (Or.inr (Or.inr (Or.inr (Or.inr (Or.inr (Or.inr (Or.inr (Or.inr (Or.inl (mm_eq (q.trans (by decide)))))))))))))))))))))))))))))))))
  · exact Or.inr (Or.inr (Or.inr (Or.inr (Or.inr (Or.inr (Or.inr (Or.inr (Or.inr (Or.inr (Or.inr (Or.inr (Or.inr (Or.inr (Or.inr (Or.inr (Or.inr (Or.inr (Or.inr (Or.inr (Or.inr (Or.inr (Or.inr (Or.inr (Or.inr (Or.inr (Or.inr (Or.inr (Or.inr (Or.inr (Or.inr (Or.inl (mm_eq (q.trans (by decide))))))))))))))))))))))))))))))))))
  · exact Or.inr (Or.inr (Or.inr (Or.inr (Or.inr (Or.inr (Or.inr (Or.inr (Or.inr (Or.inr (Or.inr (Or.inr (Or.inr (Or.inr (Or.inr (Or.inr (Or.inr (Or.inr (Or.inr (Or.inr (Or.inr (Or.inr (Or.inr (Or.inr (Or.inr (Or.inr (Or.inr (Or.inr (Or.inr (Or.inr (Or.inr (Or.inr (Or.inl (mm_eq (q.trans (by decide)))))))))))))))))))))))))))))))))))
  · exact Or.inr (Or.inr (Or.inr (Or.inr (Or.inr (Or.inr (Or.inr (Or.inr (Or.inr (Or.inr (Or.inr (Or.inr (Or.inr (Or.inr (Or.inr (Or.inr (Or.inr (Or.inr (Or.inr (Or.inr (Or.inr (Or.inr (Or.inr (Or.inr (Or.inr (Or.inr (Or.inr (Or.inr (Or.inr (Or.inr (Or.inr (Or.inr (Or.inr (Or.inl (mm_eq (q.trans (by decide))))))))))))))))))))))))))))))))))))
  · exact Or.inr (Or.inr (Or.inr (Or.inr (Or.inr (Or.inr (Or.inr (Or.inr (Or.inr (Or.inr (Or.inr (Or.inr (Or.inr (Or.inr (Or.inr (Or.inr (Or.inr (Or.inr (Or.inr (Or.inr (Or.inr (Or.inr (Or.inr (Or.inr (Or.inr (Or.inr (Or.inr (Or.inr (Or.inr (Or.inr (Or.inr (Or.inr (Or.inr (Or.inr (Or.inl (mm_eq (q.trans (by decide)))))))))))))))))))))))))))))))))))))
  · exact Or.inr (Or.inr (Or.inr (Or.inr (Or.inr (Or.inr (Or.inr (Or.inr (Or.inr (Or.inr (Or.inr (Or.inr (Or.inr (Or.inr (Or.inr (Or.inr (Or.inr (Or.inr (Or.inr (Or.inr (Or.inr (Or.inr (Or.inr (Or.inr (Or.inr (Or.inr (Or.inr (Or.inr (Or.inr (Or.inr (Or.inr (Or.inr (Or.inr (Or.inr (Or.inr (Or.inl (mm_eq (q.trans (by decide))))))))))))))))))))))))))))))))))))))
  · exact Or.inr (Or.inr (Or.inr (Or.inr (Or.inr (Or.inr (Or.inr (Or.inr (Or.inr (Or.inr (Or.inr (Or.inr (Or.inr (Or.inr (Or.inr (Or.inr (Or.inr (Or.inr (Or.inr (Or.inr (Or.inr (Or.inr (Or.inr (Or.inr (Or.inr (Or.inr (Or.inr (Or.inr (Or.inr (Or.inr (Or.inr (Or.inr (Or.inr (Or.inr (Or.inr (Or.inr (Or.inl (mm_eq (q.trans (by decide)))))))))))))))))))))))))))))))))))))))
  · exact Or.inr (Or.inr (Or.inr (Or.inr (Or.inr (Or.inr (Or.inr (Or.inr (Or.inr (Or.inr (Or.inr (Or.inr (Or.inr (Or.inr (Or.inr (Or.inr (Or.inr (Or.inr (Or.inr (Or.inr (Or.inr (Or.inr (Or.inr (Or.inr (Or.inr (Or.inr (Or.inr (Or.inr (Or.inr (Or.inr (Or.inr (Or.inr (Or.inr (Or.inr (Or.inr (Or.inr (Or.inr (Or.inl (mm_eq (q.trans (by decide))))))))))))))))))))))))))))))))))))))))
  · exact Or.inr (Or.inr (Or.inr (Or.inr (Or.inr (Or.inr (Or.inr (Or.inr (Or.inr (Or.inr (Or.inr (Or.inr (Or.inr (Or.inr (Or.inr (Or.inr (Or.inr (Or.inr (Or.inr (Or.inr (Or.inr (Or.inr (Or.inr (Or.inr (Or.inr (Or.inr (Or.inr (Or.inr (Or.inr (Or.inr (Or.inr (Or.inr (Or.inr (Or.inr (Or.inr (Or.inr (Or.inr (Or.inr (Or.inl (mm_eq (q.trans (by decide)))))))))))))))))))))))))))))))))))))))))
  · exact Or.inr (Or.inr (Or.inr (Or.inr (Or.inr (Or.inr (Or.inr (Or.inr (Or.inr (Or.inr (Or.inr (Or.inr (Or.inr (Or.inr (Or.inr (Or.inr (Or.inr (Or.inr (Or.inr (Or.inr (Or.inr (Or.inr (Or.inr (Or.inr (Or.inr (Or.inr (Or.inr (Or.inr (Or.inr (Or.inr (Or.inr (Or.inr (Or.inr (Or.inr (Or.inr (Or.inr (Or.inr (Or.inr (Or.inr (Or.inl (mm_eq (q.trans (by decide))))))))))))))))))))))))))))))))))))))))))
  · exact Or.inr (Or.inr (Or.inr (Or.inr (Or.inr (Or.inr (Or.inr (Or.inr (Or.inr (Or.inr (Or.inr (Or.inr (Or.inr (Or.inr (Or.inr (Or.inr (Or.inr (Or.inr (Or.inr (Or.inr (Or.inr (Or.inr (Or.inr (Or.inr (Or.inr (Or.inr (Or.inr (Or.inr (Or.inr (Or.inr (Or.inr (Or.inr (Or.inr (Or.inr (Or.inr (Or.inr (Or.inr (Or.inr (Or.inr (Or.inr (Or.inl (mm_eq (q.trans (by decide)))))))))))))))))))))))))))))))))))))))))))
  · exact Or.inr (Or.inr (Or.inr (Or.inr (Or.inr (Or.inr (Or.inr (Or.inr (Or.inr (Or.inr (Or.inr (Or.inr (Or.inr (Or.inr (Or.inr (Or.inr (Or.inr (Or.inr (Or.inr (Or.inr (Or.inr (Or.inr (Or.inr (Or.inr (Or.inr (Or.inr (Or.inr (Or.inr (Or.inr (Or.inr (Or.inr (Or.inr (Or.inr (Or.inr (Or.inr (Or.inr (Or.inr (Or.inr (Or.inr (Or.inr (Or.inr (Or.inl (mm_eq (q.trans (by decide))))))))))))))))))))))))))))))))))))))))))))
  · exact Or.inr (Or.inr (Or.inr (Or.inr (Or.inr (Or.inr (Or.inr (Or.inr (Or.inr (Or.inr (Or.inr (Or.inr (Or.inr (Or.inr (Or.inr (Or.inr (Or.inr (Or.inr (Or.inr (Or.inr (Or.inr (Or.inr (Or.inr (Or.inr (Or.inr (Or.inr (Or.inr (Or.inr (Or.inr (Or.inr (Or.inr (Or.inr (Or.inr (Or.inr (Or.inr (Or.inr (Or.inr (Or.inr (Or.inr (Or.inr (Or.inr (Or.inr (Or.inl (mm_eq (q.trans (by decide)))))))))))))))))))))))))))))))))))))))))))))
  · exact Or.inr (Or.inr (Or.inr (Or.inr (Or.inr (Or.inr (Or.inr (Or.inr (Or.inr (Or.inr (Or.inr (Or.inr (Or.inr (Or.inr (Or.inr (Or.inr (Or.inr (Or.inr (Or.inr (Or.inr (Or.inr (Or.inr (Or.inr (Or.inr (Or.inr (Or.inr (Or.inr (Or.inr (Or.inr (Or.inr (Or.inr (Or.inr (Or.inr (Or.inr (Or.inr (Or.inr (Or.inr (Or.inr (Or.inr (Or.inr (Or.inr (Or.inr (Or.inr (Or.inl (mm_eq (q.trans (by decide))))))))))))))))))))))))))))))))))))))))))))))
  · exact Or.inr (Or.inr (Or.inr (Or.inr (Or.inr (Or.inr (Or.inr (Or.inr (Or.inr (Or.inr (Or.inr (Or.inr (Or.inr (Or.inr (Or.inr (Or.inr (Or.inr (Or.inr (Or.inr (Or.inr (Or.inr (Or.inr (Or.inr (Or.inr (Or.inr (Or.inr (Or.inr (Or.inr (Or.inr (Or.inr (Or.inr (Or.inr (Or.inr (Or.inr (Or.inr (Or.inr (Or.inr (Or.inr (Or.inr (Or.inr (Or.inr (Or.inr (Or.inr (Or.inr (Or.inl (mm_eq (q.trans (by decide)))))))))))))))))))))))))))))))))))))))))))))))
  · exact Or.inr (Or.inr (Or.inr (Or.inr (Or.inr (Or.inr (Or.inr (Or.inr (Or.inr (Or.inr (Or.inr (Or.inr (Or.inr (Or.inr (Or.inr (Or.inr (Or.inr (Or.inr (Or.inr (Or.inr (Or.inr (Or.inr (Or.inr (Or.inr (Or.inr (Or.inr (Or.inr (Or.inr (Or.inr (Or.inr (Or.inr (Or.inr (Or.inr (Or.inr (Or.inr (Or.inr (Or.inr (Or.inr (Or.inr (Or.inr (Or.inr (Or.inr (Or.inr (Or.inr (Or.inr (Or.inl (mm_eq (q.trans (by decide))))))))))))))))))))))))))))))))))))))))))))))))
  · exact Or.inr (Or.inr (Or.inr (Or.inr (Or.inr (Or.inr (Or.inr (Or.inr (Or.inr (Or.inr (Or.inr (Or.inr (Or.inr (Or.inr (Or.inr (Or.inr (Or.inr (Or.inr (Or.inr (Or.inr (Or.inr (Or.inr (Or.inr (Or.inr (Or.inr (Or.inr (Or.inr (Or.inr (Or.inr (Or.inr (Or.inr (Or.inr (Or.inr (Or.inr (Or.inr (Or.inr (Or.inr (Or.inr (Or.inr (Or.inr (Or.inr (Or.inr (Or.inr (Or.inr (Or.inr (Or.inr (Or.inl (mm_eq (q.trans (by decide)))))))))))))))))))))))))))))))))))))))))))))))))
  · exact Or.inr (Or.inr (Or.inr (Or.inr (Or.inr (Or.inr (Or.inr (Or.inr (Or.inr (Or.inr (Or.inr (Or.inr (Or.inr (Or.inr (Or.inr (Or.inr (Or.inr (Or.inr (Or.inr (Or.inr (Or.inr (Or.inr (Or.inr (Or.inr (Or.inr (Or.inr (Or.inr (Or.inr (Or.inr (Or.inr (Or.inr (Or.inr (Or.inr (Or.inr (Or.inr (Or.inr (Or.inr (Or.inr (Or.inr (Or.inr (Or.inr (Or.inr (Or.inr (Or.inr (Or.inr (Or.inr (Or.inr (Or.inl (mm_eq (q.trans (by decide))))))))))))))))))))))))))))))))))))))))))))))))))
  · exact Or.inr (Or.inr (Or.inr (Or.inr (Or.inr (Or.inr (Or.inr (Or.inr (Or.inr (Or.inr (Or.inr (Or.inr (Or.inr (Or.inr (Or.inr (Or.inr (Or.inr (Or.inr (Or.inr (Or.inr (Or.inr (Or.inr (Or.inr (Or.inr (Or.inr (Or.inr (Or.inr (Or.inr (Or.inr (Or.inr (Or.inr (Or.inr (Or.inr (Or.inr (Or.inr (Or.inr (Or.inr (Or.inr (Or.inr (Or.inr (Or.inr (Or.inr (Or.inr (Or.inr (Or.inr (Or.inr (Or.inr (Or.inr (Or.inl (mm_eq (q.trans (by decide)))))))))))))))))))))))))))))))))))))))))))))))))))
  · exact Or.inr (Or.inr (Or.inr (Or.inr (Or.inr (Or.inr (Or.inr (Or.inr (Or.inr (Or.inr (Or.inr (Or.inr (Or.inr (Or.inr (Or.inr (Or.inr (Or.inr (Or.inr (Or.inr (Or.inr (Or.inr (Or.inr (Or.inr (Or.inr (Or.inr (Or.inr (Or.inr (Or.inr (Or.inr (Or.inr (Or.inr (Or.inr (Or.inr (Or.inr (Or.inr (Or.inr (Or.inr (Or.inr (Or.inr (Or.inr (Or.inr (Or.inr (Or.inr (Or.inr (Or.inr (Or.inr (Or.inr (Or.inr (Or.inr (Or.inl (mm_eq (q.trans (by decide))))))))))))))))))))))))))))))))))))))))))))))))))))
  · exact Or.inr (Or.inr (Or.inr (Or.inr (Or.inr (Or.inr (Or.inr (Or.inr (Or.inr (Or.inr (Or.inr (Or.inr (Or.inr (Or.inr (Or.inr (Or.inr (Or.inr (Or.inr (Or.inr (Or.inr (Or.inr (Or.inr (Or.inr (Or.inr (Or.inr (Or.inr (Or.inr (Or.inr (Or.inr (Or.inr (Or.inr (Or.inr (Or.inr (Or.inr (Or.inr (Or.inr (Or.inr (Or.inr (Or.inr (Or.inr (Or.inr (Or.inr (Or.inr (Or.inr (Or.inr (Or.inr (Or.inr (Or.inr (Or.inr (Or.inr (Or.inl (mm_eq (q.trans (by decide)))))))))))))))))))))))))))))))))))))))))))))))))))))
  · exact Or.inr (Or.inr (Or.inr (Or.inr (Or.inr (Or.inr (Or.inr (Or.inr (Or.inr (Or.inr (Or.inr (Or.inr (Or.inr (Or.inr (Or.inr (Or.inr (Or.inr (Or.inr (Or.inr (Or.inr (Or.inr (Or.inr (Or.inr (Or.inr (Or.inr (Or.inr (Or.inr (Or.inr (Or.inr (Or.inr (Or.inr (Or.inr (Or.inr (Or.inr (Or.inr (Or.inr (Or.inr (Or.inr (Or.inr (Or.inr (Or.inr (Or.inr (Or.inr (Or.inr (Or.inr (Or.inr (Or.inr (Or.inr (Or.inr (Or.inr (Or.inr (Or.inl (mm_eq (q.trans (by decide))))))))))))))))))))))))))))))))))))))))))))))))))))))
  · exact Or.inr (Or.inr (Or.inr (Or.inr (Or.inr (Or.inr (Or.inr (Or.inr (Or.inr (Or.inr (Or.inr (Or.inr (Or.inr (Or.inr (Or.inr (Or.inr (Or.inr (Or.inr (Or.inr (Or.inr (Or.inr (Or.inr (Or.inr (Or.inr (Or.inr (Or.inr (Or.inr (Or.inr (Or.inr (Or.inr (Or.inr (Or.inr (Or.inr (Or.inr (Or.inr (Or.inr (Or.inr (Or.inr (Or.inr (Or.inr (Or.inr (Or.inr (Or.inr (Or.inr (Or.inr (Or.inr (Or.inr (Or.inr (Or.inr (Or.inr (Or.inr (Or.inr (Or.inl (mm_eq (q.trans (by decide)))))))))))))))))))))))))))))))))))))))))))))))))))))))
  · exact Or.inr (Or.inr (Or.inr (Or.inr (Or.inr (Or.inr (Or.inr (Or.inr (Or.inr (Or.inr (Or.inr (Or.inr (Or.inr (Or.inr (Or.inr (Or.inr (Or.inr (Or.inr (Or.inr (Or.inr (Or.inr (Or.inr (Or.inr (Or.inr (Or.inr (Or.inr (Or.inr (Or.inr (Or.inr (Or.inr (Or.inr (Or.inr (Or.inr (Or.inr (Or.inr (Or.inr (Or.inr (Or.inr (Or.inr (Or.inr (Or.inr (Or.inr (Or.inr (Or.inr (Or.inr (Or.inr (Or.inr (Or.inr (Or.inr (Or.inr (Or.inr (Or.inr (Or.inr (Or.inl (mm_eq (q.trans (by decide))))))))))))))))))))))))))))))))))))))))))))))))))))))))
  · exact Or.inr (Or.inr (Or.inr (Or.inr (Or.inr (Or.inr (Or.inr (Or.inr (Or.inr (Or.inr (Or.inr (Or.inr (Or.inr (Or.inr (Or.inr (Or.inr (Or.inr (Or.inr (Or.inr (Or.inr (Or.inr (Or.inr (Or.inr (Or.inr (Or.inr (Or.inr (Or.inr (Or.inr (Or.inr (Or.inr (Or.inr (Or.inr (Or.inr (Or.inr (Or.inr (Or.inr (Or.inr (Or.inr (Or.inr (Or.inr (Or.inr (Or.inr (Or.inr (Or.inr (Or.inr (Or.inr (Or.inr (Or.inr (Or.inr (Or.inr (Or.inr (Or.inr (Or.inr (Or.inr (Or.inl (mm_eq (q.trans (by decide)))))))))))))))))))))))))))))))))))))))))))))))))))))))))
  · exact Or.inr (Or.inr (Or.inr (Or.inr (Or.inr (Or.inr (Or.inr (Or.inr (Or.inr (Or.inr (Or.inr (Or.inr (Or.inr (Or.inr (Or.inr (Or.inr (Or.inr (Or.inr (Or.inr (Or.inr (Or.inr (Or.inr (Or.inr (Or.inr (Or.inr (Or.inr (Or.inr (Or.inr (Or.inr (Or.inr (Or.inr (Or.inr (Or.inr (Or.inr (Or.inr (Or.inr (Or.inr (Or.inr (Or.inr (Or.inr (Or.inr (Or.inr (Or.inr (Or.inr (Or.inr (Or.inr (Or.inr (Or.inr (Or.inr (Or.inr (Or.inr (Or.inr (Or.inr (Or.inr (Or.inr (Or.inl (mm_eq (q.trans (by decide))))))))))))))))))))))))))))))))))))))))))))))))))))))))))
  · exact Or.inr (Or.inr (Or.inr (Or.inr (Or.inr (Or.inr (Or.inr (Or.inr (Or.inr (Or.inr (Or.inr (Or.inr (Or.inr (Or.inr (Or.inr (Or.inr (Or.inr (Or.inr (Or.inr (Or.inr (Or.inr (Or.inr (Or.inr (Or.inr (Or.inr (Or.inr (Or.inr (Or.inr (Or.inr (Or.inr (Or.inr (Or.inr (Or.inr (Or.inr (Or.inr (Or.inr (Or.inr (Or.inr (Or.inr (Or.inr (Or.inr (Or.inr (Or.inr (Or.inr (Or.inr (Or.inr (Or.inr (Or.inr (Or.inr (Or.inr (Or.inr (Or.inr (Or.inr (Or.inr (Or.inr (Or.inr (Or.inl (mm_eq (q.trans (by decide)))))))))))))))))))))))))))))))))))))))))))))))))))))))))))
  · exact Or.inr (Or.inr (Or.inr (Or.inr (Or.inr (Or.inr (Or.inr (Or.inr (Or.inr (Or.inr (Or.inr (Or.inr (Or.inr (Or.inr (Or.inr (Or.inr (Or.inr (Or.inr (Or.inr (Or.inr (Or.inr (Or.inr (Or.inr (Or.inr (Or.inr (Or.inr (Or.inr (Or.inr (Or.inr (Or.inr (Or.inr (Or.inr (Or.inr (Or.inr (Or.inr (Or.inr (Or.inr (Or.inr (Or.inr (Or.inr (Or.inr (Or.inr (Or.inr (Or.inr (Or.inr (Or.inr (Or.inr (Or.inr (Or.inr (Or.inr (Or.inr (Or.inr (Or.inr (Or.inr (Or.inr (Or.inr (Or.inr (Or.inl (mm_eq (q.trans (by decide))))))))))))))))))))))))))))))))))))))))))))))))))))))))))))
  · exact Or.inr (Or.inr (Or.inr (Or.inr (Or.inr (Or.inr (Or.inr (Or.inr (Or.inr (Or.inr (Or.inr (Or.inr (Or.inr (Or.inr (Or.inr (Or.inr (Or.inr (Or.inr (Or.inr (Or.inr (Or.inr (Or.inr (Or.inr (Or.inr (Or.inr (Or.inr (Or.inr (Or.inr (Or.inr (Or.inr (Or.inr (Or.inr (Or.inr (Or.inr (Or.inr (Or.inr (Or.inr (Or.inr (Or.inr (Or.inr (Or.inr (Or.inr (Or.inr (Or.inr (Or.inr (Or.inr (Or.inr (Or.inr (Or.inr (Or.inr (Or.inr (Or.inr (Or.inr (Or.inr (Or.inr (Or.inr (Or.inr (Or.inr (Or.inl (mm_eq (q.trans (by decide)))))))))))))))))))))))))))))))))))))))))))))))))))))))))))))
  · exact Or.inr (Or.inr (Or.inr (Or.inr (Or.inr (Or.inr (Or.inr (Or.inr (Or.inr (Or.inr (Or.inr (Or.inr (Or.inr (Or.inr (Or.inr (Or.inr (Or.inr (Or.inr (Or.inr (Or.inr (Or.inr (Or.inr (Or.inr (Or.inr (Or.inr (Or.inr (Or.inr (Or.inr (Or.inr (Or.inr (Or.inr (Or.inr (Or.inr (Or.inr (Or.inr (Or.inr (Or.inr (Or.inr (Or.inr (Or.inr (Or.inr (Or.inr (Or.inr (Or.inr (Or.inr (Or.inr (Or.inr (Or.inr (Or.inr (Or.inr (Or.inr (Or.inr (Or.inr (Or.inr (Or.inr (Or.inr (Or.inr (Or.inr (Or.inr (Or.inl (mm_eq (q.trans (by decide))))))))))))))))))))))))))))))))))))))))))))))))))))))))))))))
  · exact Or.inr (Or.inr (Or.inr (Or.inr (Or.inr (Or.inr (Or.inr (Or.inr (Or.inr (Or.inr (Or.inr (Or.inr (Or.inr (Or.inr (Or.inr (Or.inr (Or.inr (Or.inr (Or.inr (Or.inr (Or.inr (Or.inr (Or.inr (Or.inr (Or.inr (Or.inr (Or.inr (Or.inr (Or.inr (Or.inr (Or.inr (Or.inr (Or.inr (Or.inr (Or.inr (Or.inr (Or.inr (Or.inr (Or.inr (Or.inr (Or.inr (Or.inr (Or.inr (Or.inr (Or.inr (Or.inr (Or.inr (Or.inr (Or.inr (Or.inr (Or.inr (Or.inr (Or.inr (Or.inr (Or.inr (Or.inr (Or.inr (Or.inr (Or.inr (Or.inr (Or.inl (mm_eq (q.trans (by decide)))))))))))))))))))))))))))))))))))))))))))))))))))))))))))))))
  · exact Or.inr (Or.inr (Or.inr (Or.inr (Or.inr (Or.inr (Or.inr (Or.inr (Or.inr (Or.inr (Or.inr (Or.inr (Or.inr (Or.inr (Or.inr (Or.inr (Or.inr (Or.inr (Or.inr (Or.inr (Or.inr (Or.inr (Or.inr (Or.inr (Or.inr (Or.inr (Or.inr (Or.inr (Or.inr (Or.inr (Or.inr (Or.inr (Or.inr (Or.inr (Or.inr (Or.inr (Or.inr (Or.inr (Or.inr (Or.inr (Or.inr (Or.inr (Or.inr (Or.inr (Or.inr (Or.inr (Or.inr (Or.inr (Or.inr (Or.inr (Or.inr (Or.inr (Or.inr (Or.inr (Or.inr (Or.inr (Or.inr (Or.inr (Or.inr (Or.inr (Or.inr (Or.inl (mm_eq (q.trans (by decide))))))))))))))))))))))))))))))))))))))))))))))))))))))))))))))))
  · exact Or.inr (Or.inr (Or.inr (Or.inr (Or.inr (Or.inr (Or.inr (Or.inr (Or.inr (Or.inr (Or.inr (Or.inr (Or.inr (Or.inr (Or.inr (Or.inr (Or.inr (Or.inr (Or.inr (Or.inr (Or.inr (Or.inr (Or.inr (Or.inr (Or.inr (Or.inr (Or.inr (Or.inr (Or.inr (Or.inr (Or.inr (Or.inr (Or.inr (Or.inr (Or.inr (Or.inr (Or.inr (Or.inr (Or.inr (Or.inr (Or.inr (Or.inr (Or.inr (Or.inr (Or.inr (Or.inr (Or.inr (Or.inr (Or.inr (Or.inr (Or.inr (Or.inr (Or.inr (Or.inr (Or.inr (Or.inr (Or.inr (Or.inr (Or.inr (Or.inr (Or.inr (Or.inr (Or.inl (mm_eq (q.trans (by decide)))))))))))))))))))))))))))))))))))))))))))))))))))))))))))))))))
  · exact Or.inr (Or.inr (Or.inr (Or.inr (Or.inr (Or.inr (Or.inr (Or.inr (Or.inr (Or.inr (Or.inr (Or.inr (Or.inr (Or.inr (Or.inr (Or.inr (Or.inr (Or.inr (Or.inr (Or.inr (Or.inr (Or.inr (Or.inr (Or.inr (Or.inr (Or.inr (Or.inr (Or.inr (Or.inr (Or.inr (Or.inr (Or.inr (Or.inr (Or.inr (Or.inr (Or.inr (Or.inr (Or.inr (Or.inr (Or.inr (Or.inr (Or.inr (Or.inr (Or.inr (Or.inr (Or.inr (Or.inr (Or.inr (Or.inr (Or.inr (Or.inr (Or.inr (Or.inr (Or.inr (Or.inr (Or.inr (Or.inr (Or.inr (Or.inr (Or.inr (Or.inr (Or.inr (Or.inr (Or.inl (mm_eq (q.trans (by decide))))))))))))))))))))))))))))))))))))))))))))))))))))))))))))))))))
  · exact Or.inr (Or.inr (Or.inr (Or.inr (Or.inr (Or.inr (Or.inr (Or.inr (Or.inr (Or.inr (Or.inr (Or.inr (Or.inr (Or.inr (Or.inr (Or.inr (Or.inr (Or.inr (Or.inr (Or.inr (Or.inr (Or.inr (Or.inr (Or.inr (Or.inr (Or.inr (Or.inr (Or.inr (Or.inr (Or.inr (Or.inr (Or.inr (Or.inr (Or.inr (Or.inr (Or.inr (Or.inr (Or.inr (Or.inr (Or.inr (Or.inr (Or.inr (Or.inr (Or.inr (Or.inr (Or.inr (Or.inr (Or.inr (Or.inr (Or.inr (Or.inr (Or.inr (Or.inr (Or.inr (Or.inr (Or.inr (Or.inr (Or.inr (Or.inr (Or.inr (Or.inr (Or.inr (Or.inr (Or.inr (Or.inl (mm_eq (q.trans (by decide)))))))))))))))))))))))))))))))))))))))))))))))))))))))))))))))))))
  · exact Or.inr (Or.inr (Or.inr (Or.inr (Or.inr (Or.inr (Or.inr (Or.inr (Or.inr (Or.inr (Or.inr (Or.inr (Or.inr (Or.inr (Or.inr (Or.inr (Or.inr (Or.inr (Or.inr (Or.inr (Or.inr (Or.inr (Or.inr (Or.inr (Or.inr (Or.inr (Or.inr (Or.inr (Or.inr (Or.inr (Or.inr (Or.inr (Or.inr (Or.inr (Or.inr (Or.inr (Or.inr (Or.inr (Or.inr (Or.inr (Or.inr (Or.inr (Or.inr (Or.inr (Or.inr (Or.inr (Or.inr (Or.inr (Or.inr (Or.inr (Or.inr (Or.inr (Or.inr (Or.inr (Or.inr (Or.inr (Or.inr (Or.inr (Or.inr (Or.inr (Or.inr (Or.inr (Or.inr (Or.inr (Or.inr (Or.inl (mm_eq (q.trans (by decide))))))))))))))))))))))))))))))))))))))))))))))))))))))))))))))))))))
  · exact Or.inr (Or.inr (Or.inr (Or.inr (Or.inr (Or.inr (Or.inr (Or.inr (Or.inr (Or.inr (Or.inr (Or.inr (Or.inr (Or.inr (Or.inr (Or.inr (Or.inr (Or.inr (Or.inr (Or.inr (Or.inr (Or.inr (Or.inr (Or.inr (Or.inr (Or.inr (Or.inr (Or.inr (Or.inr (Or.inr (Or.inr (Or.inr (Or.inr (Or.inr (Or.inr (Or.inr (Or.inr (Or.inr (Or.inr (Or.inr (Or.inr (Or.inr (Or.inr (Or.inr (Or.inr (Or.inr (Or.inr (Or.inr (Or.inr (Or.inr (Or.inr (Or.inr (Or.inr (Or.inr (Or.inr (Or.inr (Or.inr (Or.inr (Or.inr (Or.inr (Or.inr (Or.inr (Or.inr (Or.inr (Or.inr (Or.inr (Or.inl (mm_eq (q.trans (by decide)))))))))))))))))))))))))))))))))))))))))))))))))))))))))))))))))))))
  · exact Or.inr (Or.inr (Or.inr (Or.inr (Or.inr (Or.inr (Or.inr (Or.inr (Or.inr (Or.inr (Or.inr (Or.inr (Or.inr (Or.inr (Or.inr (Or.inr (Or.inr (Or.inr (Or.inr (Or.inr (Or.inr (Or.inr (Or.inr (Or.inr (Or.inr (Or.inr (Or.inr (Or.inr (Or.inr (Or.inr (Or.inr (Or.inr (Or.inr (Or.inr (Or.inr (Or.inr (Or.inr (Or.inr (Or.inr (Or.inr (Or.inr (Or.inr (Or.inr (Or.inr (Or.inr (Or.inr (Or.inr (Or.inr (Or.inr (Or.inr (Or.inr (Or.inr (Or.inr (Or.inr (Or.inr (Or.inr (Or.inr (Or.inr (Or.inr (Or.inr (Or.inr (Or.inr (Or.inr (Or.inr (Or.inr (Or.inr (Or.inr (Or.inl (mm_eq (q.trans (by decide))))))))))))))))))))))))))))))))))))))))))))))))))))))))))))))))))))))
  · exact Or.inr (Or.inr (Or.inr (Or.inr (Or.inr (Or.inr (Or.inr (Or.inr (Or.inr (Or.inr (Or.inr (Or.inr (Or.inr (Or.inr (Or.inr (Or.inr (Or.inr (Or.inr (Or.inr (Or.inr (Or.inr (Or.inr (Or.inr (Or.inr (Or.inr (Or.inr (Or.inr (Or.inr (Or.inr (Or.inr (Or.inr (Or.inr (Or.inr (Or.inr (Or.inr (Or.inr (Or.inr (Or.inr (Or.inr (Or.inr (Or.inr (Or.inr (Or.inr (Or.inr (Or.inr (Or.inr (Or.inr (Or.inr (Or.inr (Or.inr (Or.inr (Or.inr (Or.inr (Or.inr (Or.inr (Or.inr (Or.inr (Or.inr (Or.inr (Or.inr (Or.inr (Or.inr (Or.inr (Or.inr (Or.inr (Or.inr (Or.inr (Or.inr (Or.inl (mm_eq (q.trans (by decide)))))))))))))))))))))))))))))))))))))))))))))))))))))))))))))))))))))))
  · exact Or.inr (Or.inr (Or.inr (Or.inr (Or.inr (Or.inr (Or.inr (Or.inr (Or.inr (Or.inr (Or.inr (Or.inr (Or.inr (Or.inr (Or.inr (Or.inr (Or.inr (Or.inr (Or.inr (Or.inr (Or.inr (Or.inr (Or.inr (Or.inr (Or.inr (Or.inr (Or.inr (Or.inr (Or.inr (Or.inr (Or.inr (Or.inr (Or.inr (Or.inr (Or.inr (Or.inr (Or.inr (Or.inr (Or.inr (Or.inr (Or.inr (Or.inr (Or.inr (Or.inr (Or.inr (Or.inr (Or.inr (Or.inr (Or.inr (Or.inr (Or.inr (Or.inr (Or.inr (Or.inr (Or.inr (Or.inr (Or.inr (Or.inr (Or.inr (Or.inr (Or.inr (Or.inr (Or.inr (Or.inr (Or.inr (Or.inr (Or.inr (Or.inr (Or.inr (Or.inl (mm_eq (q.trans (by decide))))))))))))))))))))))))))))))))))))))))))))))))))))))))))))))))))))))))
  · exact Or.inr (Or.inr (Or.inr (Or.inr (Or.inr (Or.inr (Or.inr (Or.inr (Or.inr (Or.inr (Or.inr (Or.inr (Or.inr (Or.inr (Or.inr (Or.inr (Or.inr (Or.inr (Or.inr (Or.inr (Or.inr (Or.inr (Or.inr (Or.inr (Or.inr (Or.inr (Or.inr (Or.inr (Or.inr (Or.inr (Or.inr (Or.inr (Or.inr (Or.inr (Or.inr (Or.inr (Or.inr (Or.inr (Or.inr (Or.inr (Or.inr (Or.inr (Or.inr (Or.inr (Or.inr (Or.inr (Or.inr (Or.inr (Or.inr (Or.inr (Or.inr (Or.inr (Or.inr (Or.inr (Or.inr (Or.inr (Or.inr (Or.inr (Or.inr (Or.inr (Or.inr (Or.inr (Or.inr (Or.inr (Or.inr (Or.inr (Or.inr (Or.inr (Or.inr (Or.inr (Or.inl (mm_eq (q.trans (by decide)))))))))))))))))))))))))))))))))))))))))))))))))))))))))))))))))))))))))
  · exact Or.inr (Or.inr (Or.inr (Or.inr (Or.inr (Or.inr (Or.inr (Or.inr (Or.inr (Or.inr (Or.inr (Or.inr (Or.inr (Or.inr (Or.inr (Or.inr (Or.inr (Or.inr (Or.inr (Or.inr (Or.inr (Or.inr (Or.inr (Or.inr (Or.inr (Or.inr (Or.inr (Or.inr (Or.inr (Or.inr (Or.inr (Or.inr (Or.inr (Or.inr (Or.inr (Or.inr (Or.inr (Or.inr (Or.inr (Or.inr (Or.inr (Or.inr (Or.inr (Or.inr (Or.inr (Or.inr (Or.inr (Or.inr (Or.inr (Or.inr (Or.inr (Or.inr (Or.inr (Or.inr (Or.inr (Or.inr (Or.inr (Or.inr (Or.inr (Or.inr (Or.inr (Or.inr (Or.inr (Or.inr (Or.inr (Or.inr (Or.inr (Or.inr (Or.inr (Or.inr (Or.inr ((mm_eq (q.trans (by decide))))))))))))))))))))))))))))))))))))))))))))))))))))))))))))))))))))))))))
set_option maxHeartbeats 8000000 in
set_option maxRecDepth 100000 in
theorem lw_loop {p : Program} {e : Env} {s : State} {m : MethodId} {below : List Frame} {meth : Method} {c : Code} {b L : Nat} {xs : Nat → Int32} {G : va_G} {cy : Nat → ClassId} {qx qm : Nat} {ux um : Nat → Nat} {A : Nat → Prop} (l : Launch) (hx : p.tables.exec = Jvm.exec) (hb : c.code = code) (hr : meth.sig.returnType = ret) (hlocks : meth.locks = false) (hml : c.maxLocals = 4) (hown : s.vm.findClass R_law = some m.cls) (hts : ∀ w ∈ lw_x :: wsL_law, w.before #[Value.ref b] s = true) (hX : va_X b L xs s s.heap) (hbl : b < s.heap.size) (hAe : A = fun q => s.heap.size ≤ q) (hK : mm_K G cy s) (hZ : mm_Z cy A s s.heap) (hL : L ≤ 384) : ∀ (n : Nat) (i : Int32), mm_rg i 0 384 → ((L : Int) - i.toInt).toNat < n → lw_H p l e s m below meth c b G cy A qx qm ux um i := by
  have hA : ∀ q, s.heap.size ≤ q → A q := by rw [hAe]; exact fun _ h => h
  have hbA : ¬ A b := by rw [hAe]; exact Nat.not_le.mpr hbl
  have hRf : room_1.frames = 2048 := rfl
  have hRl : room_1.locals = 84000 := rfl
  have hRc : room_1.cells = 600000 := rfl
  have hRs : room_1.slots = 7302250 := rfl
  intro n
  induction n with
  | zero => intro i _ hm; exact absurd hm (Nat.not_lt_zero _)
  | succ n ihn =>
    intro i ri hm xv0 xf1 xv2 xv3 xv4 xv5 xv6 xv7 xv8 xv9 xv10 xv11 xv12 xv13 xv14 xv15 xf16 xf17 xf18 xf19 xf20 xf21 xf22 xf23 xf24 xf25 xv26 xv27 xv28 xv29 xv30 xv31 xv32 xv33 xf34 xf35 xf36 xf37 xf38 xf39 xf40 xf41 xf42 xf43 xv44 xv45 xv46 xf47 xf48 xv49 xv50 xv51 xf52 xf53 xv54 xv55 xv56 xf57 xf58 xv59 xv60 xv61 xv62 xv63 xv64 xv65 xv66 xf67 xf68 xf69 xf70 xf71 xf72 xf73 xf74 xf75 xf76 xv77 xv78 xv79 xv80 xv81 xv82 xv83 xv84 xf85 xf86 xf87 xf88 xf89 xf90 xf91 xf92 xf93 xf94 xv95 xv96 xv97 xv98 xv99 xv100 xv101 xv102 xf103 xf104 xf105 xf106 xf107 xf108 xf109 xf110 xf111 xf112 xf113 xv114 xv115 xv116 xf117 xv118 xv119 xv120 xf121 xv122 xv123 xv124 xf125 xv126 xv127 xv128 xf129 xv130 xf131 xv132 xf133 xv134 xv135 xv136 xv137 xf138 xf139 xf140 xf141 xf142 xf143 xf144 mv0 mv1 mv2 mv3 mv4 mv5 ml6 mv7 mv8 mv9 mv10 mv11 mv12 mv13 mv14 mv15 mv16 mv17 mf18 mf19 mf20 mf21 mf22 me23 me24 me25 me26 me27 me28 me29 me30 me31 me32 me33 me34 me35 me36 me37 me38 me39 me40 me41 me42 me43 me44 me45 me46 me47 me48 me49 me50 me51 me52 me53 me54 me55 me56 me57 mf58 mf59 mf60 mf61 mf62 mf63 mf64 mf65 mf66 mf67 mf68 mf69 mf70 hI H locs hP hD hS ls hl
    refine lv_iload_n hx hb dL_law_18 rfl (lv_at hl 0 rfl) ?_
    refine lv_aload_n hx hb dL_law_19 rfl (lv_at hl 3 rfl) ?_
    refine va_slen hx hb hX hbl hbA hS dL_law_20 ?_
    refine lv_topi (fun v1 ev1 => ?_)
    have rv1 : mm_rg v1 0 384 := mm_lenR ev1 hL
    have tlv1 := mm_lenr ev1 hL
    refine lv_bipush (v := 6) hx hb dL_law_21 (by decide) ?_
    refine lv_isub hx hb dL_law_23 ?_
    refine lv_topi (fun v2 ev2 => ?_)
    have rv2 : mm_rg v2 (-6) 378 := mm_sub ev2 rv1 mm_k6 (by decide) (by decide)
    have tv2 := mm_subEc ev2 rv1 mm_k6 (by decide) (k := (-6)) (by decide)
    refine lv_icmp_gt (tgt := 3158) hx hb dL_law_24 (by decide) (fun c3 => ?_) (fun c3 => ?_)
    · refine lv_iconst (v := 1) hx hb dL_law_3158 (by decide) ?_
      refine va_forget (fun q hq => by have := hS.2.2 q hq; rw [hAe] at this; exact this) ?_
      refine W.widen (k := 600000) (n := 7302250) (Nat.le_of_ble_eq_true rfl) (Nat.le_of_ble_eq_true rfl) ?_
      exact lw_ret hx hb hr hlocks dL_law_3159
    · have q4 := mm_leL (mm_nlt c3) ri rv2
      have q5 := mm_leR (mm_nlt c3) ri rv2
      have q6 : mm_rg v1 6 384 := mm_unadd tv2 q5 rv1 (by decide) (by decide)
      have hiL : i.toInt + 6 ≤ (L : Int) := by have := (mm_nlt c3); have := tv2; have := tlv1; omega
      have ih : ∀ i6 : Int32, i6 = i + 6 → lw_H p l e s m below meth c b G cy A qx qm ux um i6 := fun i6 e6 => by
        have t6 := mm_i6 e6 q4 (by decide)
        have h1 := (q4).1
        have h2 := (q4).2
        exact ihn i6 ⟨by omega, by omega⟩ (by omega)
      refine lv_aload_n hx hb dL_law_27 rfl (lv_at hl 3 rfl) ?_
      refine lv_iload_n hx hb dL_law_28 rfl (lv_at hl 0 rfl) ?_
      refine va_sld hx hb hX hbl hbA hS (mm_inL (k := 0) (Int.add_zero _).symm q4 hiL (by decide)) dL_law_29 ?_
      refine lv_topi (fun v7 ev7 => ?_)
      refine lv_bipush (v := 127) hx hb dL_law_30 (by decide) ?_
      refine lv_iand hx hb dL_law_32 ?_
      refine lv_topi (fun v8 ev8 => ?_)
      have rv8 : mm_rg v8 0 127 := mm_andR ev8 mm_k127 (by decide)
      rcases mm_out v8 0 71 with c9 | c9 | c9
      · exact absurd c9 (by have := (rv8).1; omega)
      · refine lv_tableOut (tgt := 3152) hx hb dL_law_33 (Or.inr c9) (by decide) ?_
        obtain ⟨v10, ev10⟩ : ∃ y : Int32, y = i + 6 := ⟨_, rfl⟩
        refine lv_iinc (v := v10) (lv' := [(3, .int v10), (2, .ref qm), (1, .ref qx), (0, .ref b)]) hx hb dL_law_3152 hl (k := 0) rfl (by rw [ev10]; rfl) (by decide) rfl ?_
        clear hl
        clear ls
        intro ls hl
        have rv10 : mm_rg v10 6 384 := mm_add ev10 q4 mm_k6 (by decide) (by decide)
        have tv10 := mm_addEc ev10 q4 mm_k6 (by decide) (k := 6) (by decide)
        refine lv_goto (tgt := 18) hx hb dL_law_3155 (by decide) ?_
        exact ih v10 ev10 xv0 xf1 xv2 xv3 xv4 xv5 xv6 xv7 xv8 xv9 xv10 xv11 xv12 xv13 xv14 xv15 xf16 xf17 xf18 xf19 xf20 xf21 xf22 xf23 xf24 xf25 xv26 xv27 xv28 xv29 xv30 xv31 xv32 xv33 xf34 xf35 xf36 xf37 xf38 xf39 xf40 xf41 xf42 xf43 xv44 xv45 xv46 xf47 xf48 xv49 xv50 xv51 xf52 xf53 xv54 xv55 xv56 xf57 xf58 xv59 xv60 xv61 xv62 xv63 xv64 xv65 xv66 xf67 xf68 xf69 xf70 xf71 xf72 xf73 xf74 xf75 xf76 xv77 xv78 xv79 xv80 xv81 xv82 xv83 xv84 xf85 xf86 xf87 xf88 xf89 xf90 xf91 xf92 xf93 xf94 xv95 xv96 xv97 xv98 xv99 xv100 xv101 xv102 xf103 xf104 xf105 xf106 xf107 xf108 xf109 xf110 xf111 xf112 xf113 xv114 xv115 xv116 xf117 xv118 xv119 xv120 xf121 xv122 xv123 xv124 xf125 xv126 xv127 xv128 xf129 xv130 xf131 xv132 xf133 xv134 xv135 xv136 xv137 xf138 xf139 xf140 xf141 xf142 xf143 xf144 mv0 mv1 mv2 mv3 mv4 mv5 ml6 mv7 mv8 mv9 mv10 mv11 mv12 mv13 mv14 mv15 mv16 mv17 mf18 mf19 mf20 mf21 mf22 me23 me24 me25 me26 me27 me28 me29 me30 me31 me32 me33 me34 me35 me36 me37 me38 me39 me40 me41 me42 me43 me44 me45 me46 me47 me48 me49 me50 me51 me52 me53 me54 me55 me56 me57 mf58 mf59 mf60 mf61 mf62 mf63 mf64 mf65 mf66 mf67 mf68 mf69 mf70 hI H locs hP hD hS ls (lv_sub hl [0, 1, 2, 3] rfl)
      · rcases mm_cases72 c9 with rfl | rfl | rfl | rfl | rfl | rfl | rfl | rfl | rfl | rfl | rfl | rfl | rfl | rfl | rfl | rfl | rfl | rfl | rfl | rfl | rfl | rfl | rfl | rfl | rfl | rfl | rfl | rfl | rfl | rfl | rfl | rfl | rfl | rfl | rfl | rfl | rfl | rfl | rfl | rfl | rfl | rfl | rfl | rfl | rfl | rfl | rfl | rfl | rfl | rfl | rfl | rfl | rfl | rfl | rfl | rfl | rfl | rfl | rfl | rfl | rfl | rfl | rfl | rfl | rfl | rfl | rfl | rfl | rfl | rfl | rfl | rfl
        · refine lv_tableIn (tgt := 336) hx hb dL_law_33 (by decide) (by decide) rfl (by decide) ?_
          exact lc_0 l hx hb hr hlocks hml hown hts hX hbl hAe hK hZ hS q4 hiL ih hI hP hD (lv_sub hl [0, 1, 2, 3] rfl)
        · refine lv_tableIn (tgt := 399) hx hb dL_law_33 (by decide) (by decide) rfl (by decide) ?_
          exact lc_1 l hx hb hr hlocks hml hown hts hX hbl hAe hK hZ hS q4 hiL ih hI hP hD (lv_sub hl [0, 1, 2, 3] rfl)
        · refine lv_tableIn (tgt := 422) hx hb dL_law_33 (by decide) (by decide) rfl (by decide) ?_
          exact lc_2 l hx hb hr hlocks hml hown hts hX hbl hAe hK hZ hS q4 hiL ih hI hP hD (lv_sub hl [0, 1, 2, 3] rfl)
        · refine lv_tableIn (tgt := 435) hx hb dL_law_33 (by decide) (by decide) rfl (by decide) ?_
          exact lc_3 l hx hb hr hlocks hml hown hts hX hbl hAe hK hZ hS q4 hiL ih hI hP hD (lv_sub hl [0, 1, 2, 3] rfl)
        · refine lv_tableIn (tgt := 458) hx hb dL_law_33 (by decide) (by decide) rfl (by decide) ?_
          exact lc_4 l hx hb hr hlocks hml hown hts hX hbl hAe hK hZ hS q4 hiL ih hI hP hD (lv_sub hl [0, 1, 2, 3] rfl)
        · refine lv_tableIn (tgt := 491) hx hb dL_law_33 (by decide) (by decide) rfl (by decide) ?_
          exact lc_5 l hx hb hr hlocks hml hown hts hX hbl hAe hK hZ hS q4 hiL ih hI hP hD (lv_sub hl [0, 1, 2, 3] rfl)
        · refine lv_tableIn (tgt := 524) hx hb dL_law_33 (by decide) (by decide) rfl (by decide) ?_
          exact lc_6 l hx hb hr hlocks hml hown hts hX hbl hAe hK hZ hS q4 hiL ih hI hP hD (lv_sub hl [0, 1, 2, 3] rfl)
        · refine lv_tableIn (tgt := 567) hx hb dL_law_33 (by decide) (by decide) rfl (by decide) ?_
          exact lc_7 l hx hb hr hlocks hml hown hts hX hbl hAe hK hZ hS q4 hiL ih hI hP hD (lv_sub hl [0, 1, 2, 3] rfl)
        · refine lv_tableIn (tgt := 610) hx hb dL_law_33 (by decide) (by decide) rfl (by decide) ?_
          exact lc_8 l hx hb hr hlocks hml hown hts hX hbl hAe hK hZ hS q4 hiL ih hI hP hD (lv_sub hl [0, 1, 2, 3] rfl)
        · refine lv_tableIn (tgt := 653) hx hb dL_law_33 (by decide) (by decide) rfl (by decide) ?_
          exact lc_9 l hx hb hr hlocks hml hown hts hX hbl hAe hK hZ hS q4 hiL ih hI hP hD (lv_sub hl [0, 1, 2, 3] rfl)
        · refine lv_tableIn (tgt := 676) hx hb dL_law_33 (by decide) (by decide) rfl (by decide) ?_
          exact lc_10 l hx hb hr hlocks hml hown hts hX hbl hAe hK hZ hS q4 hiL ih hI hP hD (lv_sub hl [0, 1, 2, 3] rfl)
        · refine lv_tableIn (tgt := 729) hx hb dL_law_33 (by decide) (by decide) rfl (by decide) ?_
          exact lc_11 l hx hb hr hlocks hml hown hts hX hbl hAe hK hZ hS q4 hiL ih hI hP hD (lv_sub hl [0, 1, 2, 3] rfl)
        · refine lv_tableIn (tgt := 772) hx hb dL_law_33 (by decide) (by decide) rfl (by decide) ?_
          exact lc_12 l hx hb hr hlocks hml hown hts hX hbl hAe hK hZ hS q4 hiL ih hI hP hD (lv_sub hl [0, 1, 2, 3] rfl)
        · refine lv_tableIn (tgt := 805) hx hb dL_law_33 (by decide) (by decide) rfl (by decide) ?_
          exact lc_13 l hx hb hr hlocks hml hown hts hX hbl hAe hK hZ hS q4 hiL ih hI hP hD (lv_sub hl [0, 1, 2, 3] rfl)
        · refine lv_tableIn (tgt := 828) hx hb dL_law_33 (by decide) (by decide) rfl (by decide) ?_
          exact lc_14 l hx hb hr hlocks hml hown hts hX hbl hAe hK hZ hS q4 hiL ih hI hP hD (lv_sub hl [0, 1, 2, 3] rfl)
        · refine lv_tableIn (tgt := 851) hx hb dL_law_33 (by decide) (by decide) rfl (by decide) ?_
          exact lc_15 l hx hb hr hlocks hml hown hts hX hbl hAe hK hZ hS q4 hiL ih hI hP hD (lv_sub hl [0, 1, 2, 3] rfl)
        · refine lv_tableIn (tgt := 884) hx hb dL_law_33 (by decide) (by decide) rfl (by decide) ?_
          exact lc_16 l hx hb hr hlocks hml hown hts hX hbl hAe hK hZ hS q4 hiL ih hI hP hD (lv_sub hl [0, 1, 2, 3] rfl)
        · refine lv_tableIn (tgt := 927) hx hb dL_law_33 (by decide) (by decide) rfl (by decide) ?_
          exact lc_17 l hx hb hr hlocks hml hown hts hX hbl hAe hK hZ hS q4 hiL ih hI hP hD (lv_sub hl [0, 1, 2, 3] rfl)
        · refine lv_tableIn (tgt := 970) hx hb dL_law_33 (by decide) (by decide) rfl (by decide) ?_
          exact lc_18 l hx hb hr hlocks hml hown hts hX hbl hAe hK hZ hS q4 hiL ih hI hP hD (lv_sub hl [0, 1, 2, 3] rfl)
        · refine lv_tableIn (tgt := 1013) hx hb dL_law_33 (by decide) (by decide) rfl (by decide) ?_
          exact lc_19 l hx hb hr hlocks hml hown hts hX hbl hAe hK hZ hS q4 hiL ih hI hP hD (lv_sub hl [0, 1, 2, 3] rfl)
        · refine lv_tableIn (tgt := 1056) hx hb dL_law_33 (by decide) (by decide) rfl (by decide) ?_
          exact lc_20 l hx hb hr hlocks hml hown hts hX hbl hAe hK hZ hS q4 hiL ih hI hP hD (lv_sub hl [0, 1, 2, 3] rfl)
        · refine lv_tableIn (tgt := 1109) hx hb dL_law_33 (by decide) (by decide) rfl (by decide) ?_
          exact lc_21 l hx hb hr hlocks hml hown hts hX hbl hAe hK hZ hS q4 hiL ih hI hP hD (lv_sub hl [0, 1, 2, 3] rfl)
        · refine lv_tableIn (tgt := 1162) hx hb dL_law_33 (by decide) (by decide) rfl (by decide) ?_
          exact lc_22 l hx hb hr hlocks hml hown hts hX hbl hAe hK hZ hS q4 hiL ih hI hP hD (lv_sub hl [0, 1, 2, 3] rfl)
        · refine lv_tableIn (tgt := 1215) hx hb dL_law_33 (by decide) (by decide) rfl (by decide) ?_
          exact lc_23 l hx hb hr hlocks hml hown hts hX hbl hAe hK hZ hS q4 hiL ih hI hP hD (lv_sub hl [0, 1, 2, 3] rfl)
        · refine lv_tableIn (tgt := 1248) hx hb dL_law_33 (by decide) (by decide) rfl (by decide) ?_
          exact lc_24 l hx hb hr hlocks hml hown hts hX hbl hAe hK hZ hS q4 hiL ih hI hP hD (lv_sub hl [0, 1, 2, 3] rfl)
        · refine lv_tableIn (tgt := 1281) hx hb dL_law_33 (by decide) (by decide) rfl (by decide) ?_
          exact lc_25 l hx hb hr hlocks hml hown hts hX hbl hAe hK hZ hS q4 hiL ih hI hP hD (lv_sub hl [0, 1, 2, 3] rfl)
        · refine lv_tableIn (tgt := 1324) hx hb dL_law_33 (by decide) (by decide) rfl (by decide) ?_
          exact lc_26 l hx hb hr hlocks hml hown hts hX hbl hAe hK hZ hS q4 hiL ih hI hP hD (lv_sub hl [0, 1, 2, 3] rfl)
        · refine lv_tableIn (tgt := 1367) hx hb dL_law_33 (by decide) (by decide) rfl (by decide) ?_
          exact lc_27 l hx hb hr hlocks hml hown hts hX hbl hAe hK hZ hS q4 hiL ih hI hP hD (lv_sub hl [0, 1, 2, 3] rfl)
        · refine lv_tableIn (tgt := 1400) hx hb dL_law_33 (by decide) (by decide) rfl (by decide) ?_
          exact lc_28 l hx hb hr hlocks hml hown hts hX hbl hAe hK hZ hS q4 hiL ih hI hP hD (lv_sub hl [0, 1, 2, 3] rfl)
        · refine lv_tableIn (tgt := 1443) hx hb dL_law_33 (by decide) (by decide) rfl (by decide) ?_
          exact lc_29 l hx hb hr hlocks hml hown hts hX hbl hAe hK hZ hS q4 hiL ih hI hP hD (lv_sub hl [0, 1, 2, 3] rfl)
        · refine lv_tableIn (tgt := 1486) hx hb dL_law_33 (by decide) (by decide) rfl (by decide) ?_
          exact lc_30 l hx hb hr hlocks hml hown hts hX hbl hAe hK hZ hS q4 hiL ih hI hP hD (lv_sub hl [0, 1, 2, 3] rfl)
        · refine lv_tableIn (tgt := 1529) hx hb dL_law_33 (by decide) (by decide) rfl (by decide) ?_
          exact lc_31 l hx hb hr hlocks hml hown hts hX hbl hAe hK hZ hS q4 hiL ih hI hP hD (lv_sub hl [0, 1, 2, 3] rfl)
        · refine lv_tableIn (tgt := 1572) hx hb dL_law_33 (by decide) (by decide) rfl (by decide) ?_
          exact lc_32 l hx hb hr hlocks hml hown hts hX hbl hAe hK hZ hS q4 hiL ih hI hP hD (lv_sub hl [0, 1, 2, 3] rfl)
        · refine lv_tableIn (tgt := 1605) hx hb dL_law_33 (by decide) (by decide) rfl (by decide) ?_
          exact lc_33 l hx hb hr hlocks hml hown hts hX hbl hAe hK hZ hS q4 hiL ih hI hP hD (lv_sub hl [0, 1, 2, 3] rfl)
        · refine lv_tableIn (tgt := 1638) hx hb dL_law_33 (by decide) (by decide) rfl (by decide) ?_
          exact lc_34 l hx hb hr hlocks hml hown hts hX hbl hAe hK hZ hS q4 hiL ih hI hP hD (lv_sub hl [0, 1, 2, 3] rfl)
        · refine lv_tableIn (tgt := 1681) hx hb dL_law_33 (by decide) (by decide) rfl (by decide) ?_
          exact lc_35 l hx hb hr hlocks hml hown hts hX hbl hAe hK hZ hS q4 hiL ih hI hP hD (lv_sub hl [0, 1, 2, 3] rfl)
        · refine lv_tableIn (tgt := 1714) hx hb dL_law_33 (by decide) (by decide) rfl (by decide) ?_
          exact lc_36 l hx hb hr hlocks hml hown hts hX hbl hAe hK hZ hS q4 hiL ih hI hP hD (lv_sub hl [0, 1, 2, 3] rfl)
        · refine lv_tableIn (tgt := 1737) hx hb dL_law_33 (by decide) (by decide) rfl (by decide) ?_
          exact lc_37 l hx hb hr hlocks hml hown hts hX hbl hAe hK hZ hS q4 hiL ih hI hP hD (lv_sub hl [0, 1, 2, 3] rfl)
        · refine lv_tableIn (tgt := 1760) hx hb dL_law_33 (by decide) (by decide) rfl (by decide) ?_
          exact lc_38 l hx hb hr hlocks hml hown hts hX hbl hAe hK hZ hS q4 hiL ih hI hP hD (lv_sub hl [0, 1, 2, 3] rfl)
        · refine lv_tableIn (tgt := 1793) hx hb dL_law_33 (by decide) (by decide) rfl (by decide) ?_
          exact lc_39 l hx hb hr hlocks hml hown hts hX hbl hAe hK hZ hS q4 hiL ih hI hP hD (lv_sub hl [0, 1, 2, 3] rfl)
        · refine lv_tableIn (tgt := 1836) hx hb dL_law_33 (by decide) (by decide) rfl (by decide) ?_
          exact lc_40 l hx hb hr hlocks hml hown hts hX hbl hAe hK hZ hS q4 hiL ih hI hP hD (lv_sub hl [0, 1, 2, 3] rfl)
        · refine lv_tableIn (tgt := 1879) hx hb dL_law_33 (by decide) (by decide) rfl (by decide) ?_
          exact lc_41 l hx hb hr hlocks hml hown hts hX hbl hAe hK hZ hS q4 hiL ih hI hP hD (lv_sub hl [0, 1, 2, 3] rfl)
        · refine lv_tableIn (tgt := 1942) hx hb dL_law_33 (by decide) (by decide) rfl (by decide) ?_
          exact lc_42 l hx hb hr hlocks hml hown hts hX hbl hAe hK hZ hS q4 hiL ih hI hP hD (lv_sub hl [0, 1, 2, 3] rfl)
        · refine lv_tableIn (tgt := 2005) hx hb dL_law_33 (by decide) (by decide) rfl (by decide) ?_
          exact lc_43 l hx hb hr hlocks hml hown hts hX hbl hAe hK hZ hS q4 hiL ih hI hP hD (lv_sub hl [0, 1, 2, 3] rfl)
        · refine lv_tableIn (tgt := 2038) hx hb dL_law_33 (by decide) (by decide) rfl (by decide) ?_
          exact lc_44 l hx hb hr hlocks hml hown hts hX hbl hAe hK hZ hS q4 hiL ih hI hP hD (lv_sub hl [0, 1, 2, 3] rfl)
        · refine lv_tableIn (tgt := 2071) hx hb dL_law_33 (by decide) (by decide) rfl (by decide) ?_
          exact lc_45 l hx hb hr hlocks hml hown hts hX hbl hAe hK hZ hS q4 hiL ih hI hP hD (lv_sub hl [0, 1, 2, 3] rfl)
        · refine lv_tableIn (tgt := 2114) hx hb dL_law_33 (by decide) (by decide) rfl (by decide) ?_
          exact lc_46 l hx hb hr hlocks hml hown hts hX hbl hAe hK hZ hS q4 hiL ih hI hP hD (lv_sub hl [0, 1, 2, 3] rfl)
        · refine lv_tableIn (tgt := 2147) hx hb dL_law_33 (by decide) (by decide) rfl (by decide) ?_
          exact lc_47 l hx hb hr hlocks hml hown hts hX hbl hAe hK hZ hS q4 hiL ih hI hP hD (lv_sub hl [0, 1, 2, 3] rfl)
        · refine lv_tableIn (tgt := 2190) hx hb dL_law_33 (by decide) (by decide) rfl (by decide) ?_
          exact lc_48 l hx hb hr hlocks hml hown hts hX hbl hAe hK hZ hS q4 hiL ih hI hP hD (lv_sub hl [0, 1, 2, 3] rfl)
        · refine lv_tableIn (tgt := 2223) hx hb dL_law_33 (by decide) (by decide) rfl (by decide) ?_
          exact lc_49 l hx hb hr hlocks hml hown hts hX hbl hAe hK hZ hS q4 hiL ih hI hP hD (lv_sub hl [0, 1, 2, 3] rfl)
        · refine lv_tableIn (tgt := 2256) hx hb dL_law_33 (by decide) (by decide) rfl (by decide) ?_
          exact lc_50 l hx hb hr hlocks hml hown hts hX hbl hAe hK hZ hS q4 hiL ih hI hP hD (lv_sub hl [0, 1, 2, 3] rfl)
        · refine lv_tableIn (tgt := 2289) hx hb dL_law_33 (by decide) (by decide) rfl (by decide) ?_
          exact lc_51 l hx hb hr hlocks hml hown hts hX hbl hAe hK hZ hS q4 hiL ih hI hP hD (lv_sub hl [0, 1, 2, 3] rfl)
        · refine lv_tableIn (tgt := 2342) hx hb dL_law_33 (by decide) (by decide) rfl (by decide) ?_
          exact lc_52 l hx hb hr hlocks hml hown hts hX hbl hAe hK hZ hS q4 hiL ih hI hP hD (lv_sub hl [0, 1, 2, 3] rfl)
        · refine lv_tableIn (tgt := 2405) hx hb dL_law_33 (by decide) (by decide) rfl (by decide) ?_
          exact lc_53 l hx hb hr hlocks hml hown hts hX hbl hAe hK hZ hS q4 hiL ih hI hP hD (lv_sub hl [0, 1, 2, 3] rfl)
        · refine lv_tableIn (tgt := 2458) hx hb dL_law_33 (by decide) (by decide) rfl (by decide) ?_
          exact lc_54 l hx hb hr hlocks hml hown hts hX hbl hAe hK hZ hS q4 hiL ih hI hP hD (lv_sub hl [0, 1, 2, 3] rfl)
        · refine lv_tableIn (tgt := 2491) hx hb dL_law_33 (by decide) (by decide) rfl (by decide) ?_
          exact lc_55 l hx hb hr hlocks hml hown hts hX hbl hAe hK hZ hS q4 hiL ih hI hP hD (lv_sub hl [0, 1, 2, 3] rfl)
        · refine lv_tableIn (tgt := 2524) hx hb dL_law_33 (by decide) (by decide) rfl (by decide) ?_
          exact lc_56 l hx hb hr hlocks hml hown hts hX hbl hAe hK hZ hS q4 hiL ih hI hP hD (lv_sub hl [0, 1, 2, 3] rfl)
        · refine lv_tableIn (tgt := 2557) hx hb dL_law_33 (by decide) (by decide) rfl (by decide) ?_
          exact lc_57 l hx hb hr hlocks hml hown hts hX hbl hAe hK hZ hS q4 hiL ih hI hP hD (lv_sub hl [0, 1, 2, 3] rfl)
        · refine lv_tableIn (tgt := 2620) hx hb dL_law_33 (by decide) (by decide) rfl (by decide) ?_
          exact lc_58 l hx hb hr hlocks hml hown hts hX hbl hAe hK hZ hS q4 hiL ih hI hP hD (lv_sub hl [0, 1, 2, 3] rfl)
        · refine lv_tableIn (tgt := 2683) hx hb dL_law_33 (by decide) (by decide) rfl (by decide) ?_
          exact lc_59 l hx hb hr hlocks hml hown hts hX hbl hAe hK hZ hS q4 hiL ih hI hP hD (lv_sub hl [0, 1, 2, 3] rfl)
        · refine lv_tableIn (tgt := 2726) hx hb dL_law_33 (by decide) (by decide) rfl (by decide) ?_
          exact lc_60 l hx hb hr hlocks hml hown hts hX hbl hAe hK hZ hS q4 hiL ih hI hP hD (lv_sub hl [0, 1, 2, 3] rfl)
        · refine lv_tableIn (tgt := 2749) hx hb dL_law_33 (by decide) (by decide) rfl (by decide) ?_
          exact lc_61 l hx hb hr hlocks hml hown hts hX hbl hAe hK hZ hS q4 hiL ih hI hP hD (lv_sub hl [0, 1, 2, 3] rfl)
        · refine lv_tableIn (tgt := 2762) hx hb dL_law_33 (by decide) (by decide) rfl (by decide) ?_
          exact lc_62 l hx hb hr hlocks hml hown hts hX hbl hAe hK hZ hS q4 hiL ih hI hP hD (lv_sub hl [0, 1, 2, 3] rfl)
        · refine lv_tableIn (tgt := 2775) hx hb dL_law_33 (by decide) (by decide) rfl (by decide) ?_
          exact lc_63 l hx hb hr hlocks hml hown hts hX hbl hAe hK hZ hS q4 hiL ih hI hP hD (lv_sub hl [0, 1, 2, 3] rfl)
        · refine lv_tableIn (tgt := 2808) hx hb dL_law_33 (by decide) (by decide) rfl (by decide) ?_
          exact lc_64 l hx hb hr hlocks hml hown hts hX hbl hAe hK hZ hS q4 hiL ih hI hP hD (lv_sub hl [0, 1, 2, 3] rfl)
        · refine lv_tableIn (tgt := 2871) hx hb dL_law_33 (by decide) (by decide) rfl (by decide) ?_
          exact lc_65 l hx hb hr hlocks hml hown hts hX hbl hAe hK hZ hS q4 hiL ih hI hP hD (lv_sub hl [0, 1, 2, 3] rfl)
        · refine lv_tableIn (tgt := 2904) hx hb dL_law_33 (by decide) (by decide) rfl (by decide) ?_
          exact lc_66 l hx hb hr hlocks hml hown hts hX hbl hAe hK hZ hS q4 hiL ih hI hP hD (lv_sub hl [0, 1, 2, 3] rfl)
        · refine lv_tableIn (tgt := 2927) hx hb dL_law_33 (by decide) (by decide) rfl (by decide) ?_
          exact lc_67 l hx hb hr hlocks hml hown hts hX hbl hAe hK hZ hS q4 hiL ih hI hP hD (lv_sub hl [0, 1, 2, 3] rfl)
        · refine lv_tableIn (tgt := 2950) hx hb dL_law_33 (by decide) (by decide) rfl (by decide) ?_
          exact lc_68 l hx hb hr hlocks hml hown hts hX hbl hAe hK hZ hS q4 hiL ih hI hP hD (lv_sub hl [0, 1, 2, 3] rfl)
        · refine lv_tableIn (tgt := 2973) hx hb dL_law_33 (by decide) (by decide) rfl (by decide) ?_
          exact lc_69 l hx hb hr hlocks hml hown hts hX hbl hAe hK hZ hS q4 hiL ih hI hP hD (lv_sub hl [0, 1, 2, 3] rfl)
        · refine lv_tableIn (tgt := 3016) hx hb dL_law_33 (by decide) (by decide) rfl (by decide) ?_
          exact lc_70 l hx hb hr hlocks hml hown hts hX hbl hAe hK hZ hS q4 hiL ih hI hP hD (lv_sub hl [0, 1, 2, 3] rfl)
        · refine lv_tableIn (tgt := 3089) hx hb dL_law_33 (by decide) (by decide) rfl (by decide) ?_
          exact lc_71 l hx hb hr hlocks hml hown hts hX hbl hAe hK hZ hS q4 hiL ih hI hP hD (lv_sub hl [0, 1, 2, 3] rfl)

