theorem zU_same {f : Int → Int} {n v : Int} (h : f n = v) : ∀ j : Int, f j = zU f n v j := by
  intro j
  by_cases q : j = n
  · rw [q, zU_s, h]
  · rw [zU_n q]
