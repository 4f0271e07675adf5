theorem PQ_ok : ∀ q ∈ PQ, (tchk q.1.2.2.1 q.1.2.2.2.2.2.2.2 && dchk q) = true := by sorry
