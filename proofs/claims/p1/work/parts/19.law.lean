/-! CONTRACTS, p1 -/
