/-! tables -/

