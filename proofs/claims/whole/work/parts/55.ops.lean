theorem start_ok : startB = true := by decide +kernel

