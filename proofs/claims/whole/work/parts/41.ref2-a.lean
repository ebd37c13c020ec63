/-! words and decoded instructions -/


