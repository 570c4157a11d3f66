/-! part 64: the reference: isUsed -/
