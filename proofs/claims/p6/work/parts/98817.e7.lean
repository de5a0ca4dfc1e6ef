/-! Images and the tape. -/
section
variable {base : Nat} {X : Nat → Option mC} {G : Nat → Value} {d : Nat}
end
