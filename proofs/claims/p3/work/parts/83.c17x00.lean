theorem dg_pos {said done at_ v : Int} (h1 : (done = 0 ∧ said = 0) ∨ (done = 1 ∧ 1 ≤ said ∧ said ≤ 10) ∨ (done = 2 ∧ 11 ≤ said ∧ said ≤ 110) ∨ (done = 3 ∧ 111 ≤ said ∧ said ≤ 1110)) (h2 : 0 ≤ at_ ∧ at_ < done) (q0 : -1 ≤ v ∧ v ≤ 9) (q1 : done = 1 → at_ = 0 → v = said - 1) (q2 : done = 2 → at_ = 0 → v = (said - 11) / 10) (q3 : done = 2 → at_ = 1 → v = (said - 11) % 10) (q4 : done = 3 → at_ = 0 → v = (said - 111) / 100) (q5 : done = 3 → at_ = 1 → v = (said - 111) / 10 % 10) (q6 : done = 3 → at_ = 2 → v = (said - 111) % 10) : 0 ≤ v ∧ v ≤ 9 := by
  rcases h1 with ⟨a, b⟩ | ⟨a, b⟩ | ⟨a, b⟩ | ⟨a, b⟩
  · exfalso; clear q1 q2 q3 q4 q5 q6; omega
  · have q := q1 a (by clear q1 q2 q3 q4 q5 q6; omega)
    clear q1 q2 q3 q4 q5 q6
    omega
  · by_cases e : at_ = 0
    · have q := q2 a e
      clear q1 q2 q3 q4 q5 q6
      omega
    · have q := q3 a (by clear q1 q2 q3 q4 q5 q6; omega)
      clear q1 q2 q3 q4 q5 q6
      omega
  · by_cases e : at_ = 0
    · have q := q4 a e
      clear q1 q2 q3 q4 q5 q6
      omega
    · by_cases e2 : at_ = 1
      · have q := q5 a e2
        clear q1 q2 q3 q4 q5 q6
        omega
      · have q := q6 a (by clear q1 q2 q3 q4 q5 q6; omega)
        clear q1 q2 q3 q4 q5 q6
        omega

