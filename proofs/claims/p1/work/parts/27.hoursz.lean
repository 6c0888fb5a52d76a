/-! ===== depth: all boxes ===== -/
theorem mjPair_depth (sc : List Int32) (s1 s2 s3 : Int32) : ∃ (v : Int32) (n1 : Nat) (w1 : MjW) (n2 : Nat) (w2 : MjW), mjEx mjTb mjMt sc n1 30 110 0 (mjEntry mjM_110.2.2.1 (.ref 0 :: [.int s1, .int s2, .int s3])) [] mjW0 = some (some (.int v), w1) ∧ mjEx mjTb mjMt sc n2 30 268 0 (mjEntry mjM_268.2.2.1 (.ref 240 :: [.int s1, .int s2, .int s3])) [] w1 = some (some (.int v), w2) ∧ mjShp w1 = mjShp mjW0 ∧ mjShp w2 = mjShp mjW0 := by
  have a := mjB.all s1
  have b := mjB.all s2
  have h1 : s1.toInt ≤ -1 ∨ s1.toInt = 0 ∨ s1.toInt = 1 ∨ s1.toInt = 2 ∨ s1.toInt = 3 ∨ 4 ≤ s1.toInt := by clear a b; omega
  have h2 : s2.toInt ≤ -1 ∨ s2.toInt = 0 ∨ s2.toInt = 1 ∨ s2.toInt = 2 ∨ 3 ≤ s2.toInt := by clear a b h1; omega
  have e : ∀ {x : Int32} {c : Int}, x.toInt = c → mjB x c c := fun h => ⟨Int.le_of_eq h.symm, Int.le_of_eq h⟩
  rcases h1 with h | h | h | h | h | h
  · exact mjPair_depth_0 sc s1 s2 s3 ⟨a.1, h⟩
  · rcases h2 with g | g | g | g | g
    · exact mjPair_depth_1 sc s1 s2 s3 (e h) ⟨b.1, g⟩
    · exact mjPair_depth_2 sc s1 s2 s3 (e h) (e g)
    · exact mjPair_depth_3 sc s1 s2 s3 (e h) (e g)
    · exact mjPair_depth_4 sc s1 s2 s3 (e h) (e g)
    · exact mjPair_depth_5 sc s1 s2 s3 (e h) ⟨g, b.2⟩
  · rcases h2 with g | g | g | g | g
    · exact mjPair_depth_6 sc s1 s2 s3 (e h) ⟨b.1, g⟩
    · exact mjPair_depth_7 sc s1 s2 s3 (e h) (e g)
    · exact mjPair_depth_8 sc s1 s2 s3 (e h) (e g)
    · exact mjPair_depth_9 sc s1 s2 s3 (e h) (e g)
    · exact mjPair_depth_10 sc s1 s2 s3 (e h) ⟨g, b.2⟩
  · rcases h2 with g | g | g | g | g
    · exact mjPair_depth_11 sc s1 s2 s3 (e h) ⟨b.1, g⟩
    · exact mjPair_depth_12 sc s1 s2 s3 (e h) (e g)
    · exact mjPair_depth_13 sc s1 s2 s3 (e h) (e g)
    · exact mjPair_depth_14 sc s1 s2 s3 (e h) (e g)
    · exact mjPair_depth_15 sc s1 s2 s3 (e h) ⟨g, b.2⟩
  · rcases h2 with g | g | g | g | g
    · exact mjPair_depth_16 sc s1 s2 s3 (e h) ⟨b.1, g⟩
    · exact mjPair_depth_17 sc s1 s2 s3 (e h) (e g)
    · exact mjPair_depth_18 sc s1 s2 s3 (e h) (e g)
    · exact mjPair_depth_19 sc s1 s2 s3 (e h) (e g)
    · exact mjPair_depth_20 sc s1 s2 s3 (e h) ⟨g, b.2⟩
  · exact mjPair_depth_21 sc s1 s2 s3 ⟨h, a.2⟩
