set_option maxHeartbeats 4000000 in
set_option maxRecDepth 20000 in
theorem mjOkT (y : Nat) (M : MjM) (pc : Nat) (q : MjI) (hM : mjMt y = some M) (h : mjTb y pc = some q) : decode M.2.1 pc = .ok (q.1, q.2.1) ∧ mjOk mjMt M q pc = true := by
  unfold mjTb at h
  rcases mjSpl h with ⟨-, h⟩ | ⟨-, h⟩
  · skip
    rcases mjSpl h with ⟨-, h⟩ | ⟨-, h⟩
    · skip
      rcases mjSpl h with ⟨-, h⟩ | ⟨-, h⟩
      · skip
        rcases mjSpl h with ⟨-, h⟩ | ⟨-, h⟩
        · skip
          rcases mjSpl h with ⟨-, h⟩ | ⟨-, h⟩
          · skip
            rcases mjSpl h with ⟨-, h⟩ | ⟨-, h⟩
            · skip
              rcases mjSpl h with ⟨-, h⟩ | ⟨-, h⟩
              · skip
                rcases mjSpl h with ⟨-, h⟩ | ⟨-, h⟩
                · skip
                  rcases mjSpl h with ⟨e, h⟩ | ⟨-, h⟩
                  · cases Nat.eq_of_beq_eq_true e
                    cases (show some mjM_0 = some M from hM)
                    exact mjK_0 h
                  · cases h
                · skip
                  rcases mjSpl h with ⟨e, h⟩ | ⟨-, h⟩
                  · cases Nat.eq_of_beq_eq_true e
                    cases (show some mjM_1 = some M from hM)
                    exact mjK_1 h
                  · cases h
              · skip
                rcases mjSpl h with ⟨-, h⟩ | ⟨-, h⟩
                · skip
                  rcases mjSpl h with ⟨e, h⟩ | ⟨-, h⟩
                  · cases Nat.eq_of_beq_eq_true e
                    cases (show some mjM_2 = some M from hM)
                    exact mjK_2 h
                  · cases h
                · skip
                  rcases mjSpl h with ⟨e, h⟩ | ⟨-, h⟩
                  · cases Nat.eq_of_beq_eq_true e
                    cases (show some mjM_3 = some M from hM)
                    exact mjK_3 h
                  · cases h
            · skip
              rcases mjSpl h with ⟨-, h⟩ | ⟨-, h⟩
              · skip
                rcases mjSpl h with ⟨-, h⟩ | ⟨-, h⟩
                · skip
                  rcases mjSpl h with ⟨e, h⟩ | ⟨-, h⟩
                  · cases Nat.eq_of_beq_eq_true e
                    cases (show some mjM_4 = some M from hM)
                    exact mjK_4 h
                  · cases h
                · skip
                  rcases mjSpl h with ⟨e, h⟩ | ⟨-, h⟩
                  · cases Nat.eq_of_beq_eq_true e
                    cases (show some mjM_5 = some M from hM)
                    exact mjK_5 h
                  · cases h
              · skip
                rcases mjSpl h with ⟨-, h⟩ | ⟨-, h⟩
                · skip
                  rcases mjSpl h with ⟨e, h⟩ | ⟨-, h⟩
                  · cases Nat.eq_of_beq_eq_true e
                    cases (show some mjM_6 = some M from hM)
                    exact mjK_6 h
                  · cases h
                · skip
                  rcases mjSpl h with ⟨-, h⟩ | ⟨-, h⟩
                  · skip
                    rcases mjSpl h with ⟨e, h⟩ | ⟨-, h⟩
                    · cases Nat.eq_of_beq_eq_true e
                      cases (show some mjM_7 = some M from hM)
                      exact mjK_7 h
                    · cases h
                  · skip
                    rcases mjSpl h with ⟨e, h⟩ | ⟨-, h⟩
                    · cases Nat.eq_of_beq_eq_true e
                      cases (show some mjM_8 = some M from hM)
                      exact mjK_8 h
                    · cases h
          · skip
            rcases mjSpl h with ⟨-, h⟩ | ⟨-, h⟩
            · skip
              rcases mjSpl h with ⟨-, h⟩ | ⟨-, h⟩
              · skip
                rcases mjSpl h with ⟨-, h⟩ | ⟨-, h⟩
                · skip
                  rcases mjSpl h with ⟨e, h⟩ | ⟨-, h⟩
                  · cases Nat.eq_of_beq_eq_true e
                    cases (show some mjM_9 = some M from hM)
                    exact mjK_9 h
                  · cases h
                · skip
                  rcases mjSpl h with ⟨e, h⟩ | ⟨-, h⟩
                  · cases Nat.eq_of_beq_eq_true e
                    cases (show some mjM_10 = some M from hM)
                    exact mjK_10 h
                  · cases h
              · skip
                rcases mjSpl h with ⟨-, h⟩ | ⟨-, h⟩
                · skip
                  rcases mjSpl h with ⟨e, h⟩ | ⟨-, h⟩
                  · cases Nat.eq_of_beq_eq_true e
                    cases (show some mjM_11 = some M from hM)
                    exact mjK_11 h
                  · cases h
                · skip
                  rcases mjSpl h with ⟨-, h⟩ | ⟨-, h⟩
                  · skip
                    rcases mjSpl h with ⟨e, h⟩ | ⟨-, h⟩
                    · cases Nat.eq_of_beq_eq_true e
                      cases (show some mjM_12 = some M from hM)
                      exact mjK_12 h
                    · cases h
                  · skip
                    rcases mjSpl h with ⟨e, h⟩ | ⟨-, h⟩
                    · cases Nat.eq_of_beq_eq_true e
                      cases (show some mjM_13 = some M from hM)
                      exact mjK_13 h
                    · cases h
            · skip
              rcases mjSpl h with ⟨-, h⟩ | ⟨-, h⟩
              · skip
                rcases mjSpl h with ⟨-, h⟩ | ⟨-, h⟩
                · skip
                  rcases mjSpl h with ⟨e, h⟩ | ⟨-, h⟩
                  · cases Nat.eq_of_beq_eq_true e
                    cases (show some mjM_14 = some M from hM)
                    exact mjK_14 h
                  · cases h
                · skip
                  rcases mjSpl h with ⟨e, h⟩ | ⟨-, h⟩
                  · cases Nat.eq_of_beq_eq_true e
                    cases (show some mjM_15 = some M from hM)
                    exact mjK_15 h
                  · cases h
              · skip
                rcases mjSpl h with ⟨-, h⟩ | ⟨-, h⟩
                · skip
                  rcases mjSpl h with ⟨e, h⟩ | ⟨-, h⟩
                  · cases Nat.eq_of_beq_eq_true e
                    cases (show some mjM_16 = some M from hM)
                    exact mjK_16 h
                  · cases h
                · skip
                  rcases mjSpl h with ⟨-, h⟩ | ⟨-, h⟩
                  · skip
                    rcases mjSpl h with ⟨e, h⟩ | ⟨-, h⟩
                    · cases Nat.eq_of_beq_eq_true e
                      cases (show some mjM_17 = some M from hM)
                      exact mjK_17 h
                    · cases h
                  · skip
                    rcases mjSpl h with ⟨e, h⟩ | ⟨-, h⟩
                    · cases Nat.eq_of_beq_eq_true e
                      cases (show some mjM_18 = some M from hM)
                      exact mjK_18 h
                    · cases h
        · skip
          rcases mjSpl h with ⟨-, h⟩ | ⟨-, h⟩
          · skip
            rcases mjSpl h with ⟨-, h⟩ | ⟨-, h⟩
            · skip
              rcases mjSpl h with ⟨-, h⟩ | ⟨-, h⟩
              · skip
                rcases mjSpl h with ⟨-, h⟩ | ⟨-, h⟩
                · skip
                  rcases mjSpl h with ⟨e, h⟩ | ⟨-, h⟩
                  · cases Nat.eq_of_beq_eq_true e
                    cases (show some mjM_19 = some M from hM)
                    exact mjK_19 h
                  · cases h
                · skip
                  rcases mjSpl h with ⟨e, h⟩ | ⟨-, h⟩
                  · cases Nat.eq_of_beq_eq_true e
                    cases (show some mjM_20 = some M from hM)
                    exact mjK_20 h
                  · cases h
              · skip
                rcases mjSpl h with ⟨-, h⟩ | ⟨-, h⟩
                · skip
                  rcases mjSpl h with ⟨e, h⟩ | ⟨-, h⟩
                  · cases Nat.eq_of_beq_eq_true e
                    cases (show some mjM_21 = some M from hM)
                    exact mjK_21 h
                  · cases h
                · skip
                  rcases mjSpl h with ⟨-, h⟩ | ⟨-, h⟩
                  · skip
                    rcases mjSpl h with ⟨e, h⟩ | ⟨-, h⟩
                    · cases Nat.eq_of_beq_eq_true e
                      cases (show some mjM_22 = some M from hM)
                      exact mjK_22 h
                    · cases h
                  · skip
                    rcases mjSpl h with ⟨e, h⟩ | ⟨-, h⟩
                    · cases Nat.eq_of_beq_eq_true e
                      cases (show some mjM_23 = some M from hM)
                      exact mjK_23 h
                    · cases h
            · skip
              rcases mjSpl h with ⟨-, h⟩ | ⟨-, h⟩
              · skip
                rcases mjSpl h with ⟨-, h⟩ | ⟨-, h⟩
                · skip
                  rcases mjSpl h with ⟨e, h⟩ | ⟨-, h⟩
                  · cases Nat.eq_of_beq_eq_true e
                    cases (show some mjM_24 = some M from hM)
                    exact mjK_24 h
                  · cases h
                · skip
                  rcases mjSpl h with ⟨e, h⟩ | ⟨-, h⟩
                  · cases Nat.eq_of_beq_eq_true e
                    cases (show some mjM_25 = some M from hM)
                    exact mjK_25 h
                  · cases h
              · skip
                rcases mjSpl h with ⟨-, h⟩ | ⟨-, h⟩
                · skip
                  rcases mjSpl h with ⟨e, h⟩ | ⟨-, h⟩
                  · cases Nat.eq_of_beq_eq_true e
                    cases (show some mjM_26 = some M from hM)
                    exact mjK_26 h
                  · cases h
                · skip
                  rcases mjSpl h with ⟨-, h⟩ | ⟨-, h⟩
                  · skip
                    rcases mjSpl h with ⟨e, h⟩ | ⟨-, h⟩
                    · cases Nat.eq_of_beq_eq_true e
                      cases (show some mjM_27 = some M from hM)
                      exact mjK_27 h
                    · cases h
                  · skip
                    rcases mjSpl h with ⟨e, h⟩ | ⟨-, h⟩
                    · cases Nat.eq_of_beq_eq_true e
                      cases (show some mjM_28 = some M from hM)
                      exact mjK_28 h
                    · cases h
          · skip
            rcases mjSpl h with ⟨-, h⟩ | ⟨-, h⟩
            · skip
              rcases mjSpl h with ⟨-, h⟩ | ⟨-, h⟩
              · skip
                rcases mjSpl h with ⟨-, h⟩ | ⟨-, h⟩
                · skip
                  rcases mjSpl h with ⟨e, h⟩ | ⟨-, h⟩
                  · cases Nat.eq_of_beq_eq_true e
                    cases (show some mjM_29 = some M from hM)
                    exact mjK_29 h
                  · cases h
                · skip
                  rcases mjSpl h with ⟨e, h⟩ | ⟨-, h⟩
                  · cases Nat.eq_of_beq_eq_true e
                    cases (show some mjM_30 = some M from hM)
                    exact mjK_30 h
                  · cases h
              · skip
                rcases mjSpl h with ⟨-, h⟩ | ⟨-, h⟩
                · skip
                  rcases mjSpl h with ⟨e, h⟩ | ⟨-, h⟩
                  · cases Nat.eq_of_beq_eq_true e
                    cases (show some mjM_31 = some M from hM)
                    exact mjK_31 h
                  · cases h
                · skip
                  rcases mjSpl h with ⟨-, h⟩ | ⟨-, h⟩
                  · skip
                    rcases mjSpl h with ⟨e, h⟩ | ⟨-, h⟩
                    · cases Nat.eq_of_beq_eq_true e
                      cases (show some mjM_32 = some M from hM)
                      exact mjK_32 h
                    · cases h
                  · skip
                    rcases mjSpl h with ⟨e, h⟩ | ⟨-, h⟩
                    · cases Nat.eq_of_beq_eq_true e
                      cases (show some mjM_33 = some M from hM)
                      exact mjK_33 h
                    · cases h
            · skip
              rcases mjSpl h with ⟨-, h⟩ | ⟨-, h⟩
              · skip
                rcases mjSpl h with ⟨-, h⟩ | ⟨-, h⟩
                · skip
                  rcases mjSpl h with ⟨e, h⟩ | ⟨-, h⟩
                  · cases Nat.eq_of_beq_eq_true e
                    cases (show some mjM_34 = some M from hM)
                    exact mjK_34 h
                  · cases h
                · skip
                  rcases mjSpl h with ⟨e, h⟩ | ⟨-, h⟩
                  · cases Nat.eq_of_beq_eq_true e
                    cases (show some mjM_35 = some M from hM)
                    exact mjK_35 h
                  · cases h
              · skip
                rcases mjSpl h with ⟨-, h⟩ | ⟨-, h⟩
                · skip
                  rcases mjSpl h with ⟨e, h⟩ | ⟨-, h⟩
                  · cases Nat.eq_of_beq_eq_true e
                    cases (show some mjM_36 = some M from hM)
                    exact mjK_36 h
                  · cases h
                · skip
                  rcases mjSpl h with ⟨-, h⟩ | ⟨-, h⟩
                  · skip
                    rcases mjSpl h with ⟨e, h⟩ | ⟨-, h⟩
                    · cases Nat.eq_of_beq_eq_true e
                      cases (show some mjM_37 = some M from hM)
                      exact mjK_37 h
                    · cases h
                  · skip
                    rcases mjSpl h with ⟨e, h⟩ | ⟨-, h⟩
                    · cases Nat.eq_of_beq_eq_true e
                      cases (show some mjM_38 = some M from hM)
                      exact mjK_38 h
                    · cases h
      · skip
        rcases mjSpl h with ⟨-, h⟩ | ⟨-, h⟩
        · skip
          rcases mjSpl h with ⟨-, h⟩ | ⟨-, h⟩
          · skip
            rcases mjSpl h with ⟨-, h⟩ | ⟨-, h⟩
            · skip
              rcases mjSpl h with ⟨-, h⟩ | ⟨-, h⟩
              · skip
                rcases mjSpl h with ⟨-, h⟩ | ⟨-, h⟩
                · skip
                  rcases mjSpl h with ⟨e, h⟩ | ⟨-, h⟩
                  · cases Nat.eq_of_beq_eq_true e
                    cases (show some mjM_39 = some M from hM)
                    exact mjK_39 h
                  · cases h
                · skip
                  rcases mjSpl h with ⟨e, h⟩ | ⟨-, h⟩
                  · cases Nat.eq_of_beq_eq_true e
                    cases (show some mjM_40 = some M from hM)
                    exact mjK_40 h
                  · cases h
              · skip
                rcases mjSpl h with ⟨-, h⟩ | ⟨-, h⟩
                · skip
                  rcases mjSpl h with ⟨e, h⟩ | ⟨-, h⟩
                  · cases Nat.eq_of_beq_eq_true e
                    cases (show some mjM_41 = some M from hM)
                    exact mjK_41 h
                  · cases h
                · skip
                  rcases mjSpl h with ⟨e, h⟩ | ⟨-, h⟩
                  · cases Nat.eq_of_beq_eq_true e
                    cases (show some mjM_42 = some M from hM)
                    exact mjK_42 h
                  · cases h
            · skip
              rcases mjSpl h with ⟨-, h⟩ | ⟨-, h⟩
              · skip
                rcases mjSpl h with ⟨-, h⟩ | ⟨-, h⟩
                · skip
                  rcases mjSpl h with ⟨e, h⟩ | ⟨-, h⟩
                  · cases Nat.eq_of_beq_eq_true e
                    cases (show some mjM_43 = some M from hM)
                    exact mjK_43 h
                  · cases h
                · skip
                  rcases mjSpl h with ⟨e, h⟩ | ⟨-, h⟩
                  · cases Nat.eq_of_beq_eq_true e
                    cases (show some mjM_44 = some M from hM)
                    exact mjK_44 h
                  · cases h
              · skip
                rcases mjSpl h with ⟨-, h⟩ | ⟨-, h⟩
                · skip
                  rcases mjSpl h with ⟨e, h⟩ | ⟨-, h⟩
                  · cases Nat.eq_of_beq_eq_true e
                    cases (show some mjM_45 = some M from hM)
                    exact mjK_45 h
                  · cases h
                · skip
                  rcases mjSpl h with ⟨-, h⟩ | ⟨-, h⟩
                  · skip
                    rcases mjSpl h with ⟨e, h⟩ | ⟨-, h⟩
                    · cases Nat.eq_of_beq_eq_true e
                      cases (show some mjM_46 = some M from hM)
                      exact mjK_46 h
                    · cases h
                  · skip
                    rcases mjSpl h with ⟨e, h⟩ | ⟨-, h⟩
                    · cases Nat.eq_of_beq_eq_true e
                      cases (show some mjM_47 = some M from hM)
                      exact mjK_47 h
                    · cases h
          · skip
            rcases mjSpl h with ⟨-, h⟩ | ⟨-, h⟩
            · skip
              rcases mjSpl h with ⟨-, h⟩ | ⟨-, h⟩
              · skip
                rcases mjSpl h with ⟨-, h⟩ | ⟨-, h⟩
                · skip
                  rcases mjSpl h with ⟨e, h⟩ | ⟨-, h⟩
                  · cases Nat.eq_of_beq_eq_true e
                    cases (show some mjM_48 = some M from hM)
                    exact mjK_48 h
                  · cases h
                · skip
                  rcases mjSpl h with ⟨e, h⟩ | ⟨-, h⟩
                  · cases Nat.eq_of_beq_eq_true e
                    cases (show some mjM_49 = some M from hM)
                    exact mjK_49 h
                  · cases h
              · skip
                rcases mjSpl h with ⟨-, h⟩ | ⟨-, h⟩
                · skip
                  rcases mjSpl h with ⟨e, h⟩ | ⟨-, h⟩
                  · cases Nat.eq_of_beq_eq_true e
                    cases (show some mjM_50 = some M from hM)
                    exact mjK_50 h
                  · cases h
                · skip
                  rcases mjSpl h with ⟨-, h⟩ | ⟨-, h⟩
                  · skip
                    rcases mjSpl h with ⟨e, h⟩ | ⟨-, h⟩
                    · cases Nat.eq_of_beq_eq_true e
                      cases (show some mjM_51 = some M from hM)
                      exact mjK_51 h
                    · cases h
                  · skip
                    rcases mjSpl h with ⟨e, h⟩ | ⟨-, h⟩
                    · cases Nat.eq_of_beq_eq_true e
                      cases (show some mjM_52 = some M from hM)
                      exact mjK_52 h
                    · cases h
            · skip
              rcases mjSpl h with ⟨-, h⟩ | ⟨-, h⟩
              · skip
                rcases mjSpl h with ⟨-, h⟩ | ⟨-, h⟩
                · skip
                  rcases mjSpl h with ⟨e, h⟩ | ⟨-, h⟩
                  · cases Nat.eq_of_beq_eq_true e
                    cases (show some mjM_53 = some M from hM)
                    exact mjK_53 h
                  · cases h
                · skip
                  rcases mjSpl h with ⟨e, h⟩ | ⟨-, h⟩
                  · cases Nat.eq_of_beq_eq_true e
                    cases (show some mjM_54 = some M from hM)
                    exact mjK_54 h
                  · cases h
              · skip
                rcases mjSpl h with ⟨-, h⟩ | ⟨-, h⟩
                · skip
                  rcases mjSpl h with ⟨e, h⟩ | ⟨-, h⟩
                  · cases Nat.eq_of_beq_eq_true e
                    cases (show some mjM_55 = some M from hM)
                    exact mjK_55 h
                  · cases h
                · skip
                  rcases mjSpl h with ⟨-, h⟩ | ⟨-, h⟩
                  · skip
                    rcases mjSpl h with ⟨e, h⟩ | ⟨-, h⟩
                    · cases Nat.eq_of_beq_eq_true e
                      cases (show some mjM_56 = some M from hM)
                      exact mjK_56 h
                    · cases h
                  · skip
                    rcases mjSpl h with ⟨e, h⟩ | ⟨-, h⟩
                    · cases Nat.eq_of_beq_eq_true e
                      cases (show some mjM_57 = some M from hM)
                      exact mjK_57 h
                    · cases h
        · skip
          rcases mjSpl h with ⟨-, h⟩ | ⟨-, h⟩
          · skip
            rcases mjSpl h with ⟨-, h⟩ | ⟨-, h⟩
            · skip
              rcases mjSpl h with ⟨-, h⟩ | ⟨-, h⟩
              · skip
                rcases mjSpl h with ⟨-, h⟩ | ⟨-, h⟩
                · skip
                  rcases mjSpl h with ⟨e, h⟩ | ⟨-, h⟩
                  · cases Nat.eq_of_beq_eq_true e
                    cases (show some mjM_58 = some M from hM)
                    exact mjK_58 h
                  · cases h
                · skip
                  rcases mjSpl h with ⟨e, h⟩ | ⟨-, h⟩
                  · cases Nat.eq_of_beq_eq_true e
                    cases (show some mjM_59 = some M from hM)
                    exact mjK_59 h
                  · cases h
              · skip
                rcases mjSpl h with ⟨-, h⟩ | ⟨-, h⟩
                · skip
                  rcases mjSpl h with ⟨e, h⟩ | ⟨-, h⟩
                  · cases Nat.eq_of_beq_eq_true e
                    cases (show some mjM_60 = some M from hM)
                    exact mjK_60 h
                  · cases h
                · skip
                  rcases mjSpl h with ⟨-, h⟩ | ⟨-, h⟩
                  · skip
                    rcases mjSpl h with ⟨e, h⟩ | ⟨-, h⟩
                    · cases Nat.eq_of_beq_eq_true e
                      cases (show some mjM_61 = some M from hM)
                      exact mjK_61 h
                    · cases h
                  · skip
                    rcases mjSpl h with ⟨e, h⟩ | ⟨-, h⟩
                    · cases Nat.eq_of_beq_eq_true e
                      cases (show some mjM_62 = some M from hM)
                      exact mjK_62 h
                    · cases h
            · skip
              rcases mjSpl h with ⟨-, h⟩ | ⟨-, h⟩
              · skip
                rcases mjSpl h with ⟨-, h⟩ | ⟨-, h⟩
                · skip
                  rcases mjSpl h with ⟨e, h⟩ | ⟨-, h⟩
                  · cases Nat.eq_of_beq_eq_true e
                    cases (show some mjM_63 = some M from hM)
                    exact mjK_63 h
                  · cases h
                · skip
                  rcases mjSpl h with ⟨e, h⟩ | ⟨-, h⟩
                  · cases Nat.eq_of_beq_eq_true e
                    cases (show some mjM_64 = some M from hM)
                    exact mjK_64 h
                  · cases h
              · skip
                rcases mjSpl h with ⟨-, h⟩ | ⟨-, h⟩
                · skip
                  rcases mjSpl h with ⟨e, h⟩ | ⟨-, h⟩
                  · cases Nat.eq_of_beq_eq_true e
                    cases (show some mjM_65 = some M from hM)
                    exact mjK_65 h
                  · cases h
                · skip
                  rcases mjSpl h with ⟨-, h⟩ | ⟨-, h⟩
                  · skip
                    rcases mjSpl h with ⟨e, h⟩ | ⟨-, h⟩
                    · cases Nat.eq_of_beq_eq_true e
                      cases (show some mjM_66 = some M from hM)
                      exact mjK_66 h
                    · cases h
                  · skip
                    rcases mjSpl h with ⟨e, h⟩ | ⟨-, h⟩
                    · cases Nat.eq_of_beq_eq_true e
                      cases (show some mjM_67 = some M from hM)
                      exact mjK_67 h
                    · cases h
          · skip
            rcases mjSpl h with ⟨-, h⟩ | ⟨-, h⟩
            · skip
              rcases mjSpl h with ⟨-, h⟩ | ⟨-, h⟩
              · skip
                rcases mjSpl h with ⟨-, h⟩ | ⟨-, h⟩
                · skip
                  rcases mjSpl h with ⟨e, h⟩ | ⟨-, h⟩
                  · cases Nat.eq_of_beq_eq_true e
                    cases (show some mjM_68 = some M from hM)
                    exact mjK_68 h
                  · cases h
                · skip
                  rcases mjSpl h with ⟨e, h⟩ | ⟨-, h⟩
                  · cases Nat.eq_of_beq_eq_true e
                    cases (show some mjM_69 = some M from hM)
                    exact mjK_69 h
                  · cases h
              · skip
                rcases mjSpl h with ⟨-, h⟩ | ⟨-, h⟩
                · skip
                  rcases mjSpl h with ⟨e, h⟩ | ⟨-, h⟩
                  · cases Nat.eq_of_beq_eq_true e
                    cases (show some mjM_70 = some M from hM)
                    exact mjK_70 h
                  · cases h
                · skip
                  rcases mjSpl h with ⟨-, h⟩ | ⟨-, h⟩
                  · skip
                    rcases mjSpl h with ⟨e, h⟩ | ⟨-, h⟩
                    · cases Nat.eq_of_beq_eq_true e
                      cases (show some mjM_71 = some M from hM)
                      exact mjK_71 h
                    · cases h
                  · skip
                    rcases mjSpl h with ⟨e, h⟩ | ⟨-, h⟩
                    · cases Nat.eq_of_beq_eq_true e
                      cases (show some mjM_72 = some M from hM)
                      exact mjK_72 h
                    · cases h
            · skip
              rcases mjSpl h with ⟨-, h⟩ | ⟨-, h⟩
              · skip
                rcases mjSpl h with ⟨-, h⟩ | ⟨-, h⟩
                · skip
                  rcases mjSpl h with ⟨e, h⟩ | ⟨-, h⟩
                  · cases Nat.eq_of_beq_eq_true e
                    cases (show some mjM_73 = some M from hM)
                    exact mjK_73 h
                  · cases h
                · skip
                  rcases mjSpl h with ⟨e, h⟩ | ⟨-, h⟩
                  · cases Nat.eq_of_beq_eq_true e
                    cases (show some mjM_74 = some M from hM)
                    exact mjK_74 h
                  · cases h
              · skip
                rcases mjSpl h with ⟨-, h⟩ | ⟨-, h⟩
                · skip
                  rcases mjSpl h with ⟨e, h⟩ | ⟨-, h⟩
                  · cases Nat.eq_of_beq_eq_true e
                    cases (show some mjM_75 = some M from hM)
                    exact mjK_75 h
                  · cases h
                · skip
                  rcases mjSpl h with ⟨-, h⟩ | ⟨-, h⟩
                  · skip
                    rcases mjSpl h with ⟨e, h⟩ | ⟨-, h⟩
                    · cases Nat.eq_of_beq_eq_true e
                      cases (show some mjM_76 = some M from hM)
                      exact mjK_76 h
                    · cases h
                  · skip
                    rcases mjSpl h with ⟨e, h⟩ | ⟨-, h⟩
                    · cases Nat.eq_of_beq_eq_true e
                      cases (show some mjM_77 = some M from hM)
                      exact mjK_77 h
                    · cases h
    · skip
      rcases mjSpl h with ⟨-, h⟩ | ⟨-, h⟩
      · skip
        rcases mjSpl h with ⟨-, h⟩ | ⟨-, h⟩
        · skip
          rcases mjSpl h with ⟨-, h⟩ | ⟨-, h⟩
          · skip
            rcases mjSpl h with ⟨-, h⟩ | ⟨-, h⟩
            · skip
              rcases mjSpl h with ⟨-, h⟩ | ⟨-, h⟩
              · skip
                rcases mjSpl h with ⟨-, h⟩ | ⟨-, h⟩
                · skip
                  rcases mjSpl h with ⟨e, h⟩ | ⟨-, h⟩
                  · cases Nat.eq_of_beq_eq_true e
                    cases (show some mjM_78 = some M from hM)
                    exact mjK_78 h
                  · cases h
                · skip
                  rcases mjSpl h with ⟨e, h⟩ | ⟨-, h⟩
                  · cases Nat.eq_of_beq_eq_true e
                    cases (show some mjM_79 = some M from hM)
                    exact mjK_79 h
                  · cases h
              · skip
                rcases mjSpl h with ⟨-, h⟩ | ⟨-, h⟩
                · skip
                  rcases mjSpl h with ⟨e, h⟩ | ⟨-, h⟩
                  · cases Nat.eq_of_beq_eq_true e
                    cases (show some mjM_80 = some M from hM)
                    exact mjK_80 h
                  · cases h
                · skip
                  rcases mjSpl h with ⟨e, h⟩ | ⟨-, h⟩
                  · cases Nat.eq_of_beq_eq_true e
                    cases (show some mjM_81 = some M from hM)
                    exact mjK_81 h
                  · cases h
            · skip
              rcases mjSpl h with ⟨-, h⟩ | ⟨-, h⟩
              · skip
                rcases mjSpl h with ⟨-, h⟩ | ⟨-, h⟩
                · skip
                  rcases mjSpl h with ⟨e, h⟩ | ⟨-, h⟩
                  · cases Nat.eq_of_beq_eq_true e
                    cases (show some mjM_82 = some M from hM)
                    exact mjK_82 h
                  · cases h
                · skip
                  rcases mjSpl h with ⟨e, h⟩ | ⟨-, h⟩
                  · cases Nat.eq_of_beq_eq_true e
                    cases (show some mjM_83 = some M from hM)
                    exact mjK_83 h
                  · cases h
              · skip
                rcases mjSpl h with ⟨-, h⟩ | ⟨-, h⟩
                · skip
                  rcases mjSpl h with ⟨e, h⟩ | ⟨-, h⟩
                  · cases Nat.eq_of_beq_eq_true e
                    cases (show some mjM_84 = some M from hM)
                    exact mjK_84 h
                  · cases h
                · skip
                  rcases mjSpl h with ⟨-, h⟩ | ⟨-, h⟩
                  · skip
                    rcases mjSpl h with ⟨e, h⟩ | ⟨-, h⟩
                    · cases Nat.eq_of_beq_eq_true e
                      cases (show some mjM_85 = some M from hM)
                      exact mjK_85 h
                    · cases h
                  · skip
                    rcases mjSpl h with ⟨e, h⟩ | ⟨-, h⟩
                    · cases Nat.eq_of_beq_eq_true e
                      cases (show some mjM_86 = some M from hM)
                      exact mjK_86 h
                    · cases h
          · skip
            rcases mjSpl h with ⟨-, h⟩ | ⟨-, h⟩
            · skip
              rcases mjSpl h with ⟨-, h⟩ | ⟨-, h⟩
              · skip
                rcases mjSpl h with ⟨-, h⟩ | ⟨-, h⟩
                · skip
                  rcases mjSpl h with ⟨e, h⟩ | ⟨-, h⟩
                  · cases Nat.eq_of_beq_eq_true e
                    cases (show some mjM_87 = some M from hM)
                    exact mjK_87 h
                  · cases h
                · skip
                  rcases mjSpl h with ⟨e, h⟩ | ⟨-, h⟩
                  · cases Nat.eq_of_beq_eq_true e
                    cases (show some mjM_88 = some M from hM)
                    exact mjK_88 h
                  · cases h
              · skip
                rcases mjSpl h with ⟨-, h⟩ | ⟨-, h⟩
                · skip
                  rcases mjSpl h with ⟨e, h⟩ | ⟨-, h⟩
                  · cases Nat.eq_of_beq_eq_true e
                    cases (show some mjM_89 = some M from hM)
                    exact mjK_89 h
                  · cases h
                · skip
                  rcases mjSpl h with ⟨-, h⟩ | ⟨-, h⟩
                  · skip
                    rcases mjSpl h with ⟨e, h⟩ | ⟨-, h⟩
                    · cases Nat.eq_of_beq_eq_true e
                      cases (show some mjM_90 = some M from hM)
                      exact mjK_90 h
                    · cases h
                  · skip
                    rcases mjSpl h with ⟨e, h⟩ | ⟨-, h⟩
                    · cases Nat.eq_of_beq_eq_true e
                      cases (show some mjM_91 = some M from hM)
                      exact mjK_91 h
                    · cases h
            · skip
              rcases mjSpl h with ⟨-, h⟩ | ⟨-, h⟩
              · skip
                rcases mjSpl h with ⟨-, h⟩ | ⟨-, h⟩
                · skip
                  rcases mjSpl h with ⟨e, h⟩ | ⟨-, h⟩
                  · cases Nat.eq_of_beq_eq_true e
                    cases (show some mjM_92 = some M from hM)
                    exact mjK_92 h
                  · cases h
                · skip
                  rcases mjSpl h with ⟨e, h⟩ | ⟨-, h⟩
                  · cases Nat.eq_of_beq_eq_true e
                    cases (show some mjM_93 = some M from hM)
                    exact mjK_93 h
                  · cases h
              · skip
                rcases mjSpl h with ⟨-, h⟩ | ⟨-, h⟩
                · skip
                  rcases mjSpl h with ⟨e, h⟩ | ⟨-, h⟩
                  · cases Nat.eq_of_beq_eq_true e
                    cases (show some mjM_94 = some M from hM)
                    exact mjK_94 h
                  · cases h
                · skip
                  rcases mjSpl h with ⟨-, h⟩ | ⟨-, h⟩
                  · skip
                    rcases mjSpl h with ⟨e, h⟩ | ⟨-, h⟩
                    · cases Nat.eq_of_beq_eq_true e
                      cases (show some mjM_95 = some M from hM)
                      exact mjK_95 h
                    · cases h
                  · skip
                    rcases mjSpl h with ⟨e, h⟩ | ⟨-, h⟩
                    · cases Nat.eq_of_beq_eq_true e
                      cases (show some mjM_96 = some M from hM)
                      exact mjK_96 h
                    · cases h
        · skip
          rcases mjSpl h with ⟨-, h⟩ | ⟨-, h⟩
          · skip
            rcases mjSpl h with ⟨-, h⟩ | ⟨-, h⟩
            · skip
              rcases mjSpl h with ⟨-, h⟩ | ⟨-, h⟩
              · skip
                rcases mjSpl h with ⟨-, h⟩ | ⟨-, h⟩
                · skip
                  rcases mjSpl h with ⟨e, h⟩ | ⟨-, h⟩
                  · cases Nat.eq_of_beq_eq_true e
                    cases (show some mjM_97 = some M from hM)
                    exact mjK_97 h
                  · cases h
                · skip
                  rcases mjSpl h with ⟨e, h⟩ | ⟨-, h⟩
                  · cases Nat.eq_of_beq_eq_true e
                    cases (show some mjM_98 = some M from hM)
                    exact mjK_98 h
                  · cases h
              · skip
                rcases mjSpl h with ⟨-, h⟩ | ⟨-, h⟩
                · skip
                  rcases mjSpl h with ⟨e, h⟩ | ⟨-, h⟩
                  · cases Nat.eq_of_beq_eq_true e
                    cases (show some mjM_99 = some M from hM)
                    exact mjK_99 h
                  · cases h
                · skip
                  rcases mjSpl h with ⟨-, h⟩ | ⟨-, h⟩
                  · skip
                    rcases mjSpl h with ⟨e, h⟩ | ⟨-, h⟩
                    · cases Nat.eq_of_beq_eq_true e
                      cases (show some mjM_100 = some M from hM)
                      exact mjK_100 h
                    · cases h
                  · skip
                    rcases mjSpl h with ⟨e, h⟩ | ⟨-, h⟩
                    · cases Nat.eq_of_beq_eq_true e
                      cases (show some mjM_101 = some M from hM)
                      exact mjK_101 h
                    · cases h
            · skip
              rcases mjSpl h with ⟨-, h⟩ | ⟨-, h⟩
              · skip
                rcases mjSpl h with ⟨-, h⟩ | ⟨-, h⟩
                · skip
                  rcases mjSpl h with ⟨e, h⟩ | ⟨-, h⟩
                  · cases Nat.eq_of_beq_eq_true e
                    cases (show some mjM_102 = some M from hM)
                    exact mjK_102 h
                  · cases h
                · skip
                  rcases mjSpl h with ⟨e, h⟩ | ⟨-, h⟩
                  · cases Nat.eq_of_beq_eq_true e
                    cases (show some mjM_103 = some M from hM)
                    exact mjK_103 h
                  · cases h
              · skip
                rcases mjSpl h with ⟨-, h⟩ | ⟨-, h⟩
                · skip
                  rcases mjSpl h with ⟨e, h⟩ | ⟨-, h⟩
                  · cases Nat.eq_of_beq_eq_true e
                    cases (show some mjM_104 = some M from hM)
                    exact mjK_104 h
                  · cases h
                · skip
                  rcases mjSpl h with ⟨-, h⟩ | ⟨-, h⟩
                  · skip
                    rcases mjSpl h with ⟨e, h⟩ | ⟨-, h⟩
                    · cases Nat.eq_of_beq_eq_true e
                      cases (show some mjM_105 = some M from hM)
                      exact mjK_105 h
                    · cases h
                  · skip
                    rcases mjSpl h with ⟨e, h⟩ | ⟨-, h⟩
                    · cases Nat.eq_of_beq_eq_true e
                      cases (show some mjM_106 = some M from hM)
                      exact mjK_106 h
                    · cases h
          · skip
            rcases mjSpl h with ⟨-, h⟩ | ⟨-, h⟩
            · skip
              rcases mjSpl h with ⟨-, h⟩ | ⟨-, h⟩
              · skip
                rcases mjSpl h with ⟨-, h⟩ | ⟨-, h⟩
                · skip
                  rcases mjSpl h with ⟨e, h⟩ | ⟨-, h⟩
                  · cases Nat.eq_of_beq_eq_true e
                    cases (show some mjM_107 = some M from hM)
                    exact mjK_107 h
                  · cases h
                · skip
                  rcases mjSpl h with ⟨e, h⟩ | ⟨-, h⟩
                  · cases Nat.eq_of_beq_eq_true e
                    cases (show some mjM_108 = some M from hM)
                    exact mjK_108 h
                  · cases h
              · skip
                rcases mjSpl h with ⟨-, h⟩ | ⟨-, h⟩
                · skip
                  rcases mjSpl h with ⟨e, h⟩ | ⟨-, h⟩
                  · cases Nat.eq_of_beq_eq_true e
                    cases (show some mjM_109 = some M from hM)
                    exact mjK_109 h
                  · cases h
                · skip
                  rcases mjSpl h with ⟨-, h⟩ | ⟨-, h⟩
                  · skip
                    rcases mjSpl h with ⟨e, h⟩ | ⟨-, h⟩
                    · cases Nat.eq_of_beq_eq_true e
                      cases (show some mjM_110 = some M from hM)
                      exact mjK_110 h
                    · cases h
                  · skip
                    rcases mjSpl h with ⟨e, h⟩ | ⟨-, h⟩
                    · cases Nat.eq_of_beq_eq_true e
                      cases (show some mjM_111 = some M from hM)
                      exact mjK_111 h
                    · cases h
            · skip
              rcases mjSpl h with ⟨-, h⟩ | ⟨-, h⟩
              · skip
                rcases mjSpl h with ⟨-, h⟩ | ⟨-, h⟩
                · skip
                  rcases mjSpl h with ⟨e, h⟩ | ⟨-, h⟩
                  · cases Nat.eq_of_beq_eq_true e
                    cases (show some mjM_112 = some M from hM)
                    exact mjK_112 h
                  · cases h
                · skip
                  rcases mjSpl h with ⟨e, h⟩ | ⟨-, h⟩
                  · cases Nat.eq_of_beq_eq_true e
                    cases (show some mjM_113 = some M from hM)
                    exact mjK_113 h
                  · cases h
              · skip
                rcases mjSpl h with ⟨-, h⟩ | ⟨-, h⟩
                · skip
                  rcases mjSpl h with ⟨e, h⟩ | ⟨-, h⟩
                  · cases Nat.eq_of_beq_eq_true e
                    cases (show some mjM_114 = some M from hM)
                    exact mjK_114 h
                  · cases h
                · skip
                  rcases mjSpl h with ⟨-, h⟩ | ⟨-, h⟩
                  · skip
                    rcases mjSpl h with ⟨e, h⟩ | ⟨-, h⟩
                    · cases Nat.eq_of_beq_eq_true e
                      cases (show some mjM_115 = some M from hM)
                      exact mjK_115 h
                    · cases h
                  · skip
                    rcases mjSpl h with ⟨e, h⟩ | ⟨-, h⟩
                    · cases Nat.eq_of_beq_eq_true e
                      cases (show some mjM_116 = some M from hM)
                      exact mjK_116 h
                    · cases h
      · skip
        rcases mjSpl h with ⟨-, h⟩ | ⟨-, h⟩
        · skip
          rcases mjSpl h with ⟨-, h⟩ | ⟨-, h⟩
          · skip
            rcases mjSpl h with ⟨-, h⟩ | ⟨-, h⟩
            · skip
              rcases mjSpl h with ⟨-, h⟩ | ⟨-, h⟩
              · skip
                rcases mjSpl h with ⟨-, h⟩ | ⟨-, h⟩
                · skip
                  rcases mjSpl h with ⟨e, h⟩ | ⟨-, h⟩
                  · cases Nat.eq_of_beq_eq_true e
                    cases (show some mjM_117 = some M from hM)
                    exact mjK_117 h
                  · cases h
                · skip
                  rcases mjSpl h with ⟨e, h⟩ | ⟨-, h⟩
                  · cases Nat.eq_of_beq_eq_true e
                    cases (show some mjM_118 = some M from hM)
                    exact mjK_118 h
                  · cases h
              · skip
                rcases mjSpl h with ⟨-, h⟩ | ⟨-, h⟩
                · skip
                  rcases mjSpl h with ⟨e, h⟩ | ⟨-, h⟩
                  · cases Nat.eq_of_beq_eq_true e
                    cases (show some mjM_119 = some M from hM)
                    exact mjK_119 h
                  · cases h
                · skip
                  rcases mjSpl h with ⟨e, h⟩ | ⟨-, h⟩
                  · cases Nat.eq_of_beq_eq_true e
                    cases (show some mjM_120 = some M from hM)
                    exact mjK_120 h
                  · cases h
            · skip
              rcases mjSpl h with ⟨-, h⟩ | ⟨-, h⟩
              · skip
                rcases mjSpl h with ⟨-, h⟩ | ⟨-, h⟩
                · skip
                  rcases mjSpl h with ⟨e, h⟩ | ⟨-, h⟩
                  · cases Nat.eq_of_beq_eq_true e
                    cases (show some mjM_121 = some M from hM)
                    exact mjK_121 h
                  · cases h
                · skip
                  rcases mjSpl h with ⟨e, h⟩ | ⟨-, h⟩
                  · cases Nat.eq_of_beq_eq_true e
                    cases (show some mjM_122 = some M from hM)
                    exact mjK_122 h
                  · cases h
              · skip
                rcases mjSpl h with ⟨-, h⟩ | ⟨-, h⟩
                · skip
                  rcases mjSpl h with ⟨e, h⟩ | ⟨-, h⟩
                  · cases Nat.eq_of_beq_eq_true e
                    cases (show some mjM_123 = some M from hM)
                    exact mjK_123 h
                  · cases h
                · skip
                  rcases mjSpl h with ⟨-, h⟩ | ⟨-, h⟩
                  · skip
                    rcases mjSpl h with ⟨e, h⟩ | ⟨-, h⟩
                    · cases Nat.eq_of_beq_eq_true e
                      cases (show some mjM_124 = some M from hM)
                      exact mjK_124 h
                    · cases h
                  · skip
                    rcases mjSpl h with ⟨e, h⟩ | ⟨-, h⟩
                    · cases Nat.eq_of_beq_eq_true e
                      cases (show some mjM_125 = some M from hM)
                      exact mjK_125 h
                    · cases h
          · skip
            rcases mjSpl h with ⟨-, h⟩ | ⟨-, h⟩
            · skip
              rcases mjSpl h with ⟨-, h⟩ | ⟨-, h⟩
              · skip
                rcases mjSpl h with ⟨-, h⟩ | ⟨-, h⟩
                · skip
                  rcases mjSpl h with ⟨e, h⟩ | ⟨-, h⟩
                  · cases Nat.eq_of_beq_eq_true e
                    cases (show some mjM_126 = some M from hM)
                    exact mjK_126 h
                  · cases h
                · skip
                  rcases mjSpl h with ⟨e, h⟩ | ⟨-, h⟩
                  · cases Nat.eq_of_beq_eq_true e
                    cases (show some mjM_127 = some M from hM)
                    exact mjK_127 h
                  · cases h
              · skip
                rcases mjSpl h with ⟨-, h⟩ | ⟨-, h⟩
                · skip
                  rcases mjSpl h with ⟨e, h⟩ | ⟨-, h⟩
                  · cases Nat.eq_of_beq_eq_true e
                    cases (show some mjM_128 = some M from hM)
                    exact mjK_128 h
                  · cases h
                · skip
                  rcases mjSpl h with ⟨-, h⟩ | ⟨-, h⟩
                  · skip
                    rcases mjSpl h with ⟨e, h⟩ | ⟨-, h⟩
                    · cases Nat.eq_of_beq_eq_true e
                      cases (show some mjM_129 = some M from hM)
                      exact mjK_129 h
                    · cases h
                  · skip
                    rcases mjSpl h with ⟨e, h⟩ | ⟨-, h⟩
                    · cases Nat.eq_of_beq_eq_true e
                      cases (show some mjM_130 = some M from hM)
                      exact mjK_130 h
                    · cases h
            · skip
              rcases mjSpl h with ⟨-, h⟩ | ⟨-, h⟩
              · skip
                rcases mjSpl h with ⟨-, h⟩ | ⟨-, h⟩
                · skip
                  rcases mjSpl h with ⟨e, h⟩ | ⟨-, h⟩
                  · cases Nat.eq_of_beq_eq_true e
                    cases (show some mjM_131 = some M from hM)
                    exact mjK_131 h
                  · cases h
                · skip
                  rcases mjSpl h with ⟨e, h⟩ | ⟨-, h⟩
                  · cases Nat.eq_of_beq_eq_true e
                    cases (show some mjM_132 = some M from hM)
                    exact mjK_132 h
                  · cases h
              · skip
                rcases mjSpl h with ⟨-, h⟩ | ⟨-, h⟩
                · skip
                  rcases mjSpl h with ⟨e, h⟩ | ⟨-, h⟩
                  · cases Nat.eq_of_beq_eq_true e
                    cases (show some mjM_133 = some M from hM)
                    exact mjK_133 h
                  · cases h
                · skip
                  rcases mjSpl h with ⟨-, h⟩ | ⟨-, h⟩
                  · skip
                    rcases mjSpl h with ⟨e, h⟩ | ⟨-, h⟩
                    · cases Nat.eq_of_beq_eq_true e
                      cases (show some mjM_134 = some M from hM)
                      exact mjK_134 h
                    · cases h
                  · skip
                    rcases mjSpl h with ⟨e, h⟩ | ⟨-, h⟩
                    · cases Nat.eq_of_beq_eq_true e
                      cases (show some mjM_135 = some M from hM)
                      exact mjK_135 h
                    · cases h
        · skip
          rcases mjSpl h with ⟨-, h⟩ | ⟨-, h⟩
          · skip
            rcases mjSpl h with ⟨-, h⟩ | ⟨-, h⟩
            · skip
              rcases mjSpl h with ⟨-, h⟩ | ⟨-, h⟩
              · skip
                rcases mjSpl h with ⟨-, h⟩ | ⟨-, h⟩
                · skip
                  rcases mjSpl h with ⟨e, h⟩ | ⟨-, h⟩
                  · cases Nat.eq_of_beq_eq_true e
                    cases (show some mjM_136 = some M from hM)
                    exact mjK_136 h
                  · cases h
                · skip
                  rcases mjSpl h with ⟨e, h⟩ | ⟨-, h⟩
                  · cases Nat.eq_of_beq_eq_true e
                    cases (show some mjM_137 = some M from hM)
                    exact mjK_137 h
                  · cases h
              · skip
                rcases mjSpl h with ⟨-, h⟩ | ⟨-, h⟩
                · skip
                  rcases mjSpl h with ⟨e, h⟩ | ⟨-, h⟩
                  · cases Nat.eq_of_beq_eq_true e
                    cases (show some mjM_138 = some M from hM)
                    exact mjK_138 h
                  · cases h
                · skip
                  rcases mjSpl h with ⟨-, h⟩ | ⟨-, h⟩
                  · skip
                    rcases mjSpl h with ⟨e, h⟩ | ⟨-, h⟩
                    · cases Nat.eq_of_beq_eq_true e
                      cases (show some mjM_139 = some M from hM)
                      exact mjK_139 h
                    · cases h
                  · skip
                    rcases mjSpl h with ⟨e, h⟩ | ⟨-, h⟩
                    · cases Nat.eq_of_beq_eq_true e
                      cases (show some mjM_140 = some M from hM)
                      exact mjK_140 h
                    · cases h
            · skip
              rcases mjSpl h with ⟨-, h⟩ | ⟨-, h⟩
              · skip
                rcases mjSpl h with ⟨-, h⟩ | ⟨-, h⟩
                · skip
                  rcases mjSpl h with ⟨e, h⟩ | ⟨-, h⟩
                  · cases Nat.eq_of_beq_eq_true e
                    cases (show some mjM_141 = some M from hM)
                    exact mjK_141 h
                  · cases h
                · skip
                  rcases mjSpl h with ⟨e, h⟩ | ⟨-, h⟩
                  · cases Nat.eq_of_beq_eq_true e
                    cases (show some mjM_142 = some M from hM)
                    exact mjK_142 h
                  · cases h
              · skip
                rcases mjSpl h with ⟨-, h⟩ | ⟨-, h⟩
                · skip
                  rcases mjSpl h with ⟨e, h⟩ | ⟨-, h⟩
                  · cases Nat.eq_of_beq_eq_true e
                    cases (show some mjM_143 = some M from hM)
                    exact mjK_143 h
                  · cases h
                · skip
                  rcases mjSpl h with ⟨-, h⟩ | ⟨-, h⟩
                  · skip
                    rcases mjSpl h with ⟨e, h⟩ | ⟨-, h⟩
                    · cases Nat.eq_of_beq_eq_true e
                      cases (show some mjM_144 = some M from hM)
                      exact mjK_144 h
                    · cases h
                  · skip
                    rcases mjSpl h with ⟨e, h⟩ | ⟨-, h⟩
                    · cases Nat.eq_of_beq_eq_true e
                      cases (show some mjM_145 = some M from hM)
                      exact mjK_145 h
                    · cases h
          · skip
            rcases mjSpl h with ⟨-, h⟩ | ⟨-, h⟩
            · skip
              rcases mjSpl h with ⟨-, h⟩ | ⟨-, h⟩
              · skip
                rcases mjSpl h with ⟨-, h⟩ | ⟨-, h⟩
                · skip
                  rcases mjSpl h with ⟨e, h⟩ | ⟨-, h⟩
                  · cases Nat.eq_of_beq_eq_true e
                    cases (show some mjM_146 = some M from hM)
                    exact mjK_146 h
                  · cases h
                · skip
                  rcases mjSpl h with ⟨e, h⟩ | ⟨-, h⟩
                  · cases Nat.eq_of_beq_eq_true e
                    cases (show some mjM_147 = some M from hM)
                    exact mjK_147 h
                  · cases h
              · skip
                rcases mjSpl h with ⟨-, h⟩ | ⟨-, h⟩
                · skip
                  rcases mjSpl h with ⟨e, h⟩ | ⟨-, h⟩
                  · cases Nat.eq_of_beq_eq_true e
                    cases (show some mjM_148 = some M from hM)
                    exact mjK_148 h
                  · cases h
                · skip
                  rcases mjSpl h with ⟨-, h⟩ | ⟨-, h⟩
                  · skip
                    rcases mjSpl h with ⟨e, h⟩ | ⟨-, h⟩
                    · cases Nat.eq_of_beq_eq_true e
                      cases (show some mjM_149 = some M from hM)
                      exact mjK_149 h
                    · cases h
                  · skip
                    rcases mjSpl h with ⟨e, h⟩ | ⟨-, h⟩
                    · cases Nat.eq_of_beq_eq_true e
                      cases (show some mjM_150 = some M from hM)
                      exact mjK_150 h
                    · cases h
            · skip
              rcases mjSpl h with ⟨-, h⟩ | ⟨-, h⟩
              · skip
                rcases mjSpl h with ⟨-, h⟩ | ⟨-, h⟩
                · skip
                  rcases mjSpl h with ⟨e, h⟩ | ⟨-, h⟩
                  · cases Nat.eq_of_beq_eq_true e
                    cases (show some mjM_151 = some M from hM)
                    exact mjK_151 h
                  · cases h
                · skip
                  rcases mjSpl h with ⟨e, h⟩ | ⟨-, h⟩
                  · cases Nat.eq_of_beq_eq_true e
                    cases (show some mjM_152 = some M from hM)
                    exact mjK_152 h
                  · cases h
              · skip
                rcases mjSpl h with ⟨-, h⟩ | ⟨-, h⟩
                · skip
                  rcases mjSpl h with ⟨e, h⟩ | ⟨-, h⟩
                  · cases Nat.eq_of_beq_eq_true e
                    cases (show some mjM_153 = some M from hM)
                    exact mjK_153 h
                  · cases h
                · skip
                  rcases mjSpl h with ⟨-, h⟩ | ⟨-, h⟩
                  · skip
                    rcases mjSpl h with ⟨e, h⟩ | ⟨-, h⟩
                    · cases Nat.eq_of_beq_eq_true e
                      cases (show some mjM_154 = some M from hM)
                      exact mjK_154 h
                    · cases h
                  · skip
                    rcases mjSpl h with ⟨e, h⟩ | ⟨-, h⟩
                    · cases Nat.eq_of_beq_eq_true e
                      cases (show some mjM_155 = some M from hM)
                      exact mjK_155 h
                    · cases h
  · skip
    rcases mjSpl h with ⟨-, h⟩ | ⟨-, h⟩
    · skip
      rcases mjSpl h with ⟨-, h⟩ | ⟨-, h⟩
      · skip
        rcases mjSpl h with ⟨-, h⟩ | ⟨-, h⟩
        · skip
          rcases mjSpl h with ⟨-, h⟩ | ⟨-, h⟩
          · skip
            rcases mjSpl h with ⟨-, h⟩ | ⟨-, h⟩
            · skip
              rcases mjSpl h with ⟨-, h⟩ | ⟨-, h⟩
              · skip
                rcases mjSpl h with ⟨-, h⟩ | ⟨-, h⟩
                · skip
                  rcases mjSpl h with ⟨e, h⟩ | ⟨-, h⟩
                  · cases Nat.eq_of_beq_eq_true e
                    cases (show some mjM_156 = some M from hM)
                    exact mjK_156 h
                  · cases h
                · skip
                  rcases mjSpl h with ⟨e, h⟩ | ⟨-, h⟩
                  · cases Nat.eq_of_beq_eq_true e
                    cases (show some mjM_157 = some M from hM)
                    exact mjK_157 h
                  · cases h
              · skip
                rcases mjSpl h with ⟨-, h⟩ | ⟨-, h⟩
                · skip
                  rcases mjSpl h with ⟨e, h⟩ | ⟨-, h⟩
                  · cases Nat.eq_of_beq_eq_true e
                    cases (show some mjM_158 = some M from hM)
                    exact mjK_158 h
                  · cases h
                · skip
                  rcases mjSpl h with ⟨e, h⟩ | ⟨-, h⟩
                  · cases Nat.eq_of_beq_eq_true e
                    cases (show some mjM_159 = some M from hM)
                    exact mjK_159 h
                  · cases h
            · skip
              rcases mjSpl h with ⟨-, h⟩ | ⟨-, h⟩
              · skip
                rcases mjSpl h with ⟨-, h⟩ | ⟨-, h⟩
                · skip
                  rcases mjSpl h with ⟨e, h⟩ | ⟨-, h⟩
                  · cases Nat.eq_of_beq_eq_true e
                    cases (show some mjM_160 = some M from hM)
                    exact mjK_160 h
                  · cases h
                · skip
                  rcases mjSpl h with ⟨e, h⟩ | ⟨-, h⟩
                  · cases Nat.eq_of_beq_eq_true e
                    cases (show some mjM_161 = some M from hM)
                    exact mjK_161 h
                  · cases h
              · skip
                rcases mjSpl h with ⟨-, h⟩ | ⟨-, h⟩
                · skip
                  rcases mjSpl h with ⟨e, h⟩ | ⟨-, h⟩
                  · cases Nat.eq_of_beq_eq_true e
                    cases (show some mjM_162 = some M from hM)
                    exact mjK_162 h
                  · cases h
                · skip
                  rcases mjSpl h with ⟨-, h⟩ | ⟨-, h⟩
                  · skip
                    rcases mjSpl h with ⟨e, h⟩ | ⟨-, h⟩
                    · cases Nat.eq_of_beq_eq_true e
                      cases (show some mjM_163 = some M from hM)
                      exact mjK_163 h
                    · cases h
                  · skip
                    rcases mjSpl h with ⟨e, h⟩ | ⟨-, h⟩
                    · cases Nat.eq_of_beq_eq_true e
                      cases (show some mjM_164 = some M from hM)
                      exact mjK_164 h
                    · cases h
          · skip
            rcases mjSpl h with ⟨-, h⟩ | ⟨-, h⟩
            · skip
              rcases mjSpl h with ⟨-, h⟩ | ⟨-, h⟩
              · skip
                rcases mjSpl h with ⟨-, h⟩ | ⟨-, h⟩
                · skip
                  rcases mjSpl h with ⟨e, h⟩ | ⟨-, h⟩
                  · cases Nat.eq_of_beq_eq_true e
                    cases (show some mjM_165 = some M from hM)
                    exact mjK_165 h
                  · cases h
                · skip
                  rcases mjSpl h with ⟨e, h⟩ | ⟨-, h⟩
                  · cases Nat.eq_of_beq_eq_true e
                    cases (show some mjM_166 = some M from hM)
                    exact mjK_166 h
                  · cases h
              · skip
                rcases mjSpl h with ⟨-, h⟩ | ⟨-, h⟩
                · skip
                  rcases mjSpl h with ⟨e, h⟩ | ⟨-, h⟩
                  · cases Nat.eq_of_beq_eq_true e
                    cases (show some mjM_167 = some M from hM)
                    exact mjK_167 h
                  · cases h
                · skip
                  rcases mjSpl h with ⟨-, h⟩ | ⟨-, h⟩
                  · skip
                    rcases mjSpl h with ⟨e, h⟩ | ⟨-, h⟩
                    · cases Nat.eq_of_beq_eq_true e
                      cases (show some mjM_168 = some M from hM)
                      exact mjK_168 h
                    · cases h
                  · skip
                    rcases mjSpl h with ⟨e, h⟩ | ⟨-, h⟩
                    · cases Nat.eq_of_beq_eq_true e
                      cases (show some mjM_169 = some M from hM)
                      exact mjK_169 h
                    · cases h
            · skip
              rcases mjSpl h with ⟨-, h⟩ | ⟨-, h⟩
              · skip
                rcases mjSpl h with ⟨-, h⟩ | ⟨-, h⟩
                · skip
                  rcases mjSpl h with ⟨e, h⟩ | ⟨-, h⟩
                  · cases Nat.eq_of_beq_eq_true e
                    cases (show some mjM_170 = some M from hM)
                    exact mjK_170 h
                  · cases h
                · skip
                  rcases mjSpl h with ⟨e, h⟩ | ⟨-, h⟩
                  · cases Nat.eq_of_beq_eq_true e
                    cases (show some mjM_171 = some M from hM)
                    exact mjK_171 h
                  · cases h
              · skip
                rcases mjSpl h with ⟨-, h⟩ | ⟨-, h⟩
                · skip
                  rcases mjSpl h with ⟨e, h⟩ | ⟨-, h⟩
                  · cases Nat.eq_of_beq_eq_true e
                    cases (show some mjM_172 = some M from hM)
                    exact mjK_172 h
                  · cases h
                · skip
                  rcases mjSpl h with ⟨-, h⟩ | ⟨-, h⟩
                  · skip
                    rcases mjSpl h with ⟨e, h⟩ | ⟨-, h⟩
                    · cases Nat.eq_of_beq_eq_true e
                      cases (show some mjM_173 = some M from hM)
                      exact mjK_173 h
                    · cases h
                  · skip
                    rcases mjSpl h with ⟨e, h⟩ | ⟨-, h⟩
                    · cases Nat.eq_of_beq_eq_true e
                      cases (show some mjM_174 = some M from hM)
                      exact mjK_174 h
                    · cases h
        · skip
          rcases mjSpl h with ⟨-, h⟩ | ⟨-, h⟩
          · skip
            rcases mjSpl h with ⟨-, h⟩ | ⟨-, h⟩
            · skip
              rcases mjSpl h with ⟨-, h⟩ | ⟨-, h⟩
              · skip
                rcases mjSpl h with ⟨-, h⟩ | ⟨-, h⟩
                · skip
                  rcases mjSpl h with ⟨e, h⟩ | ⟨-, h⟩
                  · cases Nat.eq_of_beq_eq_true e
                    cases (show some mjM_175 = some M from hM)
                    exact mjK_175 h
                  · cases h
                · skip
                  rcases mjSpl h with ⟨e, h⟩ | ⟨-, h⟩
                  · cases Nat.eq_of_beq_eq_true e
                    cases (show some mjM_176 = some M from hM)
                    exact mjK_176 h
                  · cases h
              · skip
                rcases mjSpl h with ⟨-, h⟩ | ⟨-, h⟩
                · skip
                  rcases mjSpl h with ⟨e, h⟩ | ⟨-, h⟩
                  · cases Nat.eq_of_beq_eq_true e
                    cases (show some mjM_177 = some M from hM)
                    exact mjK_177 h
                  · cases h
                · skip
                  rcases mjSpl h with ⟨-, h⟩ | ⟨-, h⟩
                  · skip
                    rcases mjSpl h with ⟨e, h⟩ | ⟨-, h⟩
                    · cases Nat.eq_of_beq_eq_true e
                      cases (show some mjM_178 = some M from hM)
                      exact mjK_178 h
                    · cases h
                  · skip
                    rcases mjSpl h with ⟨e, h⟩ | ⟨-, h⟩
                    · cases Nat.eq_of_beq_eq_true e
                      cases (show some mjM_179 = some M from hM)
                      exact mjK_179 h
                    · cases h
            · skip
              rcases mjSpl h with ⟨-, h⟩ | ⟨-, h⟩
              · skip
                rcases mjSpl h with ⟨-, h⟩ | ⟨-, h⟩
                · skip
                  rcases mjSpl h with ⟨e, h⟩ | ⟨-, h⟩
                  · cases Nat.eq_of_beq_eq_true e
                    cases (show some mjM_180 = some M from hM)
                    exact mjK_180 h
                  · cases h
                · skip
                  rcases mjSpl h with ⟨e, h⟩ | ⟨-, h⟩
                  · cases Nat.eq_of_beq_eq_true e
                    cases (show some mjM_181 = some M from hM)
                    exact mjK_181 h
                  · cases h
              · skip
                rcases mjSpl h with ⟨-, h⟩ | ⟨-, h⟩
                · skip
                  rcases mjSpl h with ⟨e, h⟩ | ⟨-, h⟩
                  · cases Nat.eq_of_beq_eq_true e
                    cases (show some mjM_182 = some M from hM)
                    exact mjK_182 h
                  · cases h
                · skip
                  rcases mjSpl h with ⟨-, h⟩ | ⟨-, h⟩
                  · skip
                    rcases mjSpl h with ⟨e, h⟩ | ⟨-, h⟩
                    · cases Nat.eq_of_beq_eq_true e
                      cases (show some mjM_183 = some M from hM)
                      exact mjK_183 h
                    · cases h
                  · skip
                    rcases mjSpl h with ⟨e, h⟩ | ⟨-, h⟩
                    · cases Nat.eq_of_beq_eq_true e
                      cases (show some mjM_184 = some M from hM)
                      exact mjK_184 h
                    · cases h
          · skip
            rcases mjSpl h with ⟨-, h⟩ | ⟨-, h⟩
            · skip
              rcases mjSpl h with ⟨-, h⟩ | ⟨-, h⟩
              · skip
                rcases mjSpl h with ⟨-, h⟩ | ⟨-, h⟩
                · skip
                  rcases mjSpl h with ⟨e, h⟩ | ⟨-, h⟩
                  · cases Nat.eq_of_beq_eq_true e
                    cases (show some mjM_185 = some M from hM)
                    exact mjK_185 h
                  · cases h
                · skip
                  rcases mjSpl h with ⟨e, h⟩ | ⟨-, h⟩
                  · cases Nat.eq_of_beq_eq_true e
                    cases (show some mjM_186 = some M from hM)
                    exact mjK_186 h
                  · cases h
              · skip
                rcases mjSpl h with ⟨-, h⟩ | ⟨-, h⟩
                · skip
                  rcases mjSpl h with ⟨e, h⟩ | ⟨-, h⟩
                  · cases Nat.eq_of_beq_eq_true e
                    cases (show some mjM_187 = some M from hM)
                    exact mjK_187 h
                  · cases h
                · skip
                  rcases mjSpl h with ⟨-, h⟩ | ⟨-, h⟩
                  · skip
                    rcases mjSpl h with ⟨e, h⟩ | ⟨-, h⟩
                    · cases Nat.eq_of_beq_eq_true e
                      cases (show some mjM_188 = some M from hM)
                      exact mjK_188 h
                    · cases h
                  · skip
                    rcases mjSpl h with ⟨e, h⟩ | ⟨-, h⟩
                    · cases Nat.eq_of_beq_eq_true e
                      cases (show some mjM_189 = some M from hM)
                      exact mjK_189 h
                    · cases h
            · skip
              rcases mjSpl h with ⟨-, h⟩ | ⟨-, h⟩
              · skip
                rcases mjSpl h with ⟨-, h⟩ | ⟨-, h⟩
                · skip
                  rcases mjSpl h with ⟨e, h⟩ | ⟨-, h⟩
                  · cases Nat.eq_of_beq_eq_true e
                    cases (show some mjM_190 = some M from hM)
                    exact mjK_190 h
                  · cases h
                · skip
                  rcases mjSpl h with ⟨e, h⟩ | ⟨-, h⟩
                  · cases Nat.eq_of_beq_eq_true e
                    cases (show some mjM_191 = some M from hM)
                    exact mjK_191 h
                  · cases h
              · skip
                rcases mjSpl h with ⟨-, h⟩ | ⟨-, h⟩
                · skip
                  rcases mjSpl h with ⟨e, h⟩ | ⟨-, h⟩
                  · cases Nat.eq_of_beq_eq_true e
                    cases (show some mjM_192 = some M from hM)
                    exact mjK_192 h
                  · cases h
                · skip
                  rcases mjSpl h with ⟨-, h⟩ | ⟨-, h⟩
                  · skip
                    rcases mjSpl h with ⟨e, h⟩ | ⟨-, h⟩
                    · cases Nat.eq_of_beq_eq_true e
                      cases (show some mjM_193 = some M from hM)
                      exact mjK_193 h
                    · cases h
                  · skip
                    rcases mjSpl h with ⟨e, h⟩ | ⟨-, h⟩
                    · cases Nat.eq_of_beq_eq_true e
                      cases (show some mjM_194 = some M from hM)
                      exact mjK_194 h
                    · cases h
      · skip
        rcases mjSpl h with ⟨-, h⟩ | ⟨-, h⟩
        · skip
          rcases mjSpl h with ⟨-, h⟩ | ⟨-, h⟩
          · skip
            rcases mjSpl h with ⟨-, h⟩ | ⟨-, h⟩
            · skip
              rcases mjSpl h with ⟨-, h⟩ | ⟨-, h⟩
              · skip
                rcases mjSpl h with ⟨-, h⟩ | ⟨-, h⟩
                · skip
                  rcases mjSpl h with ⟨e, h⟩ | ⟨-, h⟩
                  · cases Nat.eq_of_beq_eq_true e
                    cases (show some mjM_195 = some M from hM)
                    exact mjK_195 h
                  · cases h
                · skip
                  rcases mjSpl h with ⟨e, h⟩ | ⟨-, h⟩
                  · cases Nat.eq_of_beq_eq_true e
                    cases (show some mjM_196 = some M from hM)
                    exact mjK_196 h
                  · cases h
              · skip
                rcases mjSpl h with ⟨-, h⟩ | ⟨-, h⟩
                · skip
                  rcases mjSpl h with ⟨e, h⟩ | ⟨-, h⟩
                  · cases Nat.eq_of_beq_eq_true e
                    cases (show some mjM_197 = some M from hM)
                    exact mjK_197 h
                  · cases h
                · skip
                  rcases mjSpl h with ⟨e, h⟩ | ⟨-, h⟩
                  · cases Nat.eq_of_beq_eq_true e
                    cases (show some mjM_198 = some M from hM)
                    exact mjK_198 h
                  · cases h
            · skip
              rcases mjSpl h with ⟨-, h⟩ | ⟨-, h⟩
              · skip
                rcases mjSpl h with ⟨-, h⟩ | ⟨-, h⟩
                · skip
                  rcases mjSpl h with ⟨e, h⟩ | ⟨-, h⟩
                  · cases Nat.eq_of_beq_eq_true e
                    cases (show some mjM_199 = some M from hM)
                    exact mjK_199 h
                  · cases h
                · skip
                  rcases mjSpl h with ⟨e, h⟩ | ⟨-, h⟩
                  · cases Nat.eq_of_beq_eq_true e
                    cases (show some mjM_200 = some M from hM)
                    exact mjK_200 h
                  · cases h
              · skip
                rcases mjSpl h with ⟨-, h⟩ | ⟨-, h⟩
                · skip
                  rcases mjSpl h with ⟨e, h⟩ | ⟨-, h⟩
                  · cases Nat.eq_of_beq_eq_true e
                    cases (show some mjM_201 = some M from hM)
                    exact mjK_201 h
                  · cases h
                · skip
                  rcases mjSpl h with ⟨-, h⟩ | ⟨-, h⟩
                  · skip
                    rcases mjSpl h with ⟨e, h⟩ | ⟨-, h⟩
                    · cases Nat.eq_of_beq_eq_true e
                      cases (show some mjM_202 = some M from hM)
                      exact mjK_202 h
                    · cases h
                  · skip
                    rcases mjSpl h with ⟨e, h⟩ | ⟨-, h⟩
                    · cases Nat.eq_of_beq_eq_true e
                      cases (show some mjM_203 = some M from hM)
                      exact mjK_203 h
                    · cases h
          · skip
            rcases mjSpl h with ⟨-, h⟩ | ⟨-, h⟩
            · skip
              rcases mjSpl h with ⟨-, h⟩ | ⟨-, h⟩
              · skip
                rcases mjSpl h with ⟨-, h⟩ | ⟨-, h⟩
                · skip
                  rcases mjSpl h with ⟨e, h⟩ | ⟨-, h⟩
                  · cases Nat.eq_of_beq_eq_true e
                    cases (show some mjM_204 = some M from hM)
                    exact mjK_204 h
                  · cases h
                · skip
                  rcases mjSpl h with ⟨e, h⟩ | ⟨-, h⟩
                  · cases Nat.eq_of_beq_eq_true e
                    cases (show some mjM_205 = some M from hM)
                    exact mjK_205 h
                  · cases h
              · skip
                rcases mjSpl h with ⟨-, h⟩ | ⟨-, h⟩
                · skip
                  rcases mjSpl h with ⟨e, h⟩ | ⟨-, h⟩
                  · cases Nat.eq_of_beq_eq_true e
                    cases (show some mjM_206 = some M from hM)
                    exact mjK_206 h
                  · cases h
                · skip
                  rcases mjSpl h with ⟨-, h⟩ | ⟨-, h⟩
                  · skip
                    rcases mjSpl h with ⟨e, h⟩ | ⟨-, h⟩
                    · cases Nat.eq_of_beq_eq_true e
                      cases (show some mjM_207 = some M from hM)
                      exact mjK_207 h
                    · cases h
                  · skip
                    rcases mjSpl h with ⟨e, h⟩ | ⟨-, h⟩
                    · cases Nat.eq_of_beq_eq_true e
                      cases (show some mjM_208 = some M from hM)
                      exact mjK_208 h
                    · cases h
            · skip
              rcases mjSpl h with ⟨-, h⟩ | ⟨-, h⟩
              · skip
                rcases mjSpl h with ⟨-, h⟩ | ⟨-, h⟩
                · skip
                  rcases mjSpl h with ⟨e, h⟩ | ⟨-, h⟩
                  · cases Nat.eq_of_beq_eq_true e
                    cases (show some mjM_209 = some M from hM)
                    exact mjK_209 h
                  · cases h
                · skip
                  rcases mjSpl h with ⟨e, h⟩ | ⟨-, h⟩
                  · cases Nat.eq_of_beq_eq_true e
                    cases (show some mjM_210 = some M from hM)
                    exact mjK_210 h
                  · cases h
              · skip
                rcases mjSpl h with ⟨-, h⟩ | ⟨-, h⟩
                · skip
                  rcases mjSpl h with ⟨e, h⟩ | ⟨-, h⟩
                  · cases Nat.eq_of_beq_eq_true e
                    cases (show some mjM_211 = some M from hM)
                    exact mjK_211 h
                  · cases h
                · skip
                  rcases mjSpl h with ⟨-, h⟩ | ⟨-, h⟩
                  · skip
                    rcases mjSpl h with ⟨e, h⟩ | ⟨-, h⟩
                    · cases Nat.eq_of_beq_eq_true e
                      cases (show some mjM_212 = some M from hM)
                      exact mjK_212 h
                    · cases h
                  · skip
                    rcases mjSpl h with ⟨e, h⟩ | ⟨-, h⟩
                    · cases Nat.eq_of_beq_eq_true e
                      cases (show some mjM_213 = some M from hM)
                      exact mjK_213 h
                    · cases h
        · skip
          rcases mjSpl h with ⟨-, h⟩ | ⟨-, h⟩
          · skip
            rcases mjSpl h with ⟨-, h⟩ | ⟨-, h⟩
            · skip
              rcases mjSpl h with ⟨-, h⟩ | ⟨-, h⟩
              · skip
                rcases mjSpl h with ⟨-, h⟩ | ⟨-, h⟩
                · skip
                  rcases mjSpl h with ⟨e, h⟩ | ⟨-, h⟩
                  · cases Nat.eq_of_beq_eq_true e
                    cases (show some mjM_214 = some M from hM)
                    exact mjK_214 h
                  · cases h
                · skip
                  rcases mjSpl h with ⟨e, h⟩ | ⟨-, h⟩
                  · cases Nat.eq_of_beq_eq_true e
                    cases (show some mjM_215 = some M from hM)
                    exact mjK_215 h
                  · cases h
              · skip
                rcases mjSpl h with ⟨-, h⟩ | ⟨-, h⟩
                · skip
                  rcases mjSpl h with ⟨e, h⟩ | ⟨-, h⟩
                  · cases Nat.eq_of_beq_eq_true e
                    cases (show some mjM_216 = some M from hM)
                    exact mjK_216 h
                  · cases h
                · skip
                  rcases mjSpl h with ⟨-, h⟩ | ⟨-, h⟩
                  · skip
                    rcases mjSpl h with ⟨e, h⟩ | ⟨-, h⟩
                    · cases Nat.eq_of_beq_eq_true e
                      cases (show some mjM_217 = some M from hM)
                      exact mjK_217 h
                    · cases h
                  · skip
                    rcases mjSpl h with ⟨e, h⟩ | ⟨-, h⟩
                    · cases Nat.eq_of_beq_eq_true e
                      cases (show some mjM_218 = some M from hM)
                      exact mjK_218 h
                    · cases h
            · skip
              rcases mjSpl h with ⟨-, h⟩ | ⟨-, h⟩
              · skip
                rcases mjSpl h with ⟨-, h⟩ | ⟨-, h⟩
                · skip
                  rcases mjSpl h with ⟨e, h⟩ | ⟨-, h⟩
                  · cases Nat.eq_of_beq_eq_true e
                    cases (show some mjM_219 = some M from hM)
                    exact mjK_219 h
                  · cases h
                · skip
                  rcases mjSpl h with ⟨e, h⟩ | ⟨-, h⟩
                  · cases Nat.eq_of_beq_eq_true e
                    cases (show some mjM_220 = some M from hM)
                    exact mjK_220 h
                  · cases h
              · skip
                rcases mjSpl h with ⟨-, h⟩ | ⟨-, h⟩
                · skip
                  rcases mjSpl h with ⟨e, h⟩ | ⟨-, h⟩
                  · cases Nat.eq_of_beq_eq_true e
                    cases (show some mjM_221 = some M from hM)
                    exact mjK_221 h
                  · cases h
                · skip
                  rcases mjSpl h with ⟨-, h⟩ | ⟨-, h⟩
                  · skip
                    rcases mjSpl h with ⟨e, h⟩ | ⟨-, h⟩
                    · cases Nat.eq_of_beq_eq_true e
                      cases (show some mjM_222 = some M from hM)
                      exact mjK_222 h
                    · cases h
                  · skip
                    rcases mjSpl h with ⟨e, h⟩ | ⟨-, h⟩
                    · cases Nat.eq_of_beq_eq_true e
                      cases (show some mjM_223 = some M from hM)
                      exact mjK_223 h
                    · cases h
          · skip
            rcases mjSpl h with ⟨-, h⟩ | ⟨-, h⟩
            · skip
              rcases mjSpl h with ⟨-, h⟩ | ⟨-, h⟩
              · skip
                rcases mjSpl h with ⟨-, h⟩ | ⟨-, h⟩
                · skip
                  rcases mjSpl h with ⟨e, h⟩ | ⟨-, h⟩
                  · cases Nat.eq_of_beq_eq_true e
                    cases (show some mjM_224 = some M from hM)
                    exact mjK_224 h
                  · cases h
                · skip
                  rcases mjSpl h with ⟨e, h⟩ | ⟨-, h⟩
                  · cases Nat.eq_of_beq_eq_true e
                    cases (show some mjM_225 = some M from hM)
                    exact mjK_225 h
                  · cases h
              · skip
                rcases mjSpl h with ⟨-, h⟩ | ⟨-, h⟩
                · skip
                  rcases mjSpl h with ⟨e, h⟩ | ⟨-, h⟩
                  · cases Nat.eq_of_beq_eq_true e
                    cases (show some mjM_226 = some M from hM)
                    exact mjK_226 h
                  · cases h
                · skip
                  rcases mjSpl h with ⟨-, h⟩ | ⟨-, h⟩
                  · skip
                    rcases mjSpl h with ⟨e, h⟩ | ⟨-, h⟩
                    · cases Nat.eq_of_beq_eq_true e
                      cases (show some mjM_227 = some M from hM)
                      exact mjK_227 h
                    · cases h
                  · skip
                    rcases mjSpl h with ⟨e, h⟩ | ⟨-, h⟩
                    · cases Nat.eq_of_beq_eq_true e
                      cases (show some mjM_228 = some M from hM)
                      exact mjK_228 h
                    · cases h
            · skip
              rcases mjSpl h with ⟨-, h⟩ | ⟨-, h⟩
              · skip
                rcases mjSpl h with ⟨-, h⟩ | ⟨-, h⟩
                · skip
                  rcases mjSpl h with ⟨e, h⟩ | ⟨-, h⟩
                  · cases Nat.eq_of_beq_eq_true e
                    cases (show some mjM_229 = some M from hM)
                    exact mjK_229 h
                  · cases h
                · skip
                  rcases mjSpl h with ⟨e, h⟩ | ⟨-, h⟩
                  · cases Nat.eq_of_beq_eq_true e
                    cases (show some mjM_230 = some M from hM)
                    exact mjK_230 h
                  · cases h
              · skip
                rcases mjSpl h with ⟨-, h⟩ | ⟨-, h⟩
                · skip
                  rcases mjSpl h with ⟨e, h⟩ | ⟨-, h⟩
                  · cases Nat.eq_of_beq_eq_true e
                    cases (show some mjM_231 = some M from hM)
                    exact mjK_231 h
                  · cases h
                · skip
                  rcases mjSpl h with ⟨-, h⟩ | ⟨-, h⟩
                  · skip
                    rcases mjSpl h with ⟨e, h⟩ | ⟨-, h⟩
                    · cases Nat.eq_of_beq_eq_true e
                      cases (show some mjM_232 = some M from hM)
                      exact mjK_232 h
                    · cases h
                  · skip
                    rcases mjSpl h with ⟨e, h⟩ | ⟨-, h⟩
                    · cases Nat.eq_of_beq_eq_true e
                      cases (show some mjM_233 = some M from hM)
                      exact mjK_233 h
                    · cases h
    · skip
      rcases mjSpl h with ⟨-, h⟩ | ⟨-, h⟩
      · skip
        rcases mjSpl h with ⟨-, h⟩ | ⟨-, h⟩
        · skip
          rcases mjSpl h with ⟨-, h⟩ | ⟨-, h⟩
          · skip
            rcases mjSpl h with ⟨-, h⟩ | ⟨-, h⟩
            · skip
              rcases mjSpl h with ⟨-, h⟩ | ⟨-, h⟩
              · skip
                rcases mjSpl h with ⟨-, h⟩ | ⟨-, h⟩
                · skip
                  rcases mjSpl h with ⟨e, h⟩ | ⟨-, h⟩
                  · cases Nat.eq_of_beq_eq_true e
                    cases (show some mjM_234 = some M from hM)
                    exact mjK_234 h
                  · cases h
                · skip
                  rcases mjSpl h with ⟨e, h⟩ | ⟨-, h⟩
                  · cases Nat.eq_of_beq_eq_true e
                    cases (show some mjM_235 = some M from hM)
                    exact mjK_235 h
                  · cases h
              · skip
                rcases mjSpl h with ⟨-, h⟩ | ⟨-, h⟩
                · skip
                  rcases mjSpl h with ⟨e, h⟩ | ⟨-, h⟩
                  · cases Nat.eq_of_beq_eq_true e
                    cases (show some mjM_236 = some M from hM)
                    exact mjK_236 h
                  · cases h
                · skip
                  rcases mjSpl h with ⟨e, h⟩ | ⟨-, h⟩
                  · cases Nat.eq_of_beq_eq_true e
                    cases (show some mjM_237 = some M from hM)
                    exact mjK_237 h
                  · cases h
            · skip
              rcases mjSpl h with ⟨-, h⟩ | ⟨-, h⟩
              · skip
                rcases mjSpl h with ⟨-, h⟩ | ⟨-, h⟩
                · skip
                  rcases mjSpl h with ⟨e, h⟩ | ⟨-, h⟩
                  · cases Nat.eq_of_beq_eq_true e
                    cases (show some mjM_238 = some M from hM)
                    exact mjK_238 h
                  · cases h
                · skip
                  rcases mjSpl h with ⟨e, h⟩ | ⟨-, h⟩
                  · cases Nat.eq_of_beq_eq_true e
                    cases (show some mjM_239 = some M from hM)
                    exact mjK_239 h
                  · cases h
              · skip
                rcases mjSpl h with ⟨-, h⟩ | ⟨-, h⟩
                · skip
                  rcases mjSpl h with ⟨e, h⟩ | ⟨-, h⟩
                  · cases Nat.eq_of_beq_eq_true e
                    cases (show some mjM_240 = some M from hM)
                    exact mjK_240 h
                  · cases h
                · skip
                  rcases mjSpl h with ⟨-, h⟩ | ⟨-, h⟩
                  · skip
                    rcases mjSpl h with ⟨e, h⟩ | ⟨-, h⟩
                    · cases Nat.eq_of_beq_eq_true e
                      cases (show some mjM_241 = some M from hM)
                      exact mjK_241 h
                    · cases h
                  · skip
                    rcases mjSpl h with ⟨e, h⟩ | ⟨-, h⟩
                    · cases Nat.eq_of_beq_eq_true e
                      cases (show some mjM_242 = some M from hM)
                      exact mjK_242 h
                    · cases h
          · skip
            rcases mjSpl h with ⟨-, h⟩ | ⟨-, h⟩
            · skip
              rcases mjSpl h with ⟨-, h⟩ | ⟨-, h⟩
              · skip
                rcases mjSpl h with ⟨-, h⟩ | ⟨-, h⟩
                · skip
                  rcases mjSpl h with ⟨e, h⟩ | ⟨-, h⟩
                  · cases Nat.eq_of_beq_eq_true e
                    cases (show some mjM_243 = some M from hM)
                    exact mjK_243 h
                  · cases h
                · skip
                  rcases mjSpl h with ⟨e, h⟩ | ⟨-, h⟩
                  · cases Nat.eq_of_beq_eq_true e
                    cases (show some mjM_244 = some M from hM)
                    exact mjK_244 h
                  · cases h
              · skip
                rcases mjSpl h with ⟨-, h⟩ | ⟨-, h⟩
                · skip
                  rcases mjSpl h with ⟨e, h⟩ | ⟨-, h⟩
                  · cases Nat.eq_of_beq_eq_true e
                    cases (show some mjM_245 = some M from hM)
                    exact mjK_245 h
                  · cases h
                · skip
                  rcases mjSpl h with ⟨-, h⟩ | ⟨-, h⟩
                  · skip
                    rcases mjSpl h with ⟨e, h⟩ | ⟨-, h⟩
                    · cases Nat.eq_of_beq_eq_true e
                      cases (show some mjM_246 = some M from hM)
                      exact mjK_246 h
                    · cases h
                  · skip
                    rcases mjSpl h with ⟨e, h⟩ | ⟨-, h⟩
                    · cases Nat.eq_of_beq_eq_true e
                      cases (show some mjM_247 = some M from hM)
                      exact mjK_247 h
                    · cases h
            · skip
              rcases mjSpl h with ⟨-, h⟩ | ⟨-, h⟩
              · skip
                rcases mjSpl h with ⟨-, h⟩ | ⟨-, h⟩
                · skip
                  rcases mjSpl h with ⟨e, h⟩ | ⟨-, h⟩
                  · cases Nat.eq_of_beq_eq_true e
                    cases (show some mjM_248 = some M from hM)
                    exact mjK_248 h
                  · cases h
                · skip
                  rcases mjSpl h with ⟨e, h⟩ | ⟨-, h⟩
                  · cases Nat.eq_of_beq_eq_true e
                    cases (show some mjM_249 = some M from hM)
                    exact mjK_249 h
                  · cases h
              · skip
                rcases mjSpl h with ⟨-, h⟩ | ⟨-, h⟩
                · skip
                  rcases mjSpl h with ⟨e, h⟩ | ⟨-, h⟩
                  · cases Nat.eq_of_beq_eq_true e
                    cases (show some mjM_250 = some M from hM)
                    exact mjK_250 h
                  · cases h
                · skip
                  rcases mjSpl h with ⟨-, h⟩ | ⟨-, h⟩
                  · skip
                    rcases mjSpl h with ⟨e, h⟩ | ⟨-, h⟩
                    · cases Nat.eq_of_beq_eq_true e
                      cases (show some mjM_251 = some M from hM)
                      exact mjK_251 h
                    · cases h
                  · skip
                    rcases mjSpl h with ⟨e, h⟩ | ⟨-, h⟩
                    · cases Nat.eq_of_beq_eq_true e
                      cases (show some mjM_252 = some M from hM)
                      exact mjK_252 h
                    · cases h
        · skip
          rcases mjSpl h with ⟨-, h⟩ | ⟨-, h⟩
          · skip
            rcases mjSpl h with ⟨-, h⟩ | ⟨-, h⟩
            · skip
              rcases mjSpl h with ⟨-, h⟩ | ⟨-, h⟩
              · skip
                rcases mjSpl h with ⟨-, h⟩ | ⟨-, h⟩
                · skip
                  rcases mjSpl h with ⟨e, h⟩ | ⟨-, h⟩
                  · cases Nat.eq_of_beq_eq_true e
                    cases (show some mjM_253 = some M from hM)
                    exact mjK_253 h
                  · cases h
                · skip
                  rcases mjSpl h with ⟨e, h⟩ | ⟨-, h⟩
                  · cases Nat.eq_of_beq_eq_true e
                    cases (show some mjM_254 = some M from hM)
                    exact mjK_254 h
                  · cases h
              · skip
                rcases mjSpl h with ⟨-, h⟩ | ⟨-, h⟩
                · skip
                  rcases mjSpl h with ⟨e, h⟩ | ⟨-, h⟩
                  · cases Nat.eq_of_beq_eq_true e
                    cases (show some mjM_255 = some M from hM)
                    exact mjK_255 h
                  · cases h
                · skip
                  rcases mjSpl h with ⟨-, h⟩ | ⟨-, h⟩
                  · skip
                    rcases mjSpl h with ⟨e, h⟩ | ⟨-, h⟩
                    · cases Nat.eq_of_beq_eq_true e
                      cases (show some mjM_256 = some M from hM)
                      exact mjK_256 h
                    · cases h
                  · skip
                    rcases mjSpl h with ⟨e, h⟩ | ⟨-, h⟩
                    · cases Nat.eq_of_beq_eq_true e
                      cases (show some mjM_257 = some M from hM)
                      exact mjK_257 h
                    · cases h
            · skip
              rcases mjSpl h with ⟨-, h⟩ | ⟨-, h⟩
              · skip
                rcases mjSpl h with ⟨-, h⟩ | ⟨-, h⟩
                · skip
                  rcases mjSpl h with ⟨e, h⟩ | ⟨-, h⟩
                  · cases Nat.eq_of_beq_eq_true e
                    cases (show some mjM_258 = some M from hM)
                    exact mjK_258 h
                  · cases h
                · skip
                  rcases mjSpl h with ⟨e, h⟩ | ⟨-, h⟩
                  · cases Nat.eq_of_beq_eq_true e
                    cases (show some mjM_259 = some M from hM)
                    exact mjK_259 h
                  · cases h
              · skip
                rcases mjSpl h with ⟨-, h⟩ | ⟨-, h⟩
                · skip
                  rcases mjSpl h with ⟨e, h⟩ | ⟨-, h⟩
                  · cases Nat.eq_of_beq_eq_true e
                    cases (show some mjM_260 = some M from hM)
                    exact mjK_260 h
                  · cases h
                · skip
                  rcases mjSpl h with ⟨-, h⟩ | ⟨-, h⟩
                  · skip
                    rcases mjSpl h with ⟨e, h⟩ | ⟨-, h⟩
                    · cases Nat.eq_of_beq_eq_true e
                      cases (show some mjM_261 = some M from hM)
                      exact mjK_261 h
                    · cases h
                  · skip
                    rcases mjSpl h with ⟨e, h⟩ | ⟨-, h⟩
                    · cases Nat.eq_of_beq_eq_true e
                      cases (show some mjM_262 = some M from hM)
                      exact mjK_262 h
                    · cases h
          · skip
            rcases mjSpl h with ⟨-, h⟩ | ⟨-, h⟩
            · skip
              rcases mjSpl h with ⟨-, h⟩ | ⟨-, h⟩
              · skip
                rcases mjSpl h with ⟨-, h⟩ | ⟨-, h⟩
                · skip
                  rcases mjSpl h with ⟨e, h⟩ | ⟨-, h⟩
                  · cases Nat.eq_of_beq_eq_true e
                    cases (show some mjM_263 = some M from hM)
                    exact mjK_263 h
                  · cases h
                · skip
                  rcases mjSpl h with ⟨e, h⟩ | ⟨-, h⟩
                  · cases Nat.eq_of_beq_eq_true e
                    cases (show some mjM_264 = some M from hM)
                    exact mjK_264 h
                  · cases h
              · skip
                rcases mjSpl h with ⟨-, h⟩ | ⟨-, h⟩
                · skip
                  rcases mjSpl h with ⟨e, h⟩ | ⟨-, h⟩
                  · cases Nat.eq_of_beq_eq_true e
                    cases (show some mjM_265 = some M from hM)
                    exact mjK_265 h
                  · cases h
                · skip
                  rcases mjSpl h with ⟨-, h⟩ | ⟨-, h⟩
                  · skip
                    rcases mjSpl h with ⟨e, h⟩ | ⟨-, h⟩
                    · cases Nat.eq_of_beq_eq_true e
                      cases (show some mjM_266 = some M from hM)
                      exact mjK_266 h
                    · cases h
                  · skip
                    rcases mjSpl h with ⟨e, h⟩ | ⟨-, h⟩
                    · cases Nat.eq_of_beq_eq_true e
                      cases (show some mjM_267 = some M from hM)
                      exact mjK_267 h
                    · cases h
            · skip
              rcases mjSpl h with ⟨-, h⟩ | ⟨-, h⟩
              · skip
                rcases mjSpl h with ⟨-, h⟩ | ⟨-, h⟩
                · skip
                  rcases mjSpl h with ⟨e, h⟩ | ⟨-, h⟩
                  · cases Nat.eq_of_beq_eq_true e
                    cases (show some mjM_268 = some M from hM)
                    exact mjK_268 h
                  · cases h
                · skip
                  rcases mjSpl h with ⟨e, h⟩ | ⟨-, h⟩
                  · cases Nat.eq_of_beq_eq_true e
                    cases (show some mjM_269 = some M from hM)
                    exact mjK_269 h
                  · cases h
              · skip
                rcases mjSpl h with ⟨-, h⟩ | ⟨-, h⟩
                · skip
                  rcases mjSpl h with ⟨e, h⟩ | ⟨-, h⟩
                  · cases Nat.eq_of_beq_eq_true e
                    cases (show some mjM_270 = some M from hM)
                    exact mjK_270 h
                  · cases h
                · skip
                  rcases mjSpl h with ⟨-, h⟩ | ⟨-, h⟩
                  · skip
                    rcases mjSpl h with ⟨e, h⟩ | ⟨-, h⟩
                    · cases Nat.eq_of_beq_eq_true e
                      cases (show some mjM_271 = some M from hM)
                      exact mjK_271 h
                    · cases h
                  · skip
                    rcases mjSpl h with ⟨e, h⟩ | ⟨-, h⟩
                    · cases Nat.eq_of_beq_eq_true e
                      cases (show some mjM_272 = some M from hM)
                      exact mjK_272 h
                    · cases h
      · skip
        rcases mjSpl h with ⟨-, h⟩ | ⟨-, h⟩
        · skip
          rcases mjSpl h with ⟨-, h⟩ | ⟨-, h⟩
          · skip
            rcases mjSpl h with ⟨-, h⟩ | ⟨-, h⟩
            · skip
              rcases mjSpl h with ⟨-, h⟩ | ⟨-, h⟩
              · skip
                rcases mjSpl h with ⟨-, h⟩ | ⟨-, h⟩
                · skip
                  rcases mjSpl h with ⟨e, h⟩ | ⟨-, h⟩
                  · cases Nat.eq_of_beq_eq_true e
                    cases (show some mjM_273 = some M from hM)
                    exact mjK_273 h
                  · cases h
                · skip
                  rcases mjSpl h with ⟨e, h⟩ | ⟨-, h⟩
                  · cases Nat.eq_of_beq_eq_true e
                    cases (show some mjM_274 = some M from hM)
                    exact mjK_274 h
                  · cases h
              · skip
                rcases mjSpl h with ⟨-, h⟩ | ⟨-, h⟩
                · skip
                  rcases mjSpl h with ⟨e, h⟩ | ⟨-, h⟩
                  · cases Nat.eq_of_beq_eq_true e
                    cases (show some mjM_275 = some M from hM)
                    exact mjK_275 h
                  · cases h
                · skip
                  rcases mjSpl h with ⟨-, h⟩ | ⟨-, h⟩
                  · skip
                    rcases mjSpl h with ⟨e, h⟩ | ⟨-, h⟩
                    · cases Nat.eq_of_beq_eq_true e
                      cases (show some mjM_276 = some M from hM)
                      exact mjK_276 h
                    · cases h
                  · skip
                    rcases mjSpl h with ⟨e, h⟩ | ⟨-, h⟩
                    · cases Nat.eq_of_beq_eq_true e
                      cases (show some mjM_277 = some M from hM)
                      exact mjK_277 h
                    · cases h
            · skip
              rcases mjSpl h with ⟨-, h⟩ | ⟨-, h⟩
              · skip
                rcases mjSpl h with ⟨-, h⟩ | ⟨-, h⟩
                · skip
                  rcases mjSpl h with ⟨e, h⟩ | ⟨-, h⟩
                  · cases Nat.eq_of_beq_eq_true e
                    cases (show some mjM_278 = some M from hM)
                    exact mjK_278 h
                  · cases h
                · skip
                  rcases mjSpl h with ⟨e, h⟩ | ⟨-, h⟩
                  · cases Nat.eq_of_beq_eq_true e
                    cases (show some mjM_279 = some M from hM)
                    exact mjK_279 h
                  · cases h
              · skip
                rcases mjSpl h with ⟨-, h⟩ | ⟨-, h⟩
                · skip
                  rcases mjSpl h with ⟨e, h⟩ | ⟨-, h⟩
                  · cases Nat.eq_of_beq_eq_true e
                    cases (show some mjM_280 = some M from hM)
                    exact mjK_280 h
                  · cases h
                · skip
                  rcases mjSpl h with ⟨-, h⟩ | ⟨-, h⟩
                  · skip
                    rcases mjSpl h with ⟨e, h⟩ | ⟨-, h⟩
                    · cases Nat.eq_of_beq_eq_true e
                      cases (show some mjM_281 = some M from hM)
                      exact mjK_281 h
                    · cases h
                  · skip
                    rcases mjSpl h with ⟨e, h⟩ | ⟨-, h⟩
                    · cases Nat.eq_of_beq_eq_true e
                      cases (show some mjM_282 = some M from hM)
                      exact mjK_282 h
                    · cases h
          · skip
            rcases mjSpl h with ⟨-, h⟩ | ⟨-, h⟩
            · skip
              rcases mjSpl h with ⟨-, h⟩ | ⟨-, h⟩
              · skip
                rcases mjSpl h with ⟨-, h⟩ | ⟨-, h⟩
                · skip
                  rcases mjSpl h with ⟨e, h⟩ | ⟨-, h⟩
                  · cases Nat.eq_of_beq_eq_true e
                    cases (show some mjM_283 = some M from hM)
                    exact mjK_283 h
                  · cases h
                · skip
                  rcases mjSpl h with ⟨e, h⟩ | ⟨-, h⟩
                  · cases Nat.eq_of_beq_eq_true e
                    cases (show some mjM_284 = some M from hM)
                    exact mjK_284 h
                  · cases h
              · skip
                rcases mjSpl h with ⟨-, h⟩ | ⟨-, h⟩
                · skip
                  rcases mjSpl h with ⟨e, h⟩ | ⟨-, h⟩
                  · cases Nat.eq_of_beq_eq_true e
                    cases (show some mjM_285 = some M from hM)
                    exact mjK_285 h
                  · cases h
                · skip
                  rcases mjSpl h with ⟨-, h⟩ | ⟨-, h⟩
                  · skip
                    rcases mjSpl h with ⟨e, h⟩ | ⟨-, h⟩
                    · cases Nat.eq_of_beq_eq_true e
                      cases (show some mjM_286 = some M from hM)
                      exact mjK_286 h
                    · cases h
                  · skip
                    rcases mjSpl h with ⟨e, h⟩ | ⟨-, h⟩
                    · cases Nat.eq_of_beq_eq_true e
                      cases (show some mjM_287 = some M from hM)
                      exact mjK_287 h
                    · cases h
            · skip
              rcases mjSpl h with ⟨-, h⟩ | ⟨-, h⟩
              · skip
                rcases mjSpl h with ⟨-, h⟩ | ⟨-, h⟩
                · skip
                  rcases mjSpl h with ⟨e, h⟩ | ⟨-, h⟩
                  · cases Nat.eq_of_beq_eq_true e
                    cases (show some mjM_288 = some M from hM)
                    exact mjK_288 h
                  · cases h
                · skip
                  rcases mjSpl h with ⟨e, h⟩ | ⟨-, h⟩
                  · cases Nat.eq_of_beq_eq_true e
                    cases (show some mjM_289 = some M from hM)
                    exact mjK_289 h
                  · cases h
              · skip
                rcases mjSpl h with ⟨-, h⟩ | ⟨-, h⟩
                · skip
                  rcases mjSpl h with ⟨e, h⟩ | ⟨-, h⟩
                  · cases Nat.eq_of_beq_eq_true e
                    cases (show some mjM_290 = some M from hM)
                    exact mjK_290 h
                  · cases h
                · skip
                  rcases mjSpl h with ⟨-, h⟩ | ⟨-, h⟩
                  · skip
                    rcases mjSpl h with ⟨e, h⟩ | ⟨-, h⟩
                    · cases Nat.eq_of_beq_eq_true e
                      cases (show some mjM_291 = some M from hM)
                      exact mjK_291 h
                    · cases h
                  · skip
                    rcases mjSpl h with ⟨e, h⟩ | ⟨-, h⟩
                    · cases Nat.eq_of_beq_eq_true e
                      cases (show some mjM_292 = some M from hM)
                      exact mjK_292 h
                    · cases h
        · skip
          rcases mjSpl h with ⟨-, h⟩ | ⟨-, h⟩
          · skip
            rcases mjSpl h with ⟨-, h⟩ | ⟨-, h⟩
            · skip
              rcases mjSpl h with ⟨-, h⟩ | ⟨-, h⟩
              · skip
                rcases mjSpl h with ⟨-, h⟩ | ⟨-, h⟩
                · skip
                  rcases mjSpl h with ⟨e, h⟩ | ⟨-, h⟩
                  · cases Nat.eq_of_beq_eq_true e
                    cases (show some mjM_293 = some M from hM)
                    exact mjK_293 h
                  · cases h
                · skip
                  rcases mjSpl h with ⟨e, h⟩ | ⟨-, h⟩
                  · cases Nat.eq_of_beq_eq_true e
                    cases (show some mjM_294 = some M from hM)
                    exact mjK_294 h
                  · cases h
              · skip
                rcases mjSpl h with ⟨-, h⟩ | ⟨-, h⟩
                · skip
                  rcases mjSpl h with ⟨e, h⟩ | ⟨-, h⟩
                  · cases Nat.eq_of_beq_eq_true e
                    cases (show some mjM_295 = some M from hM)
                    exact mjK_295 h
                  · cases h
                · skip
                  rcases mjSpl h with ⟨-, h⟩ | ⟨-, h⟩
                  · skip
                    rcases mjSpl h with ⟨e, h⟩ | ⟨-, h⟩
                    · cases Nat.eq_of_beq_eq_true e
                      cases (show some mjM_296 = some M from hM)
                      exact mjK_296 h
                    · cases h
                  · skip
                    rcases mjSpl h with ⟨e, h⟩ | ⟨-, h⟩
                    · cases Nat.eq_of_beq_eq_true e
                      cases (show some mjM_297 = some M from hM)
                      exact mjK_297 h
                    · cases h
            · skip
              rcases mjSpl h with ⟨-, h⟩ | ⟨-, h⟩
              · skip
                rcases mjSpl h with ⟨-, h⟩ | ⟨-, h⟩
                · skip
                  rcases mjSpl h with ⟨e, h⟩ | ⟨-, h⟩
                  · cases Nat.eq_of_beq_eq_true e
                    cases (show some mjM_298 = some M from hM)
                    exact mjK_298 h
                  · cases h
                · skip
                  rcases mjSpl h with ⟨e, h⟩ | ⟨-, h⟩
                  · cases Nat.eq_of_beq_eq_true e
                    cases (show some mjM_299 = some M from hM)
                    exact mjK_299 h
                  · cases h
              · skip
                rcases mjSpl h with ⟨-, h⟩ | ⟨-, h⟩
                · skip
                  rcases mjSpl h with ⟨e, h⟩ | ⟨-, h⟩
                  · cases Nat.eq_of_beq_eq_true e
                    cases (show some mjM_300 = some M from hM)
                    exact mjK_300 h
                  · cases h
                · skip
                  rcases mjSpl h with ⟨-, h⟩ | ⟨-, h⟩
                  · skip
                    rcases mjSpl h with ⟨e, h⟩ | ⟨-, h⟩
                    · cases Nat.eq_of_beq_eq_true e
                      cases (show some mjM_301 = some M from hM)
                      exact mjK_301 h
                    · cases h
                  · skip
                    rcases mjSpl h with ⟨e, h⟩ | ⟨-, h⟩
                    · cases Nat.eq_of_beq_eq_true e
                      cases (show some mjM_302 = some M from hM)
                      exact mjK_302 h
                    · cases h
          · skip
            rcases mjSpl h with ⟨-, h⟩ | ⟨-, h⟩
            · skip
              rcases mjSpl h with ⟨-, h⟩ | ⟨-, h⟩
              · skip
                rcases mjSpl h with ⟨-, h⟩ | ⟨-, h⟩
                · skip
                  rcases mjSpl h with ⟨e, h⟩ | ⟨-, h⟩
                  · cases Nat.eq_of_beq_eq_true e
                    cases (show some mjM_303 = some M from hM)
                    exact mjK_303 h
                  · cases h
                · skip
                  rcases mjSpl h with ⟨e, h⟩ | ⟨-, h⟩
                  · cases Nat.eq_of_beq_eq_true e
                    cases (show some mjM_304 = some M from hM)
                    exact mjK_304 h
                  · cases h
              · skip
                rcases mjSpl h with ⟨-, h⟩ | ⟨-, h⟩
                · skip
                  rcases mjSpl h with ⟨e, h⟩ | ⟨-, h⟩
                  · cases Nat.eq_of_beq_eq_true e
                    cases (show some mjM_305 = some M from hM)
                    exact mjK_305 h
                  · cases h
                · skip
                  rcases mjSpl h with ⟨-, h⟩ | ⟨-, h⟩
                  · skip
                    rcases mjSpl h with ⟨e, h⟩ | ⟨-, h⟩
                    · cases Nat.eq_of_beq_eq_true e
                      cases (show some mjM_306 = some M from hM)
                      exact mjK_306 h
                    · cases h
                  · skip
                    rcases mjSpl h with ⟨e, h⟩ | ⟨-, h⟩
                    · cases Nat.eq_of_beq_eq_true e
                      cases (show some mjM_307 = some M from hM)
                      exact mjK_307 h
                    · cases h
            · skip
              rcases mjSpl h with ⟨-, h⟩ | ⟨-, h⟩
              · skip
                rcases mjSpl h with ⟨-, h⟩ | ⟨-, h⟩
                · skip
                  rcases mjSpl h with ⟨e, h⟩ | ⟨-, h⟩
                  · cases Nat.eq_of_beq_eq_true e
                    cases (show some mjM_308 = some M from hM)
                    exact mjK_308 h
                  · cases h
                · skip
                  rcases mjSpl h with ⟨e, h⟩ | ⟨-, h⟩
                  · cases Nat.eq_of_beq_eq_true e
                    cases (show some mjM_309 = some M from hM)
                    exact mjK_309 h
                  · cases h
              · skip
                rcases mjSpl h with ⟨-, h⟩ | ⟨-, h⟩
                · skip
                  rcases mjSpl h with ⟨e, h⟩ | ⟨-, h⟩
                  · cases Nat.eq_of_beq_eq_true e
                    cases (show some mjM_310 = some M from hM)
                    exact mjK_310 h
                  · cases h
                · skip
                  rcases mjSpl h with ⟨-, h⟩ | ⟨-, h⟩
                  · skip
                    rcases mjSpl h with ⟨e, h⟩ | ⟨-, h⟩
                    · cases Nat.eq_of_beq_eq_true e
                      cases (show some mjM_311 = some M from hM)
                      exact mjK_311 h
                    · cases h
                  · skip
                    rcases mjSpl h with ⟨e, h⟩ | ⟨-, h⟩
                    · cases Nat.eq_of_beq_eq_true e
                      cases (show some mjM_312 = some M from hM)
                      exact mjK_312 h
                    · cases h
set_option maxHeartbeats 4000000 in
set_option maxRecDepth 20000 in
theorem mjOkM0 (y : Nat) (M : MjM) (hy : 0 < y) (h : mjMt y = some M) : mjMOk M = true := by
  unfold mjMt at h
  rcases mjSpl h with ⟨-, h⟩ | ⟨-, h⟩
  · skip
    rcases mjSpl h with ⟨-, h⟩ | ⟨-, h⟩
    · skip
      rcases mjSpl h with ⟨-, h⟩ | ⟨-, h⟩
      · skip
        rcases mjSpl h with ⟨-, h⟩ | ⟨-, h⟩
        · skip
          rcases mjSpl h with ⟨-, h⟩ | ⟨-, h⟩
          · skip
            rcases mjSpl h with ⟨-, h⟩ | ⟨-, h⟩
            · skip
              rcases mjSpl h with ⟨-, h⟩ | ⟨-, h⟩
              · skip
                rcases mjSpl h with ⟨-, h⟩ | ⟨-, h⟩
                · skip
                  rcases mjSpl h with ⟨e, h⟩ | ⟨-, h⟩
                  · cases Nat.eq_of_beq_eq_true e
                    cases h
                    exact absurd hy (by decide)
                  · cases h
                · skip
                  rcases mjSpl h with ⟨e, h⟩ | ⟨-, h⟩
                  · cases Nat.eq_of_beq_eq_true e
                    cases h
                    exact mjN_1
                  · cases h
              · skip
                rcases mjSpl h with ⟨-, h⟩ | ⟨-, h⟩
                · skip
                  rcases mjSpl h with ⟨e, h⟩ | ⟨-, h⟩
                  · cases Nat.eq_of_beq_eq_true e
                    cases h
                    exact mjN_2
                  · cases h
                · skip
                  rcases mjSpl h with ⟨e, h⟩ | ⟨-, h⟩
                  · cases Nat.eq_of_beq_eq_true e
                    cases h
                    exact mjN_3
                  · cases h
            · skip
              rcases mjSpl h with ⟨-, h⟩ | ⟨-, h⟩
              · skip
                rcases mjSpl h with ⟨-, h⟩ | ⟨-, h⟩
                · skip
                  rcases mjSpl h with ⟨e, h⟩ | ⟨-, h⟩
                  · cases Nat.eq_of_beq_eq_true e
                    cases h
                    exact mjN_4
                  · cases h
                · skip
                  rcases mjSpl h with ⟨e, h⟩ | ⟨-, h⟩
                  · cases Nat.eq_of_beq_eq_true e
                    cases h
                    exact mjN_5
                  · cases h
              · skip
                rcases mjSpl h with ⟨-, h⟩ | ⟨-, h⟩
                · skip
                  rcases mjSpl h with ⟨e, h⟩ | ⟨-, h⟩
                  · cases Nat.eq_of_beq_eq_true e
                    cases h
                    exact mjN_6
                  · cases h
                · skip
                  rcases mjSpl h with ⟨-, h⟩ | ⟨-, h⟩
                  · skip
                    rcases mjSpl h with ⟨e, h⟩ | ⟨-, h⟩
                    · cases Nat.eq_of_beq_eq_true e
                      cases h
                      exact mjN_7
                    · cases h
                  · skip
                    rcases mjSpl h with ⟨e, h⟩ | ⟨-, h⟩
                    · cases Nat.eq_of_beq_eq_true e
                      cases h
                      exact mjN_8
                    · cases h
          · skip
            rcases mjSpl h with ⟨-, h⟩ | ⟨-, h⟩
            · skip
              rcases mjSpl h with ⟨-, h⟩ | ⟨-, h⟩
              · skip
                rcases mjSpl h with ⟨-, h⟩ | ⟨-, h⟩
                · skip
                  rcases mjSpl h with ⟨e, h⟩ | ⟨-, h⟩
                  · cases Nat.eq_of_beq_eq_true e
                    cases h
                    exact mjN_9
                  · cases h
                · skip
                  rcases mjSpl h with ⟨e, h⟩ | ⟨-, h⟩
                  · cases Nat.eq_of_beq_eq_true e
                    cases h
                    exact mjN_10
                  · cases h
              · skip
                rcases mjSpl h with ⟨-, h⟩ | ⟨-, h⟩
                · skip
                  rcases mjSpl h with ⟨e, h⟩ | ⟨-, h⟩
                  · cases Nat.eq_of_beq_eq_true e
                    cases h
                    exact mjN_11
                  · cases h
                · skip
                  rcases mjSpl h with ⟨-, h⟩ | ⟨-, h⟩
                  · skip
                    rcases mjSpl h with ⟨e, h⟩ | ⟨-, h⟩
                    · cases Nat.eq_of_beq_eq_true e
                      cases h
                      exact mjN_12
                    · cases h
                  · skip
                    rcases mjSpl h with ⟨e, h⟩ | ⟨-, h⟩
                    · cases Nat.eq_of_beq_eq_true e
                      cases h
                      exact mjN_13
                    · cases h
            · skip
              rcases mjSpl h with ⟨-, h⟩ | ⟨-, h⟩
              · skip
                rcases mjSpl h with ⟨-, h⟩ | ⟨-, h⟩
                · skip
                  rcases mjSpl h with ⟨e, h⟩ | ⟨-, h⟩
                  · cases Nat.eq_of_beq_eq_true e
                    cases h
                    exact mjN_14
                  · cases h
                · skip
                  rcases mjSpl h with ⟨e, h⟩ | ⟨-, h⟩
                  · cases Nat.eq_of_beq_eq_true e
                    cases h
                    exact mjN_15
                  · cases h
              · skip
                rcases mjSpl h with ⟨-, h⟩ | ⟨-, h⟩
                · skip
                  rcases mjSpl h with ⟨e, h⟩ | ⟨-, h⟩
                  · cases Nat.eq_of_beq_eq_true e
                    cases h
                    exact mjN_16
                  · cases h
                · skip
                  rcases mjSpl h with ⟨-, h⟩ | ⟨-, h⟩
                  · skip
                    rcases mjSpl h with ⟨e, h⟩ | ⟨-, h⟩
                    · cases Nat.eq_of_beq_eq_true e
                      cases h
                      exact mjN_17
                    · cases h
                  · skip
                    rcases mjSpl h with ⟨e, h⟩ | ⟨-, h⟩
                    · cases Nat.eq_of_beq_eq_true e
                      cases h
                      exact mjN_18
                    · cases h
        · skip
          rcases mjSpl h with ⟨-, h⟩ | ⟨-, h⟩
          · skip
            rcases mjSpl h with ⟨-, h⟩ | ⟨-, h⟩
            · skip
              rcases mjSpl h with ⟨-, h⟩ | ⟨-, h⟩
              · skip
                rcases mjSpl h with ⟨-, h⟩ | ⟨-, h⟩
                · skip
                  rcases mjSpl h with ⟨e, h⟩ | ⟨-, h⟩
                  · cases Nat.eq_of_beq_eq_true e
                    cases h
                    exact mjN_19
                  · cases h
                · skip
                  rcases mjSpl h with ⟨e, h⟩ | ⟨-, h⟩
                  · cases Nat.eq_of_beq_eq_true e
                    cases h
                    exact mjN_20
                  · cases h
              · skip
                rcases mjSpl h with ⟨-, h⟩ | ⟨-, h⟩
                · skip
                  rcases mjSpl h with ⟨e, h⟩ | ⟨-, h⟩
                  · cases Nat.eq_of_beq_eq_true e
                    cases h
                    exact mjN_21
                  · cases h
                · skip
                  rcases mjSpl h with ⟨-, h⟩ | ⟨-, h⟩
                  · skip
                    rcases mjSpl h with ⟨e, h⟩ | ⟨-, h⟩
                    · cases Nat.eq_of_beq_eq_true e
                      cases h
                      exact mjN_22
                    · cases h
                  · skip
                    rcases mjSpl h with ⟨e, h⟩ | ⟨-, h⟩
                    · cases Nat.eq_of_beq_eq_true e
                      cases h
                      exact mjN_23
                    · cases h
            · skip
              rcases mjSpl h with ⟨-, h⟩ | ⟨-, h⟩
              · skip
                rcases mjSpl h with ⟨-, h⟩ | ⟨-, h⟩
                · skip
                  rcases mjSpl h with ⟨e, h⟩ | ⟨-, h⟩
                  · cases Nat.eq_of_beq_eq_true e
                    cases h
                    exact mjN_24
                  · cases h
                · skip
                  rcases mjSpl h with ⟨e, h⟩ | ⟨-, h⟩
                  · cases Nat.eq_of_beq_eq_true e
                    cases h
                    exact mjN_25
                  · cases h
              · skip
                rcases mjSpl h with ⟨-, h⟩ | ⟨-, h⟩
                · skip
                  rcases mjSpl h with ⟨e, h⟩ | ⟨-, h⟩
                  · cases Nat.eq_of_beq_eq_true e
                    cases h
                    exact mjN_26
                  · cases h
                · skip
                  rcases mjSpl h with ⟨-, h⟩ | ⟨-, h⟩
                  · skip
                    rcases mjSpl h with ⟨e, h⟩ | ⟨-, h⟩
                    · cases Nat.eq_of_beq_eq_true e
                      cases h
                      exact mjN_27
                    · cases h
                  · skip
                    rcases mjSpl h with ⟨e, h⟩ | ⟨-, h⟩
                    · cases Nat.eq_of_beq_eq_true e
                      cases h
                      exact mjN_28
                    · cases h
          · skip
            rcases mjSpl h with ⟨-, h⟩ | ⟨-, h⟩
            · skip
              rcases mjSpl h with ⟨-, h⟩ | ⟨-, h⟩
              · skip
                rcases mjSpl h with ⟨-, h⟩ | ⟨-, h⟩
                · skip
                  rcases mjSpl h with ⟨e, h⟩ | ⟨-, h⟩
                  · cases Nat.eq_of_beq_eq_true e
                    cases h
                    exact mjN_29
                  · cases h
                · skip
                  rcases mjSpl h with ⟨e, h⟩ | ⟨-, h⟩
                  · cases Nat.eq_of_beq_eq_true e
                    cases h
                    exact mjN_30
                  · cases h
              · skip
                rcases mjSpl h with ⟨-, h⟩ | ⟨-, h⟩
                · skip
                  rcases mjSpl h with ⟨e, h⟩ | ⟨-, h⟩
                  · cases Nat.eq_of_beq_eq_true e
                    cases h
                    exact mjN_31
                  · cases h
                · skip
                  rcases mjSpl h with ⟨-, h⟩ | ⟨-, h⟩
                  · skip
                    rcases mjSpl h with ⟨e, h⟩ | ⟨-, h⟩
                    · cases Nat.eq_of_beq_eq_true e
                      cases h
                      exact mjN_32
                    · cases h
                  · skip
                    rcases mjSpl h with ⟨e, h⟩ | ⟨-, h⟩
                    · cases Nat.eq_of_beq_eq_true e
                      cases h
                      exact mjN_33
                    · cases h
            · skip
              rcases mjSpl h with ⟨-, h⟩ | ⟨-, h⟩
              · skip
                rcases mjSpl h with ⟨-, h⟩ | ⟨-, h⟩
                · skip
                  rcases mjSpl h with ⟨e, h⟩ | ⟨-, h⟩
                  · cases Nat.eq_of_beq_eq_true e
                    cases h
                    exact mjN_34
                  · cases h
                · skip
                  rcases mjSpl h with ⟨e, h⟩ | ⟨-, h⟩
                  · cases Nat.eq_of_beq_eq_true e
                    cases h
                    exact mjN_35
                  · cases h
              · skip
                rcases mjSpl h with ⟨-, h⟩ | ⟨-, h⟩
                · skip
                  rcases mjSpl h with ⟨e, h⟩ | ⟨-, h⟩
                  · cases Nat.eq_of_beq_eq_true e
                    cases h
                    exact mjN_36
                  · cases h
                · skip
                  rcases mjSpl h with ⟨-, h⟩ | ⟨-, h⟩
                  · skip
                    rcases mjSpl h with ⟨e, h⟩ | ⟨-, h⟩
                    · cases Nat.eq_of_beq_eq_true e
                      cases h
                      exact mjN_37
                    · cases h
                  · skip
                    rcases mjSpl h with ⟨e, h⟩ | ⟨-, h⟩
                    · cases Nat.eq_of_beq_eq_true e
                      cases h
                      exact mjN_38
                    · cases h
      · skip
        rcases mjSpl h with ⟨-, h⟩ | ⟨-, h⟩
        · skip
          rcases mjSpl h with ⟨-, h⟩ | ⟨-, h⟩
          · skip
            rcases mjSpl h with ⟨-, h⟩ | ⟨-, h⟩
            · skip
              rcases mjSpl h with ⟨-, h⟩ | ⟨-, h⟩
              · skip
                rcases mjSpl h with ⟨-, h⟩ | ⟨-, h⟩
                · skip
                  rcases mjSpl h with ⟨e, h⟩ | ⟨-, h⟩
                  · cases Nat.eq_of_beq_eq_true e
                    cases h
                    exact mjN_39
                  · cases h
                · skip
                  rcases mjSpl h with ⟨e, h⟩ | ⟨-, h⟩
                  · cases Nat.eq_of_beq_eq_true e
                    cases h
                    exact mjN_40
                  · cases h
              · skip
                rcases mjSpl h with ⟨-, h⟩ | ⟨-, h⟩
                · skip
                  rcases mjSpl h with ⟨e, h⟩ | ⟨-, h⟩
                  · cases Nat.eq_of_beq_eq_true e
                    cases h
                    exact mjN_41
                  · cases h
                · skip
                  rcases mjSpl h with ⟨e, h⟩ | ⟨-, h⟩
                  · cases Nat.eq_of_beq_eq_true e
                    cases h
                    exact mjN_42
                  · cases h
            · skip
              rcases mjSpl h with ⟨-, h⟩ | ⟨-, h⟩
              · skip
                rcases mjSpl h with ⟨-, h⟩ | ⟨-, h⟩
                · skip
                  rcases mjSpl h with ⟨e, h⟩ | ⟨-, h⟩
                  · cases Nat.eq_of_beq_eq_true e
                    cases h
                    exact mjN_43
                  · cases h
                · skip
                  rcases mjSpl h with ⟨e, h⟩ | ⟨-, h⟩
                  · cases Nat.eq_of_beq_eq_true e
                    cases h
                    exact mjN_44
                  · cases h
              · skip
                rcases mjSpl h with ⟨-, h⟩ | ⟨-, h⟩
                · skip
                  rcases mjSpl h with ⟨e, h⟩ | ⟨-, h⟩
                  · cases Nat.eq_of_beq_eq_true e
                    cases h
                    exact mjN_45
                  · cases h
                · skip
                  rcases mjSpl h with ⟨-, h⟩ | ⟨-, h⟩
                  · skip
                    rcases mjSpl h with ⟨e, h⟩ | ⟨-, h⟩
                    · cases Nat.eq_of_beq_eq_true e
                      cases h
                      exact mjN_46
                    · cases h
                  · skip
                    rcases mjSpl h with ⟨e, h⟩ | ⟨-, h⟩
                    · cases Nat.eq_of_beq_eq_true e
                      cases h
                      exact mjN_47
                    · cases h
          · skip
            rcases mjSpl h with ⟨-, h⟩ | ⟨-, h⟩
            · skip
              rcases mjSpl h with ⟨-, h⟩ | ⟨-, h⟩
              · skip
                rcases mjSpl h with ⟨-, h⟩ | ⟨-, h⟩
                · skip
                  rcases mjSpl h with ⟨e, h⟩ | ⟨-, h⟩
                  · cases Nat.eq_of_beq_eq_true e
                    cases h
                    exact mjN_48
                  · cases h
                · skip
                  rcases mjSpl h with ⟨e, h⟩ | ⟨-, h⟩
                  · cases Nat.eq_of_beq_eq_true e
                    cases h
                    exact mjN_49
                  · cases h
              · skip
                rcases mjSpl h with ⟨-, h⟩ | ⟨-, h⟩
                · skip
                  rcases mjSpl h with ⟨e, h⟩ | ⟨-, h⟩
                  · cases Nat.eq_of_beq_eq_true e
                    cases h
                    exact mjN_50
                  · cases h
                · skip
                  rcases mjSpl h with ⟨-, h⟩ | ⟨-, h⟩
                  · skip
                    rcases mjSpl h with ⟨e, h⟩ | ⟨-, h⟩
                    · cases Nat.eq_of_beq_eq_true e
                      cases h
                      exact mjN_51
                    · cases h
                  · skip
                    rcases mjSpl h with ⟨e, h⟩ | ⟨-, h⟩
                    · cases Nat.eq_of_beq_eq_true e
                      cases h
                      exact mjN_52
                    · cases h
            · skip
              rcases mjSpl h with ⟨-, h⟩ | ⟨-, h⟩
              · skip
                rcases mjSpl h with ⟨-, h⟩ | ⟨-, h⟩
                · skip
                  rcases mjSpl h with ⟨e, h⟩ | ⟨-, h⟩
                  · cases Nat.eq_of_beq_eq_true e
                    cases h
                    exact mjN_53
                  · cases h
                · skip
                  rcases mjSpl h with ⟨e, h⟩ | ⟨-, h⟩
                  · cases Nat.eq_of_beq_eq_true e
                    cases h
                    exact mjN_54
                  · cases h
              · skip
                rcases mjSpl h with ⟨-, h⟩ | ⟨-, h⟩
                · skip
                  rcases mjSpl h with ⟨e, h⟩ | ⟨-, h⟩
                  · cases Nat.eq_of_beq_eq_true e
                    cases h
                    exact mjN_55
                  · cases h
                · skip
                  rcases mjSpl h with ⟨-, h⟩ | ⟨-, h⟩
                  · skip
                    rcases mjSpl h with ⟨e, h⟩ | ⟨-, h⟩
                    · cases Nat.eq_of_beq_eq_true e
                      cases h
                      exact mjN_56
                    · cases h
                  · skip
                    rcases mjSpl h with ⟨e, h⟩ | ⟨-, h⟩
                    · cases Nat.eq_of_beq_eq_true e
                      cases h
                      exact mjN_57
                    · cases h
        · skip
          rcases mjSpl h with ⟨-, h⟩ | ⟨-, h⟩
          · skip
            rcases mjSpl h with ⟨-, h⟩ | ⟨-, h⟩
            · skip
              rcases mjSpl h with ⟨-, h⟩ | ⟨-, h⟩
              · skip
                rcases mjSpl h with ⟨-, h⟩ | ⟨-, h⟩
                · skip
                  rcases mjSpl h with ⟨e, h⟩ | ⟨-, h⟩
                  · cases Nat.eq_of_beq_eq_true e
                    cases h
                    exact mjN_58
                  · cases h
                · skip
                  rcases mjSpl h with ⟨e, h⟩ | ⟨-, h⟩
                  · cases Nat.eq_of_beq_eq_true e
                    cases h
                    exact mjN_59
                  · cases h
              · skip
                rcases mjSpl h with ⟨-, h⟩ | ⟨-, h⟩
                · skip
                  rcases mjSpl h with ⟨e, h⟩ | ⟨-, h⟩
                  · cases Nat.eq_of_beq_eq_true e
                    cases h
                    exact mjN_60
                  · cases h
                · skip
                  rcases mjSpl h with ⟨-, h⟩ | ⟨-, h⟩
                  · skip
                    rcases mjSpl h with ⟨e, h⟩ | ⟨-, h⟩
                    · cases Nat.eq_of_beq_eq_true e
                      cases h
                      exact mjN_61
                    · cases h
                  · skip
                    rcases mjSpl h with ⟨e, h⟩ | ⟨-, h⟩
                    · cases Nat.eq_of_beq_eq_true e
                      cases h
                      exact mjN_62
                    · cases h
            · skip
              rcases mjSpl h with ⟨-, h⟩ | ⟨-, h⟩
              · skip
                rcases mjSpl h with ⟨-, h⟩ | ⟨-, h⟩
                · skip
                  rcases mjSpl h with ⟨e, h⟩ | ⟨-, h⟩
                  · cases Nat.eq_of_beq_eq_true e
                    cases h
                    exact mjN_63
                  · cases h
                · skip
                  rcases mjSpl h with ⟨e, h⟩ | ⟨-, h⟩
                  · cases Nat.eq_of_beq_eq_true e
                    cases h
                    exact mjN_64
                  · cases h
              · skip
                rcases mjSpl h with ⟨-, h⟩ | ⟨-, h⟩
                · skip
                  rcases mjSpl h with ⟨e, h⟩ | ⟨-, h⟩
                  · cases Nat.eq_of_beq_eq_true e
                    cases h
                    exact mjN_65
                  · cases h
                · skip
                  rcases mjSpl h with ⟨-, h⟩ | ⟨-, h⟩
                  · skip
                    rcases mjSpl h with ⟨e, h⟩ | ⟨-, h⟩
                    · cases Nat.eq_of_beq_eq_true e
                      cases h
                      exact mjN_66
                    · cases h
                  · skip
                    rcases mjSpl h with ⟨e, h⟩ | ⟨-, h⟩
                    · cases Nat.eq_of_beq_eq_true e
                      cases h
                      exact mjN_67
                    · cases h
          · skip
            rcases mjSpl h with ⟨-, h⟩ | ⟨-, h⟩
            · skip
              rcases mjSpl h with ⟨-, h⟩ | ⟨-, h⟩
              · skip
                rcases mjSpl h with ⟨-, h⟩ | ⟨-, h⟩
                · skip
                  rcases mjSpl h with ⟨e, h⟩ | ⟨-, h⟩
                  · cases Nat.eq_of_beq_eq_true e
                    cases h
                    exact mjN_68
                  · cases h
                · skip
                  rcases mjSpl h with ⟨e, h⟩ | ⟨-, h⟩
                  · cases Nat.eq_of_beq_eq_true e
                    cases h
                    exact mjN_69
                  · cases h
              · skip
                rcases mjSpl h with ⟨-, h⟩ | ⟨-, h⟩
                · skip
                  rcases mjSpl h with ⟨e, h⟩ | ⟨-, h⟩
                  · cases Nat.eq_of_beq_eq_true e
                    cases h
                    exact mjN_70
                  · cases h
                · skip
                  rcases mjSpl h with ⟨-, h⟩ | ⟨-, h⟩
                  · skip
                    rcases mjSpl h with ⟨e, h⟩ | ⟨-, h⟩
                    · cases Nat.eq_of_beq_eq_true e
                      cases h
                      exact mjN_71
                    · cases h
                  · skip
                    rcases mjSpl h with ⟨e, h⟩ | ⟨-, h⟩
                    · cases Nat.eq_of_beq_eq_true e
                      cases h
                      exact mjN_72
                    · cases h
            · skip
              rcases mjSpl h with ⟨-, h⟩ | ⟨-, h⟩
              · skip
                rcases mjSpl h with ⟨-, h⟩ | ⟨-, h⟩
                · skip
                  rcases mjSpl h with ⟨e, h⟩ | ⟨-, h⟩
                  · cases Nat.eq_of_beq_eq_true e
                    cases h
                    exact mjN_73
                  · cases h
                · skip
                  rcases mjSpl h with ⟨e, h⟩ | ⟨-, h⟩
                  · cases Nat.eq_of_beq_eq_true e
                    cases h
                    exact mjN_74
                  · cases h
              · skip
                rcases mjSpl h with ⟨-, h⟩ | ⟨-, h⟩
                · skip
                  rcases mjSpl h with ⟨e, h⟩ | ⟨-, h⟩
                  · cases Nat.eq_of_beq_eq_true e
                    cases h
                    exact mjN_75
                  · cases h
                · skip
                  rcases mjSpl h with ⟨-, h⟩ | ⟨-, h⟩
                  · skip
                    rcases mjSpl h with ⟨e, h⟩ | ⟨-, h⟩
                    · cases Nat.eq_of_beq_eq_true e
                      cases h
                      exact mjN_76
                    · cases h
                  · skip
                    rcases mjSpl h with ⟨e, h⟩ | ⟨-, h⟩
                    · cases Nat.eq_of_beq_eq_true e
                      cases h
                      exact mjN_77
                    · cases h
    · skip
      rcases mjSpl h with ⟨-, h⟩ | ⟨-, h⟩
      · skip
        rcases mjSpl h with ⟨-, h⟩ | ⟨-, h⟩
        · skip
          rcases mjSpl h with ⟨-, h⟩ | ⟨-, h⟩
          · skip
            rcases mjSpl h with ⟨-, h⟩ | ⟨-, h⟩
            · skip
              rcases mjSpl h with ⟨-, h⟩ | ⟨-, h⟩
              · skip
                rcases mjSpl h with ⟨-, h⟩ | ⟨-, h⟩
                · skip
                  rcases mjSpl h with ⟨e, h⟩ | ⟨-, h⟩
                  · cases Nat.eq_of_beq_eq_true e
                    cases h
                    exact mjN_78
                  · cases h
                · skip
                  rcases mjSpl h with ⟨e, h⟩ | ⟨-, h⟩
                  · cases Nat.eq_of_beq_eq_true e
                    cases h
                    exact mjN_79
                  · cases h
              · skip
                rcases mjSpl h with ⟨-, h⟩ | ⟨-, h⟩
                · skip
                  rcases mjSpl h with ⟨e, h⟩ | ⟨-, h⟩
                  · cases Nat.eq_of_beq_eq_true e
                    cases h
                    exact mjN_80
                  · cases h
                · skip
                  rcases mjSpl h with ⟨e, h⟩ | ⟨-, h⟩
                  · cases Nat.eq_of_beq_eq_true e
                    cases h
                    exact mjN_81
                  · cases h
            · skip
              rcases mjSpl h with ⟨-, h⟩ | ⟨-, h⟩
              · skip
                rcases mjSpl h with ⟨-, h⟩ | ⟨-, h⟩
                · skip
                  rcases mjSpl h with ⟨e, h⟩ | ⟨-, h⟩
                  · cases Nat.eq_of_beq_eq_true e
                    cases h
                    exact mjN_82
                  · cases h
                · skip
                  rcases mjSpl h with ⟨e, h⟩ | ⟨-, h⟩
                  · cases Nat.eq_of_beq_eq_true e
                    cases h
                    exact mjN_83
                  · cases h
              · skip
                rcases mjSpl h with ⟨-, h⟩ | ⟨-, h⟩
                · skip
                  rcases mjSpl h with ⟨e, h⟩ | ⟨-, h⟩
                  · cases Nat.eq_of_beq_eq_true e
                    cases h
                    exact mjN_84
                  · cases h
                · skip
                  rcases mjSpl h with ⟨-, h⟩ | ⟨-, h⟩
                  · skip
                    rcases mjSpl h with ⟨e, h⟩ | ⟨-, h⟩
                    · cases Nat.eq_of_beq_eq_true e
                      cases h
                      exact mjN_85
                    · cases h
                  · skip
                    rcases mjSpl h with ⟨e, h⟩ | ⟨-, h⟩
                    · cases Nat.eq_of_beq_eq_true e
                      cases h
                      exact mjN_86
                    · cases h
          · skip
            rcases mjSpl h with ⟨-, h⟩ | ⟨-, h⟩
            · skip
              rcases mjSpl h with ⟨-, h⟩ | ⟨-, h⟩
              · skip
                rcases mjSpl h with ⟨-, h⟩ | ⟨-, h⟩
                · skip
                  rcases mjSpl h with ⟨e, h⟩ | ⟨-, h⟩
                  · cases Nat.eq_of_beq_eq_true e
                    cases h
                    exact mjN_87
                  · cases h
                · skip
                  rcases mjSpl h with ⟨e, h⟩ | ⟨-, h⟩
                  · cases Nat.eq_of_beq_eq_true e
                    cases h
                    exact mjN_88
                  · cases h
              · skip
                rcases mjSpl h with ⟨-, h⟩ | ⟨-, h⟩
                · skip
                  rcases mjSpl h with ⟨e, h⟩ | ⟨-, h⟩
                  · cases Nat.eq_of_beq_eq_true e
                    cases h
                    exact mjN_89
                  · cases h
                · skip
                  rcases mjSpl h with ⟨-, h⟩ | ⟨-, h⟩
                  · skip
                    rcases mjSpl h with ⟨e, h⟩ | ⟨-, h⟩
                    · cases Nat.eq_of_beq_eq_true e
                      cases h
                      exact mjN_90
                    · cases h
                  · skip
                    rcases mjSpl h with ⟨e, h⟩ | ⟨-, h⟩
                    · cases Nat.eq_of_beq_eq_true e
                      cases h
                      exact mjN_91
                    · cases h
            · skip
              rcases mjSpl h with ⟨-, h⟩ | ⟨-, h⟩
              · skip
                rcases mjSpl h with ⟨-, h⟩ | ⟨-, h⟩
                · skip
                  rcases mjSpl h with ⟨e, h⟩ | ⟨-, h⟩
                  · cases Nat.eq_of_beq_eq_true e
                    cases h
                    exact mjN_92
                  · cases h
                · skip
                  rcases mjSpl h with ⟨e, h⟩ | ⟨-, h⟩
                  · cases Nat.eq_of_beq_eq_true e
                    cases h
                    exact mjN_93
                  · cases h
              · skip
                rcases mjSpl h with ⟨-, h⟩ | ⟨-, h⟩
                · skip
                  rcases mjSpl h with ⟨e, h⟩ | ⟨-, h⟩
                  · cases Nat.eq_of_beq_eq_true e
                    cases h
                    exact mjN_94
                  · cases h
                · skip
                  rcases mjSpl h with ⟨-, h⟩ | ⟨-, h⟩
                  · skip
                    rcases mjSpl h with ⟨e, h⟩ | ⟨-, h⟩
                    · cases Nat.eq_of_beq_eq_true e
                      cases h
                      exact mjN_95
                    · cases h
                  · skip
                    rcases mjSpl h with ⟨e, h⟩ | ⟨-, h⟩
                    · cases Nat.eq_of_beq_eq_true e
                      cases h
                      exact mjN_96
                    · cases h
        · skip
          rcases mjSpl h with ⟨-, h⟩ | ⟨-, h⟩
          · skip
            rcases mjSpl h with ⟨-, h⟩ | ⟨-, h⟩
            · skip
              rcases mjSpl h with ⟨-, h⟩ | ⟨-, h⟩
              · skip
                rcases mjSpl h with ⟨-, h⟩ | ⟨-, h⟩
                · skip
                  rcases mjSpl h with ⟨e, h⟩ | ⟨-, h⟩
                  · cases Nat.eq_of_beq_eq_true e
                    cases h
                    exact mjN_97
                  · cases h
                · skip
                  rcases mjSpl h with ⟨e, h⟩ | ⟨-, h⟩
                  · cases Nat.eq_of_beq_eq_true e
                    cases h
                    exact mjN_98
                  · cases h
              · skip
                rcases mjSpl h with ⟨-, h⟩ | ⟨-, h⟩
                · skip
                  rcases mjSpl h with ⟨e, h⟩ | ⟨-, h⟩
                  · cases Nat.eq_of_beq_eq_true e
                    cases h
                    exact mjN_99
                  · cases h
                · skip
                  rcases mjSpl h with ⟨-, h⟩ | ⟨-, h⟩
                  · skip
                    rcases mjSpl h with ⟨e, h⟩ | ⟨-, h⟩
                    · cases Nat.eq_of_beq_eq_true e
                      cases h
                      exact mjN_100
                    · cases h
                  · skip
                    rcases mjSpl h with ⟨e, h⟩ | ⟨-, h⟩
                    · cases Nat.eq_of_beq_eq_true e
                      cases h
                      exact mjN_101
                    · cases h
            · skip
              rcases mjSpl h with ⟨-, h⟩ | ⟨-, h⟩
              · skip
                rcases mjSpl h with ⟨-, h⟩ | ⟨-, h⟩
                · skip
                  rcases mjSpl h with ⟨e, h⟩ | ⟨-, h⟩
                  · cases Nat.eq_of_beq_eq_true e
                    cases h
                    exact mjN_102
                  · cases h
                · skip
                  rcases mjSpl h with ⟨e, h⟩ | ⟨-, h⟩
                  · cases Nat.eq_of_beq_eq_true e
                    cases h
                    exact mjN_103
                  · cases h
              · skip
                rcases mjSpl h with ⟨-, h⟩ | ⟨-, h⟩
                · skip
                  rcases mjSpl h with ⟨e, h⟩ | ⟨-, h⟩
                  · cases Nat.eq_of_beq_eq_true e
                    cases h
                    exact mjN_104
                  · cases h
                · skip
                  rcases mjSpl h with ⟨-, h⟩ | ⟨-, h⟩
                  · skip
                    rcases mjSpl h with ⟨e, h⟩ | ⟨-, h⟩
                    · cases Nat.eq_of_beq_eq_true e
                      cases h
                      exact mjN_105
                    · cases h
                  · skip
                    rcases mjSpl h with ⟨e, h⟩ | ⟨-, h⟩
                    · cases Nat.eq_of_beq_eq_true e
                      cases h
                      exact mjN_106
                    · cases h
          · skip
            rcases mjSpl h with ⟨-, h⟩ | ⟨-, h⟩
            · skip
              rcases mjSpl h with ⟨-, h⟩ | ⟨-, h⟩
              · skip
                rcases mjSpl h with ⟨-, h⟩ | ⟨-, h⟩
                · skip
                  rcases mjSpl h with ⟨e, h⟩ | ⟨-, h⟩
                  · cases Nat.eq_of_beq_eq_true e
                    cases h
                    exact mjN_107
                  · cases h
                · skip
                  rcases mjSpl h with ⟨e, h⟩ | ⟨-, h⟩
                  · cases Nat.eq_of_beq_eq_true e
                    cases h
                    exact mjN_108
                  · cases h
              · skip
                rcases mjSpl h with ⟨-, h⟩ | ⟨-, h⟩
                · skip
                  rcases mjSpl h with ⟨e, h⟩ | ⟨-, h⟩
                  · cases Nat.eq_of_beq_eq_true e
                    cases h
                    exact mjN_109
                  · cases h
                · skip
                  rcases mjSpl h with ⟨-, h⟩ | ⟨-, h⟩
                  · skip
                    rcases mjSpl h with ⟨e, h⟩ | ⟨-, h⟩
                    · cases Nat.eq_of_beq_eq_true e
                      cases h
                      exact mjN_110
                    · cases h
                  · skip
                    rcases mjSpl h with ⟨e, h⟩ | ⟨-, h⟩
                    · cases Nat.eq_of_beq_eq_true e
                      cases h
                      exact mjN_111
                    · cases h
            · skip
              rcases mjSpl h with ⟨-, h⟩ | ⟨-, h⟩
              · skip
                rcases mjSpl h with ⟨-, h⟩ | ⟨-, h⟩
                · skip
                  rcases mjSpl h with ⟨e, h⟩ | ⟨-, h⟩
                  · cases Nat.eq_of_beq_eq_true e
                    cases h
                    exact mjN_112
                  · cases h
                · skip
                  rcases mjSpl h with ⟨e, h⟩ | ⟨-, h⟩
                  · cases Nat.eq_of_beq_eq_true e
                    cases h
                    exact mjN_113
                  · cases h
              · skip
                rcases mjSpl h with ⟨-, h⟩ | ⟨-, h⟩
                · skip
                  rcases mjSpl h with ⟨e, h⟩ | ⟨-, h⟩
                  · cases Nat.eq_of_beq_eq_true e
                    cases h
                    exact mjN_114
                  · cases h
                · skip
                  rcases mjSpl h with ⟨-, h⟩ | ⟨-, h⟩
                  · skip
                    rcases mjSpl h with ⟨e, h⟩ | ⟨-, h⟩
                    · cases Nat.eq_of_beq_eq_true e
                      cases h
                      exact mjN_115
                    · cases h
                  · skip
                    rcases mjSpl h with ⟨e, h⟩ | ⟨-, h⟩
                    · cases Nat.eq_of_beq_eq_true e
                      cases h
                      exact mjN_116
                    · cases h
      · skip
        rcases mjSpl h with ⟨-, h⟩ | ⟨-, h⟩
        · skip
          rcases mjSpl h with ⟨-, h⟩ | ⟨-, h⟩
          · skip
            rcases mjSpl h with ⟨-, h⟩ | ⟨-, h⟩
            · skip
              rcases mjSpl h with ⟨-, h⟩ | ⟨-, h⟩
              · skip
                rcases mjSpl h with ⟨-, h⟩ | ⟨-, h⟩
                · skip
                  rcases mjSpl h with ⟨e, h⟩ | ⟨-, h⟩
                  · cases Nat.eq_of_beq_eq_true e
                    cases h
                    exact mjN_117
                  · cases h
                · skip
                  rcases mjSpl h with ⟨e, h⟩ | ⟨-, h⟩
                  · cases Nat.eq_of_beq_eq_true e
                    cases h
                    exact mjN_118
                  · cases h
              · skip
                rcases mjSpl h with ⟨-, h⟩ | ⟨-, h⟩
                · skip
                  rcases mjSpl h with ⟨e, h⟩ | ⟨-, h⟩
                  · cases Nat.eq_of_beq_eq_true e
                    cases h
                    exact mjN_119
                  · cases h
                · skip
                  rcases mjSpl h with ⟨e, h⟩ | ⟨-, h⟩
                  · cases Nat.eq_of_beq_eq_true e
                    cases h
                    exact mjN_120
                  · cases h
            · skip
              rcases mjSpl h with ⟨-, h⟩ | ⟨-, h⟩
              · skip
                rcases mjSpl h with ⟨-, h⟩ | ⟨-, h⟩
                · skip
                  rcases mjSpl h with ⟨e, h⟩ | ⟨-, h⟩
                  · cases Nat.eq_of_beq_eq_true e
                    cases h
                    exact mjN_121
                  · cases h
                · skip
                  rcases mjSpl h with ⟨e, h⟩ | ⟨-, h⟩
                  · cases Nat.eq_of_beq_eq_true e
                    cases h
                    exact mjN_122
                  · cases h
              · skip
                rcases mjSpl h with ⟨-, h⟩ | ⟨-, h⟩
                · skip
                  rcases mjSpl h with ⟨e, h⟩ | ⟨-, h⟩
                  · cases Nat.eq_of_beq_eq_true e
                    cases h
                    exact mjN_123
                  · cases h
                · skip
                  rcases mjSpl h with ⟨-, h⟩ | ⟨-, h⟩
                  · skip
                    rcases mjSpl h with ⟨e, h⟩ | ⟨-, h⟩
                    · cases Nat.eq_of_beq_eq_true e
                      cases h
                      exact mjN_124
                    · cases h
                  · skip
                    rcases mjSpl h with ⟨e, h⟩ | ⟨-, h⟩
                    · cases Nat.eq_of_beq_eq_true e
                      cases h
                      exact mjN_125
                    · cases h
          · skip
            rcases mjSpl h with ⟨-, h⟩ | ⟨-, h⟩
            · skip
              rcases mjSpl h with ⟨-, h⟩ | ⟨-, h⟩
              · skip
                rcases mjSpl h with ⟨-, h⟩ | ⟨-, h⟩
                · skip
                  rcases mjSpl h with ⟨e, h⟩ | ⟨-, h⟩
                  · cases Nat.eq_of_beq_eq_true e
                    cases h
                    exact mjN_126
                  · cases h
                · skip
                  rcases mjSpl h with ⟨e, h⟩ | ⟨-, h⟩
                  · cases Nat.eq_of_beq_eq_true e
                    cases h
                    exact mjN_127
                  · cases h
              · skip
                rcases mjSpl h with ⟨-, h⟩ | ⟨-, h⟩
                · skip
                  rcases mjSpl h with ⟨e, h⟩ | ⟨-, h⟩
                  · cases Nat.eq_of_beq_eq_true e
                    cases h
                    exact mjN_128
                  · cases h
                · skip
                  rcases mjSpl h with ⟨-, h⟩ | ⟨-, h⟩
                  · skip
                    rcases mjSpl h with ⟨e, h⟩ | ⟨-, h⟩
                    · cases Nat.eq_of_beq_eq_true e
                      cases h
                      exact mjN_129
                    · cases h
                  · skip
                    rcases mjSpl h with ⟨e, h⟩ | ⟨-, h⟩
                    · cases Nat.eq_of_beq_eq_true e
                      cases h
                      exact mjN_130
                    · cases h
            · skip
              rcases mjSpl h with ⟨-, h⟩ | ⟨-, h⟩
              · skip
                rcases mjSpl h with ⟨-, h⟩ | ⟨-, h⟩
                · skip
                  rcases mjSpl h with ⟨e, h⟩ | ⟨-, h⟩
                  · cases Nat.eq_of_beq_eq_true e
                    cases h
                    exact mjN_131
                  · cases h
                · skip
                  rcases mjSpl h with ⟨e, h⟩ | ⟨-, h⟩
                  · cases Nat.eq_of_beq_eq_true e
                    cases h
                    exact mjN_132
                  · cases h
              · skip
                rcases mjSpl h with ⟨-, h⟩ | ⟨-, h⟩
                · skip
                  rcases mjSpl h with ⟨e, h⟩ | ⟨-, h⟩
                  · cases Nat.eq_of_beq_eq_true e
                    cases h
                    exact mjN_133
                  · cases h
                · skip
                  rcases mjSpl h with ⟨-, h⟩ | ⟨-, h⟩
                  · skip
                    rcases mjSpl h with ⟨e, h⟩ | ⟨-, h⟩
                    · cases Nat.eq_of_beq_eq_true e
                      cases h
                      exact mjN_134
                    · cases h
                  · skip
                    rcases mjSpl h with ⟨e, h⟩ | ⟨-, h⟩
                    · cases Nat.eq_of_beq_eq_true e
                      cases h
                      exact mjN_135
                    · cases h
        · skip
          rcases mjSpl h with ⟨-, h⟩ | ⟨-, h⟩
          · skip
            rcases mjSpl h with ⟨-, h⟩ | ⟨-, h⟩
            · skip
              rcases mjSpl h with ⟨-, h⟩ | ⟨-, h⟩
              · skip
                rcases mjSpl h with ⟨-, h⟩ | ⟨-, h⟩
                · skip
                  rcases mjSpl h with ⟨e, h⟩ | ⟨-, h⟩
                  · cases Nat.eq_of_beq_eq_true e
                    cases h
                    exact mjN_136
                  · cases h
                · skip
                  rcases mjSpl h with ⟨e, h⟩ | ⟨-, h⟩
                  · cases Nat.eq_of_beq_eq_true e
                    cases h
                    exact mjN_137
                  · cases h
              · skip
                rcases mjSpl h with ⟨-, h⟩ | ⟨-, h⟩
                · skip
                  rcases mjSpl h with ⟨e, h⟩ | ⟨-, h⟩
                  · cases Nat.eq_of_beq_eq_true e
                    cases h
                    exact mjN_138
                  · cases h
                · skip
                  rcases mjSpl h with ⟨-, h⟩ | ⟨-, h⟩
                  · skip
                    rcases mjSpl h with ⟨e, h⟩ | ⟨-, h⟩
                    · cases Nat.eq_of_beq_eq_true e
                      cases h
                      exact mjN_139
                    · cases h
                  · skip
                    rcases mjSpl h with ⟨e, h⟩ | ⟨-, h⟩
                    · cases Nat.eq_of_beq_eq_true e
                      cases h
                      exact mjN_140
                    · cases h
            · skip
              rcases mjSpl h with ⟨-, h⟩ | ⟨-, h⟩
              · skip
                rcases mjSpl h with ⟨-, h⟩ | ⟨-, h⟩
                · skip
                  rcases mjSpl h with ⟨e, h⟩ | ⟨-, h⟩
                  · cases Nat.eq_of_beq_eq_true e
                    cases h
                    exact mjN_141
                  · cases h
                · skip
                  rcases mjSpl h with ⟨e, h⟩ | ⟨-, h⟩
                  · cases Nat.eq_of_beq_eq_true e
                    cases h
                    exact mjN_142
                  · cases h
              · skip
                rcases mjSpl h with ⟨-, h⟩ | ⟨-, h⟩
                · skip
                  rcases mjSpl h with ⟨e, h⟩ | ⟨-, h⟩
                  · cases Nat.eq_of_beq_eq_true e
                    cases h
                    exact mjN_143
                  · cases h
                · skip
                  rcases mjSpl h with ⟨-, h⟩ | ⟨-, h⟩
                  · skip
                    rcases mjSpl h with ⟨e, h⟩ | ⟨-, h⟩
                    · cases Nat.eq_of_beq_eq_true e
                      cases h
                      exact mjN_144
                    · cases h
                  · skip
                    rcases mjSpl h with ⟨e, h⟩ | ⟨-, h⟩
                    · cases Nat.eq_of_beq_eq_true e
                      cases h
                      exact mjN_145
                    · cases h
          · skip
            rcases mjSpl h with ⟨-, h⟩ | ⟨-, h⟩
            · skip
              rcases mjSpl h with ⟨-, h⟩ | ⟨-, h⟩
              · skip
                rcases mjSpl h with ⟨-, h⟩ | ⟨-, h⟩
                · skip
                  rcases mjSpl h with ⟨e, h⟩ | ⟨-, h⟩
                  · cases Nat.eq_of_beq_eq_true e
                    cases h
                    exact mjN_146
                  · cases h
                · skip
                  rcases mjSpl h with ⟨e, h⟩ | ⟨-, h⟩
                  · cases Nat.eq_of_beq_eq_true e
                    cases h
                    exact mjN_147
                  · cases h
              · skip
                rcases mjSpl h with ⟨-, h⟩ | ⟨-, h⟩
                · skip
                  rcases mjSpl h with ⟨e, h⟩ | ⟨-, h⟩
                  · cases Nat.eq_of_beq_eq_true e
                    cases h
                    exact mjN_148
                  · cases h
                · skip
                  rcases mjSpl h with ⟨-, h⟩ | ⟨-, h⟩
                  · skip
                    rcases mjSpl h with ⟨e, h⟩ | ⟨-, h⟩
                    · cases Nat.eq_of_beq_eq_true e
                      cases h
                      exact mjN_149
                    · cases h
                  · skip
                    rcases mjSpl h with ⟨e, h⟩ | ⟨-, h⟩
                    · cases Nat.eq_of_beq_eq_true e
                      cases h
                      exact mjN_150
                    · cases h
            · skip
              rcases mjSpl h with ⟨-, h⟩ | ⟨-, h⟩
              · skip
                rcases mjSpl h with ⟨-, h⟩ | ⟨-, h⟩
                · skip
                  rcases mjSpl h with ⟨e, h⟩ | ⟨-, h⟩
                  · cases Nat.eq_of_beq_eq_true e
                    cases h
                    exact mjN_151
                  · cases h
                · skip
                  rcases mjSpl h with ⟨e, h⟩ | ⟨-, h⟩
                  · cases Nat.eq_of_beq_eq_true e
                    cases h
                    exact mjN_152
                  · cases h
              · skip
                rcases mjSpl h with ⟨-, h⟩ | ⟨-, h⟩
                · skip
                  rcases mjSpl h with ⟨e, h⟩ | ⟨-, h⟩
                  · cases Nat.eq_of_beq_eq_true e
                    cases h
                    exact mjN_153
                  · cases h
                · skip
                  rcases mjSpl h with ⟨-, h⟩ | ⟨-, h⟩
                  · skip
                    rcases mjSpl h with ⟨e, h⟩ | ⟨-, h⟩
                    · cases Nat.eq_of_beq_eq_true e
                      cases h
                      exact mjN_154
                    · cases h
                  · skip
                    rcases mjSpl h with ⟨e, h⟩ | ⟨-, h⟩
                    · cases Nat.eq_of_beq_eq_true e
                      cases h
                      exact mjN_155
                    · cases h
  · skip
    rcases mjSpl h with ⟨-, h⟩ | ⟨-, h⟩
    · skip
      rcases mjSpl h with ⟨-, h⟩ | ⟨-, h⟩
      · skip
        rcases mjSpl h with ⟨-, h⟩ | ⟨-, h⟩
        · skip
          rcases mjSpl h with ⟨-, h⟩ | ⟨-, h⟩
          · skip
            rcases mjSpl h with ⟨-, h⟩ | ⟨-, h⟩
            · skip
              rcases mjSpl h with ⟨-, h⟩ | ⟨-, h⟩
              · skip
                rcases mjSpl h with ⟨-, h⟩ | ⟨-, h⟩
                · skip
                  rcases mjSpl h with ⟨e, h⟩ | ⟨-, h⟩
                  · cases Nat.eq_of_beq_eq_true e
                    cases h
                    exact mjN_156
                  · cases h
                · skip
                  rcases mjSpl h with ⟨e, h⟩ | ⟨-, h⟩
                  · cases Nat.eq_of_beq_eq_true e
                    cases h
                    exact mjN_157
                  · cases h
              · skip
                rcases mjSpl h with ⟨-, h⟩ | ⟨-, h⟩
                · skip
                  rcases mjSpl h with ⟨e, h⟩ | ⟨-, h⟩
                  · cases Nat.eq_of_beq_eq_true e
                    cases h
                    exact mjN_158
                  · cases h
                · skip
                  rcases mjSpl h with ⟨e, h⟩ | ⟨-, h⟩
                  · cases Nat.eq_of_beq_eq_true e
                    cases h
                    exact mjN_159
                  · cases h
            · skip
              rcases mjSpl h with ⟨-, h⟩ | ⟨-, h⟩
              · skip
                rcases mjSpl h with ⟨-, h⟩ | ⟨-, h⟩
                · skip
                  rcases mjSpl h with ⟨e, h⟩ | ⟨-, h⟩
                  · cases Nat.eq_of_beq_eq_true e
                    cases h
                    exact mjN_160
                  · cases h
                · skip
                  rcases mjSpl h with ⟨e, h⟩ | ⟨-, h⟩
                  · cases Nat.eq_of_beq_eq_true e
                    cases h
                    exact mjN_161
                  · cases h
              · skip
                rcases mjSpl h with ⟨-, h⟩ | ⟨-, h⟩
                · skip
                  rcases mjSpl h with ⟨e, h⟩ | ⟨-, h⟩
                  · cases Nat.eq_of_beq_eq_true e
                    cases h
                    exact mjN_162
                  · cases h
                · skip
                  rcases mjSpl h with ⟨-, h⟩ | ⟨-, h⟩
                  · skip
                    rcases mjSpl h with ⟨e, h⟩ | ⟨-, h⟩
                    · cases Nat.eq_of_beq_eq_true e
                      cases h
                      exact mjN_163
                    · cases h
                  · skip
                    rcases mjSpl h with ⟨e, h⟩ | ⟨-, h⟩
                    · cases Nat.eq_of_beq_eq_true e
                      cases h
                      exact mjN_164
                    · cases h
          · skip
            rcases mjSpl h with ⟨-, h⟩ | ⟨-, h⟩
            · skip
              rcases mjSpl h with ⟨-, h⟩ | ⟨-, h⟩
              · skip
                rcases mjSpl h with ⟨-, h⟩ | ⟨-, h⟩
                · skip
                  rcases mjSpl h with ⟨e, h⟩ | ⟨-, h⟩
                  · cases Nat.eq_of_beq_eq_true e
                    cases h
                    exact mjN_165
                  · cases h
                · skip
                  rcases mjSpl h with ⟨e, h⟩ | ⟨-, h⟩
                  · cases Nat.eq_of_beq_eq_true e
                    cases h
                    exact mjN_166
                  · cases h
              · skip
                rcases mjSpl h with ⟨-, h⟩ | ⟨-, h⟩
                · skip
                  rcases mjSpl h with ⟨e, h⟩ | ⟨-, h⟩
                  · cases Nat.eq_of_beq_eq_true e
                    cases h
                    exact mjN_167
                  · cases h
                · skip
                  rcases mjSpl h with ⟨-, h⟩ | ⟨-, h⟩
                  · skip
                    rcases mjSpl h with ⟨e, h⟩ | ⟨-, h⟩
                    · cases Nat.eq_of_beq_eq_true e
                      cases h
                      exact mjN_168
                    · cases h
                  · skip
                    rcases mjSpl h with ⟨e, h⟩ | ⟨-, h⟩
                    · cases Nat.eq_of_beq_eq_true e
                      cases h
                      exact mjN_169
                    · cases h
            · skip
              rcases mjSpl h with ⟨-, h⟩ | ⟨-, h⟩
              · skip
                rcases mjSpl h with ⟨-, h⟩ | ⟨-, h⟩
                · skip
                  rcases mjSpl h with ⟨e, h⟩ | ⟨-, h⟩
                  · cases Nat.eq_of_beq_eq_true e
                    cases h
                    exact mjN_170
                  · cases h
                · skip
                  rcases mjSpl h with ⟨e, h⟩ | ⟨-, h⟩
                  · cases Nat.eq_of_beq_eq_true e
                    cases h
                    exact mjN_171
                  · cases h
              · skip
                rcases mjSpl h with ⟨-, h⟩ | ⟨-, h⟩
                · skip
                  rcases mjSpl h with ⟨e, h⟩ | ⟨-, h⟩
                  · cases Nat.eq_of_beq_eq_true e
                    cases h
                    exact mjN_172
                  · cases h
                · skip
                  rcases mjSpl h with ⟨-, h⟩ | ⟨-, h⟩
                  · skip
                    rcases mjSpl h with ⟨e, h⟩ | ⟨-, h⟩
                    · cases Nat.eq_of_beq_eq_true e
                      cases h
                      exact mjN_173
                    · cases h
                  · skip
                    rcases mjSpl h with ⟨e, h⟩ | ⟨-, h⟩
                    · cases Nat.eq_of_beq_eq_true e
                      cases h
                      exact mjN_174
                    · cases h
        · skip
          rcases mjSpl h with ⟨-, h⟩ | ⟨-, h⟩
          · skip
            rcases mjSpl h with ⟨-, h⟩ | ⟨-, h⟩
            · skip
              rcases mjSpl h with ⟨-, h⟩ | ⟨-, h⟩
              · skip
                rcases mjSpl h with ⟨-, h⟩ | ⟨-, h⟩
                · skip
                  rcases mjSpl h with ⟨e, h⟩ | ⟨-, h⟩
                  · cases Nat.eq_of_beq_eq_true e
                    cases h
                    exact mjN_175
                  · cases h
                · skip
                  rcases mjSpl h with ⟨e, h⟩ | ⟨-, h⟩
                  · cases Nat.eq_of_beq_eq_true e
                    cases h
                    exact mjN_176
                  · cases h
              · skip
                rcases mjSpl h with ⟨-, h⟩ | ⟨-, h⟩
                · skip
                  rcases mjSpl h with ⟨e, h⟩ | ⟨-, h⟩
                  · cases Nat.eq_of_beq_eq_true e
                    cases h
                    exact mjN_177
                  · cases h
                · skip
                  rcases mjSpl h with ⟨-, h⟩ | ⟨-, h⟩
                  · skip
                    rcases mjSpl h with ⟨e, h⟩ | ⟨-, h⟩
                    · cases Nat.eq_of_beq_eq_true e
                      cases h
                      exact mjN_178
                    · cases h
                  · skip
                    rcases mjSpl h with ⟨e, h⟩ | ⟨-, h⟩
                    · cases Nat.eq_of_beq_eq_true e
                      cases h
                      exact mjN_179
                    · cases h
            · skip
              rcases mjSpl h with ⟨-, h⟩ | ⟨-, h⟩
              · skip
                rcases mjSpl h with ⟨-, h⟩ | ⟨-, h⟩
                · skip
                  rcases mjSpl h with ⟨e, h⟩ | ⟨-, h⟩
                  · cases Nat.eq_of_beq_eq_true e
                    cases h
                    exact mjN_180
                  · cases h
                · skip
                  rcases mjSpl h with ⟨e, h⟩ | ⟨-, h⟩
                  · cases Nat.eq_of_beq_eq_true e
                    cases h
                    exact mjN_181
                  · cases h
              · skip
                rcases mjSpl h with ⟨-, h⟩ | ⟨-, h⟩
                · skip
                  rcases mjSpl h with ⟨e, h⟩ | ⟨-, h⟩
                  · cases Nat.eq_of_beq_eq_true e
                    cases h
                    exact mjN_182
                  · cases h
                · skip
                  rcases mjSpl h with ⟨-, h⟩ | ⟨-, h⟩
                  · skip
                    rcases mjSpl h with ⟨e, h⟩ | ⟨-, h⟩
                    · cases Nat.eq_of_beq_eq_true e
                      cases h
                      exact mjN_183
                    · cases h
                  · skip
                    rcases mjSpl h with ⟨e, h⟩ | ⟨-, h⟩
                    · cases Nat.eq_of_beq_eq_true e
                      cases h
                      exact mjN_184
                    · cases h
          · skip
            rcases mjSpl h with ⟨-, h⟩ | ⟨-, h⟩
            · skip
              rcases mjSpl h with ⟨-, h⟩ | ⟨-, h⟩
              · skip
                rcases mjSpl h with ⟨-, h⟩ | ⟨-, h⟩
                · skip
                  rcases mjSpl h with ⟨e, h⟩ | ⟨-, h⟩
                  · cases Nat.eq_of_beq_eq_true e
                    cases h
                    exact mjN_185
                  · cases h
                · skip
                  rcases mjSpl h with ⟨e, h⟩ | ⟨-, h⟩
                  · cases Nat.eq_of_beq_eq_true e
                    cases h
                    exact mjN_186
                  · cases h
              · skip
                rcases mjSpl h with ⟨-, h⟩ | ⟨-, h⟩
                · skip
                  rcases mjSpl h with ⟨e, h⟩ | ⟨-, h⟩
                  · cases Nat.eq_of_beq_eq_true e
                    cases h
                    exact mjN_187
                  · cases h
                · skip
                  rcases mjSpl h with ⟨-, h⟩ | ⟨-, h⟩
                  · skip
                    rcases mjSpl h with ⟨e, h⟩ | ⟨-, h⟩
                    · cases Nat.eq_of_beq_eq_true e
                      cases h
                      exact mjN_188
                    · cases h
                  · skip
                    rcases mjSpl h with ⟨e, h⟩ | ⟨-, h⟩
                    · cases Nat.eq_of_beq_eq_true e
                      cases h
                      exact mjN_189
                    · cases h
            · skip
              rcases mjSpl h with ⟨-, h⟩ | ⟨-, h⟩
              · skip
                rcases mjSpl h with ⟨-, h⟩ | ⟨-, h⟩
                · skip
                  rcases mjSpl h with ⟨e, h⟩ | ⟨-, h⟩
                  · cases Nat.eq_of_beq_eq_true e
                    cases h
                    exact mjN_190
                  · cases h
                · skip
                  rcases mjSpl h with ⟨e, h⟩ | ⟨-, h⟩
                  · cases Nat.eq_of_beq_eq_true e
                    cases h
                    exact mjN_191
                  · cases h
              · skip
                rcases mjSpl h with ⟨-, h⟩ | ⟨-, h⟩
                · skip
                  rcases mjSpl h with ⟨e, h⟩ | ⟨-, h⟩
                  · cases Nat.eq_of_beq_eq_true e
                    cases h
                    exact mjN_192
                  · cases h
                · skip
                  rcases mjSpl h with ⟨-, h⟩ | ⟨-, h⟩
                  · skip
                    rcases mjSpl h with ⟨e, h⟩ | ⟨-, h⟩
                    · cases Nat.eq_of_beq_eq_true e
                      cases h
                      exact mjN_193
                    · cases h
                  · skip
                    rcases mjSpl h with ⟨e, h⟩ | ⟨-, h⟩
                    · cases Nat.eq_of_beq_eq_true e
                      cases h
                      exact mjN_194
                    · cases h
      · skip
        rcases mjSpl h with ⟨-, h⟩ | ⟨-, h⟩
        · skip
          rcases mjSpl h with ⟨-, h⟩ | ⟨-, h⟩
          · skip
            rcases mjSpl h with ⟨-, h⟩ | ⟨-, h⟩
            · skip
              rcases mjSpl h with ⟨-, h⟩ | ⟨-, h⟩
              · skip
                rcases mjSpl h with ⟨-, h⟩ | ⟨-, h⟩
                · skip
                  rcases mjSpl h with ⟨e, h⟩ | ⟨-, h⟩
                  · cases Nat.eq_of_beq_eq_true e
                    cases h
                    exact mjN_195
                  · cases h
                · skip
                  rcases mjSpl h with ⟨e, h⟩ | ⟨-, h⟩
                  · cases Nat.eq_of_beq_eq_true e
                    cases h
                    exact mjN_196
                  · cases h
              · skip
                rcases mjSpl h with ⟨-, h⟩ | ⟨-, h⟩
                · skip
                  rcases mjSpl h with ⟨e, h⟩ | ⟨-, h⟩
                  · cases Nat.eq_of_beq_eq_true e
                    cases h
                    exact mjN_197
                  · cases h
                · skip
                  rcases mjSpl h with ⟨e, h⟩ | ⟨-, h⟩
                  · cases Nat.eq_of_beq_eq_true e
                    cases h
                    exact mjN_198
                  · cases h
            · skip
              rcases mjSpl h with ⟨-, h⟩ | ⟨-, h⟩
              · skip
                rcases mjSpl h with ⟨-, h⟩ | ⟨-, h⟩
                · skip
                  rcases mjSpl h with ⟨e, h⟩ | ⟨-, h⟩
                  · cases Nat.eq_of_beq_eq_true e
                    cases h
                    exact mjN_199
                  · cases h
                · skip
                  rcases mjSpl h with ⟨e, h⟩ | ⟨-, h⟩
                  · cases Nat.eq_of_beq_eq_true e
                    cases h
                    exact mjN_200
                  · cases h
              · skip
                rcases mjSpl h with ⟨-, h⟩ | ⟨-, h⟩
                · skip
                  rcases mjSpl h with ⟨e, h⟩ | ⟨-, h⟩
                  · cases Nat.eq_of_beq_eq_true e
                    cases h
                    exact mjN_201
                  · cases h
                · skip
                  rcases mjSpl h with ⟨-, h⟩ | ⟨-, h⟩
                  · skip
                    rcases mjSpl h with ⟨e, h⟩ | ⟨-, h⟩
                    · cases Nat.eq_of_beq_eq_true e
                      cases h
                      exact mjN_202
                    · cases h
                  · skip
                    rcases mjSpl h with ⟨e, h⟩ | ⟨-, h⟩
                    · cases Nat.eq_of_beq_eq_true e
                      cases h
                      exact mjN_203
                    · cases h
          · skip
            rcases mjSpl h with ⟨-, h⟩ | ⟨-, h⟩
            · skip
              rcases mjSpl h with ⟨-, h⟩ | ⟨-, h⟩
              · skip
                rcases mjSpl h with ⟨-, h⟩ | ⟨-, h⟩
                · skip
                  rcases mjSpl h with ⟨e, h⟩ | ⟨-, h⟩
                  · cases Nat.eq_of_beq_eq_true e
                    cases h
                    exact mjN_204
                  · cases h
                · skip
                  rcases mjSpl h with ⟨e, h⟩ | ⟨-, h⟩
                  · cases Nat.eq_of_beq_eq_true e
                    cases h
                    exact mjN_205
                  · cases h
              · skip
                rcases mjSpl h with ⟨-, h⟩ | ⟨-, h⟩
                · skip
                  rcases mjSpl h with ⟨e, h⟩ | ⟨-, h⟩
                  · cases Nat.eq_of_beq_eq_true e
                    cases h
                    exact mjN_206
                  · cases h
                · skip
                  rcases mjSpl h with ⟨-, h⟩ | ⟨-, h⟩
                  · skip
                    rcases mjSpl h with ⟨e, h⟩ | ⟨-, h⟩
                    · cases Nat.eq_of_beq_eq_true e
                      cases h
                      exact mjN_207
                    · cases h
                  · skip
                    rcases mjSpl h with ⟨e, h⟩ | ⟨-, h⟩
                    · cases Nat.eq_of_beq_eq_true e
                      cases h
                      exact mjN_208
                    · cases h
            · skip
              rcases mjSpl h with ⟨-, h⟩ | ⟨-, h⟩
              · skip
                rcases mjSpl h with ⟨-, h⟩ | ⟨-, h⟩
                · skip
                  rcases mjSpl h with ⟨e, h⟩ | ⟨-, h⟩
                  · cases Nat.eq_of_beq_eq_true e
                    cases h
                    exact mjN_209
                  · cases h
                · skip
                  rcases mjSpl h with ⟨e, h⟩ | ⟨-, h⟩
                  · cases Nat.eq_of_beq_eq_true e
                    cases h
                    exact mjN_210
                  · cases h
              · skip
                rcases mjSpl h with ⟨-, h⟩ | ⟨-, h⟩
                · skip
                  rcases mjSpl h with ⟨e, h⟩ | ⟨-, h⟩
                  · cases Nat.eq_of_beq_eq_true e
                    cases h
                    exact mjN_211
                  · cases h
                · skip
                  rcases mjSpl h with ⟨-, h⟩ | ⟨-, h⟩
                  · skip
                    rcases mjSpl h with ⟨e, h⟩ | ⟨-, h⟩
                    · cases Nat.eq_of_beq_eq_true e
                      cases h
                      exact mjN_212
                    · cases h
                  · skip
                    rcases mjSpl h with ⟨e, h⟩ | ⟨-, h⟩
                    · cases Nat.eq_of_beq_eq_true e
                      cases h
                      exact mjN_213
                    · cases h
        · skip
          rcases mjSpl h with ⟨-, h⟩ | ⟨-, h⟩
          · skip
            rcases mjSpl h with ⟨-, h⟩ | ⟨-, h⟩
            · skip
              rcases mjSpl h with ⟨-, h⟩ | ⟨-, h⟩
              · skip
                rcases mjSpl h with ⟨-, h⟩ | ⟨-, h⟩
                · skip
                  rcases mjSpl h with ⟨e, h⟩ | ⟨-, h⟩
                  · cases Nat.eq_of_beq_eq_true e
                    cases h
                    exact mjN_214
                  · cases h
                · skip
                  rcases mjSpl h with ⟨e, h⟩ | ⟨-, h⟩
                  · cases Nat.eq_of_beq_eq_true e
                    cases h
                    exact mjN_215
                  · cases h
              · skip
                rcases mjSpl h with ⟨-, h⟩ | ⟨-, h⟩
                · skip
                  rcases mjSpl h with ⟨e, h⟩ | ⟨-, h⟩
                  · cases Nat.eq_of_beq_eq_true e
                    cases h
                    exact mjN_216
                  · cases h
                · skip
                  rcases mjSpl h with ⟨-, h⟩ | ⟨-, h⟩
                  · skip
                    rcases mjSpl h with ⟨e, h⟩ | ⟨-, h⟩
                    · cases Nat.eq_of_beq_eq_true e
                      cases h
                      exact mjN_217
                    · cases h
                  · skip
                    rcases mjSpl h with ⟨e, h⟩ | ⟨-, h⟩
                    · cases Nat.eq_of_beq_eq_true e
                      cases h
                      exact mjN_218
                    · cases h
            · skip
              rcases mjSpl h with ⟨-, h⟩ | ⟨-, h⟩
              · skip
                rcases mjSpl h with ⟨-, h⟩ | ⟨-, h⟩
                · skip
                  rcases mjSpl h with ⟨e, h⟩ | ⟨-, h⟩
                  · cases Nat.eq_of_beq_eq_true e
                    cases h
                    exact mjN_219
                  · cases h
                · skip
                  rcases mjSpl h with ⟨e, h⟩ | ⟨-, h⟩
                  · cases Nat.eq_of_beq_eq_true e
                    cases h
                    exact mjN_220
                  · cases h
              · skip
                rcases mjSpl h with ⟨-, h⟩ | ⟨-, h⟩
                · skip
                  rcases mjSpl h with ⟨e, h⟩ | ⟨-, h⟩
                  · cases Nat.eq_of_beq_eq_true e
                    cases h
                    exact mjN_221
                  · cases h
                · skip
                  rcases mjSpl h with ⟨-, h⟩ | ⟨-, h⟩
                  · skip
                    rcases mjSpl h with ⟨e, h⟩ | ⟨-, h⟩
                    · cases Nat.eq_of_beq_eq_true e
                      cases h
                      exact mjN_222
                    · cases h
                  · skip
                    rcases mjSpl h with ⟨e, h⟩ | ⟨-, h⟩
                    · cases Nat.eq_of_beq_eq_true e
                      cases h
                      exact mjN_223
                    · cases h
          · skip
            rcases mjSpl h with ⟨-, h⟩ | ⟨-, h⟩
            · skip
              rcases mjSpl h with ⟨-, h⟩ | ⟨-, h⟩
              · skip
                rcases mjSpl h with ⟨-, h⟩ | ⟨-, h⟩
                · skip
                  rcases mjSpl h with ⟨e, h⟩ | ⟨-, h⟩
                  · cases Nat.eq_of_beq_eq_true e
                    cases h
                    exact mjN_224
                  · cases h
                · skip
                  rcases mjSpl h with ⟨e, h⟩ | ⟨-, h⟩
                  · cases Nat.eq_of_beq_eq_true e
                    cases h
                    exact mjN_225
                  · cases h
              · skip
                rcases mjSpl h with ⟨-, h⟩ | ⟨-, h⟩
                · skip
                  rcases mjSpl h with ⟨e, h⟩ | ⟨-, h⟩
                  · cases Nat.eq_of_beq_eq_true e
                    cases h
                    exact mjN_226
                  · cases h
                · skip
                  rcases mjSpl h with ⟨-, h⟩ | ⟨-, h⟩
                  · skip
                    rcases mjSpl h with ⟨e, h⟩ | ⟨-, h⟩
                    · cases Nat.eq_of_beq_eq_true e
                      cases h
                      exact mjN_227
                    · cases h
                  · skip
                    rcases mjSpl h with ⟨e, h⟩ | ⟨-, h⟩
                    · cases Nat.eq_of_beq_eq_true e
                      cases h
                      exact mjN_228
                    · cases h
            · skip
              rcases mjSpl h with ⟨-, h⟩ | ⟨-, h⟩
              · skip
                rcases mjSpl h with ⟨-, h⟩ | ⟨-, h⟩
                · skip
                  rcases mjSpl h with ⟨e, h⟩ | ⟨-, h⟩
                  · cases Nat.eq_of_beq_eq_true e
                    cases h
                    exact mjN_229
                  · cases h
                · skip
                  rcases mjSpl h with ⟨e, h⟩ | ⟨-, h⟩
                  · cases Nat.eq_of_beq_eq_true e
                    cases h
                    exact mjN_230
                  · cases h
              · skip
                rcases mjSpl h with ⟨-, h⟩ | ⟨-, h⟩
                · skip
                  rcases mjSpl h with ⟨e, h⟩ | ⟨-, h⟩
                  · cases Nat.eq_of_beq_eq_true e
                    cases h
                    exact mjN_231
                  · cases h
                · skip
                  rcases mjSpl h with ⟨-, h⟩ | ⟨-, h⟩
                  · skip
                    rcases mjSpl h with ⟨e, h⟩ | ⟨-, h⟩
                    · cases Nat.eq_of_beq_eq_true e
                      cases h
                      exact mjN_232
                    · cases h
                  · skip
                    rcases mjSpl h with ⟨e, h⟩ | ⟨-, h⟩
                    · cases Nat.eq_of_beq_eq_true e
                      cases h
                      exact mjN_233
                    · cases h
    · skip
      rcases mjSpl h with ⟨-, h⟩ | ⟨-, h⟩
      · skip
        rcases mjSpl h with ⟨-, h⟩ | ⟨-, h⟩
        · skip
          rcases mjSpl h with ⟨-, h⟩ | ⟨-, h⟩
          · skip
            rcases mjSpl h with ⟨-, h⟩ | ⟨-, h⟩
            · skip
              rcases mjSpl h with ⟨-, h⟩ | ⟨-, h⟩
              · skip
                rcases mjSpl h with ⟨-, h⟩ | ⟨-, h⟩
                · skip
                  rcases mjSpl h with ⟨e, h⟩ | ⟨-, h⟩
                  · cases Nat.eq_of_beq_eq_true e
                    cases h
                    exact mjN_234
                  · cases h
                · skip
                  rcases mjSpl h with ⟨e, h⟩ | ⟨-, h⟩
                  · cases Nat.eq_of_beq_eq_true e
                    cases h
                    exact mjN_235
                  · cases h
              · skip
                rcases mjSpl h with ⟨-, h⟩ | ⟨-, h⟩
                · skip
                  rcases mjSpl h with ⟨e, h⟩ | ⟨-, h⟩
                  · cases Nat.eq_of_beq_eq_true e
                    cases h
                    exact mjN_236
                  · cases h
                · skip
                  rcases mjSpl h with ⟨e, h⟩ | ⟨-, h⟩
                  · cases Nat.eq_of_beq_eq_true e
                    cases h
                    exact mjN_237
                  · cases h
            · skip
              rcases mjSpl h with ⟨-, h⟩ | ⟨-, h⟩
              · skip
                rcases mjSpl h with ⟨-, h⟩ | ⟨-, h⟩
                · skip
                  rcases mjSpl h with ⟨e, h⟩ | ⟨-, h⟩
                  · cases Nat.eq_of_beq_eq_true e
                    cases h
                    exact mjN_238
                  · cases h
                · skip
                  rcases mjSpl h with ⟨e, h⟩ | ⟨-, h⟩
                  · cases Nat.eq_of_beq_eq_true e
                    cases h
                    exact mjN_239
                  · cases h
              · skip
                rcases mjSpl h with ⟨-, h⟩ | ⟨-, h⟩
                · skip
                  rcases mjSpl h with ⟨e, h⟩ | ⟨-, h⟩
                  · cases Nat.eq_of_beq_eq_true e
                    cases h
                    exact mjN_240
                  · cases h
                · skip
                  rcases mjSpl h with ⟨-, h⟩ | ⟨-, h⟩
                  · skip
                    rcases mjSpl h with ⟨e, h⟩ | ⟨-, h⟩
                    · cases Nat.eq_of_beq_eq_true e
                      cases h
                      exact mjN_241
                    · cases h
                  · skip
                    rcases mjSpl h with ⟨e, h⟩ | ⟨-, h⟩
                    · cases Nat.eq_of_beq_eq_true e
                      cases h
                      exact mjN_242
                    · cases h
          · skip
            rcases mjSpl h with ⟨-, h⟩ | ⟨-, h⟩
            · skip
              rcases mjSpl h with ⟨-, h⟩ | ⟨-, h⟩
              · skip
                rcases mjSpl h with ⟨-, h⟩ | ⟨-, h⟩
                · skip
                  rcases mjSpl h with ⟨e, h⟩ | ⟨-, h⟩
                  · cases Nat.eq_of_beq_eq_true e
                    cases h
                    exact mjN_243
                  · cases h
                · skip
                  rcases mjSpl h with ⟨e, h⟩ | ⟨-, h⟩
                  · cases Nat.eq_of_beq_eq_true e
                    cases h
                    exact mjN_244
                  · cases h
              · skip
                rcases mjSpl h with ⟨-, h⟩ | ⟨-, h⟩
                · skip
                  rcases mjSpl h with ⟨e, h⟩ | ⟨-, h⟩
                  · cases Nat.eq_of_beq_eq_true e
                    cases h
                    exact mjN_245
                  · cases h
                · skip
                  rcases mjSpl h with ⟨-, h⟩ | ⟨-, h⟩
                  · skip
                    rcases mjSpl h with ⟨e, h⟩ | ⟨-, h⟩
                    · cases Nat.eq_of_beq_eq_true e
                      cases h
                      exact mjN_246
                    · cases h
                  · skip
                    rcases mjSpl h with ⟨e, h⟩ | ⟨-, h⟩
                    · cases Nat.eq_of_beq_eq_true e
                      cases h
                      exact mjN_247
                    · cases h
            · skip
              rcases mjSpl h with ⟨-, h⟩ | ⟨-, h⟩
              · skip
                rcases mjSpl h with ⟨-, h⟩ | ⟨-, h⟩
                · skip
                  rcases mjSpl h with ⟨e, h⟩ | ⟨-, h⟩
                  · cases Nat.eq_of_beq_eq_true e
                    cases h
                    exact mjN_248
                  · cases h
                · skip
                  rcases mjSpl h with ⟨e, h⟩ | ⟨-, h⟩
                  · cases Nat.eq_of_beq_eq_true e
                    cases h
                    exact mjN_249
                  · cases h
              · skip
                rcases mjSpl h with ⟨-, h⟩ | ⟨-, h⟩
                · skip
                  rcases mjSpl h with ⟨e, h⟩ | ⟨-, h⟩
                  · cases Nat.eq_of_beq_eq_true e
                    cases h
                    exact mjN_250
                  · cases h
                · skip
                  rcases mjSpl h with ⟨-, h⟩ | ⟨-, h⟩
                  · skip
                    rcases mjSpl h with ⟨e, h⟩ | ⟨-, h⟩
                    · cases Nat.eq_of_beq_eq_true e
                      cases h
                      exact mjN_251
                    · cases h
                  · skip
                    rcases mjSpl h with ⟨e, h⟩ | ⟨-, h⟩
                    · cases Nat.eq_of_beq_eq_true e
                      cases h
                      exact mjN_252
                    · cases h
        · skip
          rcases mjSpl h with ⟨-, h⟩ | ⟨-, h⟩
          · skip
            rcases mjSpl h with ⟨-, h⟩ | ⟨-, h⟩
            · skip
              rcases mjSpl h with ⟨-, h⟩ | ⟨-, h⟩
              · skip
                rcases mjSpl h with ⟨-, h⟩ | ⟨-, h⟩
                · skip
                  rcases mjSpl h with ⟨e, h⟩ | ⟨-, h⟩
                  · cases Nat.eq_of_beq_eq_true e
                    cases h
                    exact mjN_253
                  · cases h
                · skip
                  rcases mjSpl h with ⟨e, h⟩ | ⟨-, h⟩
                  · cases Nat.eq_of_beq_eq_true e
                    cases h
                    exact mjN_254
                  · cases h
              · skip
                rcases mjSpl h with ⟨-, h⟩ | ⟨-, h⟩
                · skip
                  rcases mjSpl h with ⟨e, h⟩ | ⟨-, h⟩
                  · cases Nat.eq_of_beq_eq_true e
                    cases h
                    exact mjN_255
                  · cases h
                · skip
                  rcases mjSpl h with ⟨-, h⟩ | ⟨-, h⟩
                  · skip
                    rcases mjSpl h with ⟨e, h⟩ | ⟨-, h⟩
                    · cases Nat.eq_of_beq_eq_true e
                      cases h
                      exact mjN_256
                    · cases h
                  · skip
                    rcases mjSpl h with ⟨e, h⟩ | ⟨-, h⟩
                    · cases Nat.eq_of_beq_eq_true e
                      cases h
                      exact mjN_257
                    · cases h
            · skip
              rcases mjSpl h with ⟨-, h⟩ | ⟨-, h⟩
              · skip
                rcases mjSpl h with ⟨-, h⟩ | ⟨-, h⟩
                · skip
                  rcases mjSpl h with ⟨e, h⟩ | ⟨-, h⟩
                  · cases Nat.eq_of_beq_eq_true e
                    cases h
                    exact mjN_258
                  · cases h
                · skip
                  rcases mjSpl h with ⟨e, h⟩ | ⟨-, h⟩
                  · cases Nat.eq_of_beq_eq_true e
                    cases h
                    exact mjN_259
                  · cases h
              · skip
                rcases mjSpl h with ⟨-, h⟩ | ⟨-, h⟩
                · skip
                  rcases mjSpl h with ⟨e, h⟩ | ⟨-, h⟩
                  · cases Nat.eq_of_beq_eq_true e
                    cases h
                    exact mjN_260
                  · cases h
                · skip
                  rcases mjSpl h with ⟨-, h⟩ | ⟨-, h⟩
                  · skip
                    rcases mjSpl h with ⟨e, h⟩ | ⟨-, h⟩
                    · cases Nat.eq_of_beq_eq_true e
                      cases h
                      exact mjN_261
                    · cases h
                  · skip
                    rcases mjSpl h with ⟨e, h⟩ | ⟨-, h⟩
                    · cases Nat.eq_of_beq_eq_true e
                      cases h
                      exact mjN_262
                    · cases h
          · skip
            rcases mjSpl h with ⟨-, h⟩ | ⟨-, h⟩
            · skip
              rcases mjSpl h with ⟨-, h⟩ | ⟨-, h⟩
              · skip
                rcases mjSpl h with ⟨-, h⟩ | ⟨-, h⟩
                · skip
                  rcases mjSpl h with ⟨e, h⟩ | ⟨-, h⟩
                  · cases Nat.eq_of_beq_eq_true e
                    cases h
                    exact mjN_263
                  · cases h
                · skip
                  rcases mjSpl h with ⟨e, h⟩ | ⟨-, h⟩
                  · cases Nat.eq_of_beq_eq_true e
                    cases h
                    exact mjN_264
                  · cases h
              · skip
                rcases mjSpl h with ⟨-, h⟩ | ⟨-, h⟩
                · skip
                  rcases mjSpl h with ⟨e, h⟩ | ⟨-, h⟩
                  · cases Nat.eq_of_beq_eq_true e
                    cases h
                    exact mjN_265
                  · cases h
                · skip
                  rcases mjSpl h with ⟨-, h⟩ | ⟨-, h⟩
                  · skip
                    rcases mjSpl h with ⟨e, h⟩ | ⟨-, h⟩
                    · cases Nat.eq_of_beq_eq_true e
                      cases h
                      exact mjN_266
                    · cases h
                  · skip
                    rcases mjSpl h with ⟨e, h⟩ | ⟨-, h⟩
                    · cases Nat.eq_of_beq_eq_true e
                      cases h
                      exact mjN_267
                    · cases h
            · skip
              rcases mjSpl h with ⟨-, h⟩ | ⟨-, h⟩
              · skip
                rcases mjSpl h with ⟨-, h⟩ | ⟨-, h⟩
                · skip
                  rcases mjSpl h with ⟨e, h⟩ | ⟨-, h⟩
                  · cases Nat.eq_of_beq_eq_true e
                    cases h
                    exact mjN_268
                  · cases h
                · skip
                  rcases mjSpl h with ⟨e, h⟩ | ⟨-, h⟩
                  · cases Nat.eq_of_beq_eq_true e
                    cases h
                    exact mjN_269
                  · cases h
              · skip
                rcases mjSpl h with ⟨-, h⟩ | ⟨-, h⟩
                · skip
                  rcases mjSpl h with ⟨e, h⟩ | ⟨-, h⟩
                  · cases Nat.eq_of_beq_eq_true e
                    cases h
                    exact mjN_270
                  · cases h
                · skip
                  rcases mjSpl h with ⟨-, h⟩ | ⟨-, h⟩
                  · skip
                    rcases mjSpl h with ⟨e, h⟩ | ⟨-, h⟩
                    · cases Nat.eq_of_beq_eq_true e
                      cases h
                      exact mjN_271
                    · cases h
                  · skip
                    rcases mjSpl h with ⟨e, h⟩ | ⟨-, h⟩
                    · cases Nat.eq_of_beq_eq_true e
                      cases h
                      exact mjN_272
                    · cases h
      · skip
        rcases mjSpl h with ⟨-, h⟩ | ⟨-, h⟩
        · skip
          rcases mjSpl h with ⟨-, h⟩ | ⟨-, h⟩
          · skip
            rcases mjSpl h with ⟨-, h⟩ | ⟨-, h⟩
            · skip
              rcases mjSpl h with ⟨-, h⟩ | ⟨-, h⟩
              · skip
                rcases mjSpl h with ⟨-, h⟩ | ⟨-, h⟩
                · skip
                  rcases mjSpl h with ⟨e, h⟩ | ⟨-, h⟩
                  · cases Nat.eq_of_beq_eq_true e
                    cases h
                    exact mjN_273
                  · cases h
                · skip
                  rcases mjSpl h with ⟨e, h⟩ | ⟨-, h⟩
                  · cases Nat.eq_of_beq_eq_true e
                    cases h
                    exact mjN_274
                  · cases h
              · skip
                rcases mjSpl h with ⟨-, h⟩ | ⟨-, h⟩
                · skip
                  rcases mjSpl h with ⟨e, h⟩ | ⟨-, h⟩
                  · cases Nat.eq_of_beq_eq_true e
                    cases h
                    exact mjN_275
                  · cases h
                · skip
                  rcases mjSpl h with ⟨-, h⟩ | ⟨-, h⟩
                  · skip
                    rcases mjSpl h with ⟨e, h⟩ | ⟨-, h⟩
                    · cases Nat.eq_of_beq_eq_true e
                      cases h
                      exact mjN_276
                    · cases h
                  · skip
                    rcases mjSpl h with ⟨e, h⟩ | ⟨-, h⟩
                    · cases Nat.eq_of_beq_eq_true e
                      cases h
                      exact mjN_277
                    · cases h
            · skip
              rcases mjSpl h with ⟨-, h⟩ | ⟨-, h⟩
              · skip
                rcases mjSpl h with ⟨-, h⟩ | ⟨-, h⟩
                · skip
                  rcases mjSpl h with ⟨e, h⟩ | ⟨-, h⟩
                  · cases Nat.eq_of_beq_eq_true e
                    cases h
                    exact mjN_278
                  · cases h
                · skip
                  rcases mjSpl h with ⟨e, h⟩ | ⟨-, h⟩
                  · cases Nat.eq_of_beq_eq_true e
                    cases h
                    exact mjN_279
                  · cases h
              · skip
                rcases mjSpl h with ⟨-, h⟩ | ⟨-, h⟩
                · skip
                  rcases mjSpl h with ⟨e, h⟩ | ⟨-, h⟩
                  · cases Nat.eq_of_beq_eq_true e
                    cases h
                    exact mjN_280
                  · cases h
                · skip
                  rcases mjSpl h with ⟨-, h⟩ | ⟨-, h⟩
                  · skip
                    rcases mjSpl h with ⟨e, h⟩ | ⟨-, h⟩
                    · cases Nat.eq_of_beq_eq_true e
                      cases h
                      exact mjN_281
                    · cases h
                  · skip
                    rcases mjSpl h with ⟨e, h⟩ | ⟨-, h⟩
                    · cases Nat.eq_of_beq_eq_true e
                      cases h
                      exact mjN_282
                    · cases h
          · skip
            rcases mjSpl h with ⟨-, h⟩ | ⟨-, h⟩
            · skip
              rcases mjSpl h with ⟨-, h⟩ | ⟨-, h⟩
              · skip
                rcases mjSpl h with ⟨-, h⟩ | ⟨-, h⟩
                · skip
                  rcases mjSpl h with ⟨e, h⟩ | ⟨-, h⟩
                  · cases Nat.eq_of_beq_eq_true e
                    cases h
                    exact mjN_283
                  · cases h
                · skip
                  rcases mjSpl h with ⟨e, h⟩ | ⟨-, h⟩
                  · cases Nat.eq_of_beq_eq_true e
                    cases h
                    exact mjN_284
                  · cases h
              · skip
                rcases mjSpl h with ⟨-, h⟩ | ⟨-, h⟩
                · skip
                  rcases mjSpl h with ⟨e, h⟩ | ⟨-, h⟩
                  · cases Nat.eq_of_beq_eq_true e
                    cases h
                    exact mjN_285
                  · cases h
                · skip
                  rcases mjSpl h with ⟨-, h⟩ | ⟨-, h⟩
                  · skip
                    rcases mjSpl h with ⟨e, h⟩ | ⟨-, h⟩
                    · cases Nat.eq_of_beq_eq_true e
                      cases h
                      exact mjN_286
                    · cases h
                  · skip
                    rcases mjSpl h with ⟨e, h⟩ | ⟨-, h⟩
                    · cases Nat.eq_of_beq_eq_true e
                      cases h
                      exact mjN_287
                    · cases h
            · skip
              rcases mjSpl h with ⟨-, h⟩ | ⟨-, h⟩
              · skip
                rcases mjSpl h with ⟨-, h⟩ | ⟨-, h⟩
                · skip
                  rcases mjSpl h with ⟨e, h⟩ | ⟨-, h⟩
                  · cases Nat.eq_of_beq_eq_true e
                    cases h
                    exact mjN_288
                  · cases h
                · skip
                  rcases mjSpl h with ⟨e, h⟩ | ⟨-, h⟩
                  · cases Nat.eq_of_beq_eq_true e
                    cases h
                    exact mjN_289
                  · cases h
              · skip
                rcases mjSpl h with ⟨-, h⟩ | ⟨-, h⟩
                · skip
                  rcases mjSpl h with ⟨e, h⟩ | ⟨-, h⟩
                  · cases Nat.eq_of_beq_eq_true e
                    cases h
                    exact mjN_290
                  · cases h
                · skip
                  rcases mjSpl h with ⟨-, h⟩ | ⟨-, h⟩
                  · skip
                    rcases mjSpl h with ⟨e, h⟩ | ⟨-, h⟩
                    · cases Nat.eq_of_beq_eq_true e
                      cases h
                      exact mjN_291
                    · cases h
                  · skip
                    rcases mjSpl h with ⟨e, h⟩ | ⟨-, h⟩
                    · cases Nat.eq_of_beq_eq_true e
                      cases h
                      exact mjN_292
                    · cases h
        · skip
          rcases mjSpl h with ⟨-, h⟩ | ⟨-, h⟩
          · skip
            rcases mjSpl h with ⟨-, h⟩ | ⟨-, h⟩
            · skip
              rcases mjSpl h with ⟨-, h⟩ | ⟨-, h⟩
              · skip
                rcases mjSpl h with ⟨-, h⟩ | ⟨-, h⟩
                · skip
                  rcases mjSpl h with ⟨e, h⟩ | ⟨-, h⟩
                  · cases Nat.eq_of_beq_eq_true e
                    cases h
                    exact mjN_293
                  · cases h
                · skip
                  rcases mjSpl h with ⟨e, h⟩ | ⟨-, h⟩
                  · cases Nat.eq_of_beq_eq_true e
                    cases h
                    exact mjN_294
                  · cases h
              · skip
                rcases mjSpl h with ⟨-, h⟩ | ⟨-, h⟩
                · skip
                  rcases mjSpl h with ⟨e, h⟩ | ⟨-, h⟩
                  · cases Nat.eq_of_beq_eq_true e
                    cases h
                    exact mjN_295
                  · cases h
                · skip
                  rcases mjSpl h with ⟨-, h⟩ | ⟨-, h⟩
                  · skip
                    rcases mjSpl h with ⟨e, h⟩ | ⟨-, h⟩
                    · cases Nat.eq_of_beq_eq_true e
                      cases h
                      exact mjN_296
                    · cases h
                  · skip
                    rcases mjSpl h with ⟨e, h⟩ | ⟨-, h⟩
                    · cases Nat.eq_of_beq_eq_true e
                      cases h
                      exact mjN_297
                    · cases h
            · skip
              rcases mjSpl h with ⟨-, h⟩ | ⟨-, h⟩
              · skip
                rcases mjSpl h with ⟨-, h⟩ | ⟨-, h⟩
                · skip
                  rcases mjSpl h with ⟨e, h⟩ | ⟨-, h⟩
                  · cases Nat.eq_of_beq_eq_true e
                    cases h
                    exact mjN_298
                  · cases h
                · skip
                  rcases mjSpl h with ⟨e, h⟩ | ⟨-, h⟩
                  · cases Nat.eq_of_beq_eq_true e
                    cases h
                    exact mjN_299
                  · cases h
              · skip
                rcases mjSpl h with ⟨-, h⟩ | ⟨-, h⟩
                · skip
                  rcases mjSpl h with ⟨e, h⟩ | ⟨-, h⟩
                  · cases Nat.eq_of_beq_eq_true e
                    cases h
                    exact mjN_300
                  · cases h
                · skip
                  rcases mjSpl h with ⟨-, h⟩ | ⟨-, h⟩
                  · skip
                    rcases mjSpl h with ⟨e, h⟩ | ⟨-, h⟩
                    · cases Nat.eq_of_beq_eq_true e
                      cases h
                      exact mjN_301
                    · cases h
                  · skip
                    rcases mjSpl h with ⟨e, h⟩ | ⟨-, h⟩
                    · cases Nat.eq_of_beq_eq_true e
                      cases h
                      exact mjN_302
                    · cases h
          · skip
            rcases mjSpl h with ⟨-, h⟩ | ⟨-, h⟩
            · skip
              rcases mjSpl h with ⟨-, h⟩ | ⟨-, h⟩
              · skip
                rcases mjSpl h with ⟨-, h⟩ | ⟨-, h⟩
                · skip
                  rcases mjSpl h with ⟨e, h⟩ | ⟨-, h⟩
                  · cases Nat.eq_of_beq_eq_true e
                    cases h
                    exact mjN_303
                  · cases h
                · skip
                  rcases mjSpl h with ⟨e, h⟩ | ⟨-, h⟩
                  · cases Nat.eq_of_beq_eq_true e
                    cases h
                    exact mjN_304
                  · cases h
              · skip
                rcases mjSpl h with ⟨-, h⟩ | ⟨-, h⟩
                · skip
                  rcases mjSpl h with ⟨e, h⟩ | ⟨-, h⟩
                  · cases Nat.eq_of_beq_eq_true e
                    cases h
                    exact mjN_305
                  · cases h
                · skip
                  rcases mjSpl h with ⟨-, h⟩ | ⟨-, h⟩
                  · skip
                    rcases mjSpl h with ⟨e, h⟩ | ⟨-, h⟩
                    · cases Nat.eq_of_beq_eq_true e
                      cases h
                      exact mjN_306
                    · cases h
                  · skip
                    rcases mjSpl h with ⟨e, h⟩ | ⟨-, h⟩
                    · cases Nat.eq_of_beq_eq_true e
                      cases h
                      exact mjN_307
                    · cases h
            · skip
              rcases mjSpl h with ⟨-, h⟩ | ⟨-, h⟩
              · skip
                rcases mjSpl h with ⟨-, h⟩ | ⟨-, h⟩
                · skip
                  rcases mjSpl h with ⟨e, h⟩ | ⟨-, h⟩
                  · cases Nat.eq_of_beq_eq_true e
                    cases h
                    exact mjN_308
                  · cases h
                · skip
                  rcases mjSpl h with ⟨e, h⟩ | ⟨-, h⟩
                  · cases Nat.eq_of_beq_eq_true e
                    cases h
                    exact mjN_309
                  · cases h
              · skip
                rcases mjSpl h with ⟨-, h⟩ | ⟨-, h⟩
                · skip
                  rcases mjSpl h with ⟨e, h⟩ | ⟨-, h⟩
                  · cases Nat.eq_of_beq_eq_true e
                    cases h
                    exact mjN_310
                  · cases h
                · skip
                  rcases mjSpl h with ⟨-, h⟩ | ⟨-, h⟩
                  · skip
                    rcases mjSpl h with ⟨e, h⟩ | ⟨-, h⟩
                    · cases Nat.eq_of_beq_eq_true e
                      cases h
                      exact mjN_311
                    · cases h
                  · skip
                    rcases mjSpl h with ⟨e, h⟩ | ⟨-, h⟩
                    · cases Nat.eq_of_beq_eq_true e
                      cases h
                      exact mjN_312
                    · cases h
theorem mjOkM (y : Nat) (M : MjM) (hy : 0 < y) (h : mjMt y = some M) : Cond.code M.1 M.2.1 M.2.2.1 M.2.2.2.1 ∈ mjAll ∧ plainName M.1.cls = true ∧ M.2.2.1 ≤ 45 := by
  have h1 := mjOkM0 y M hy h
  unfold mjMOk at h1
  simp only [Bool.and_eq_true] at h1
  exact ⟨mjHas_in h1.1, h1.2.1, Nat.le_of_ble_eq_true h1.2.2⟩
