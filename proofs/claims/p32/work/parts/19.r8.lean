theorem mo_rs_0 {g : Nat → Int} {o : Nat} {w : Int} {q e v : Nat} (h : mo_rs g o w q e v = 0) : g 0 ≤ w ∧ mo_hb (g (168 + o)) v = true ∧ mo_hb (mo_dys g w (mo_nk g) o) ((q / 4 : Nat) : Int) = false ∧ mo_we g w e q = 0 ∧ 1 ≤ mo_fre g w (mo_nk g) (28 * v + q) ∧ g 7 ≠ 60 := by
  unfold mo_rs at h
  split at h
  · omega
  · split at h
    · omega
    · split at h
      · omega
      · split at h
        · omega
        · split at h
          · omega
          · split at h
            · omega
            · rename_i a1 a2 a3 a4 a5 a6
              refine ⟨by omega, by simpa using a2, by simpa using a3, by omega, by omega, a6⟩
