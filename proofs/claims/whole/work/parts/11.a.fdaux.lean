section CBF
theorem bD_yes {S : cs_S} {d q i : Nat} (h1 : bLt S (bD S d q i) i = true) (h2 : canG S d q i = true) : nI i = oI (bD S d q (i + 1)) := by
  rw [show bD S d q (i + 1) = some i from if_pos ⟨h1, h2⟩]
  rfl
theorem bD_no1 {S : cs_S} {d q i : Nat} (h2 : canG S d q i = false) : oI (bD S d q i) = oI (bD S d q (i + 1)) := by
  rw [show bD S d q (i + 1) = bD S d q i from if_neg (fun z => by rw [h2] at z; exact absurd z.2 (by decide))]
theorem bD_no2 {S : cs_S} {d q i : Nat} (h1 : bLt S (bD S d q i) i = false) : oI (bD S d q i) = oI (bD S d q (i + 1)) := by
  rw [show bD S d q (i + 1) = bD S d q i from if_neg (fun z => by rw [h1] at z; exact absurd z.1 (by decide))]
theorem dig_0 {S : cs_S} : (10943 : Int64) + (nI (c_day S)).toInt64 = mixF (cnts S) (mix 353 (nI (c_day S)).toInt64) 0 := by
  show _ = ((353 : Int64) * 31) + _
  rw [show (353 : Int64) * 31 = 10943 by decide]
end CBF
