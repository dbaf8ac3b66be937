set_option maxHeartbeats 4000000 in
set_option maxRecDepth 100000 in
theorem A_write_inv {no : Int32} {ou : Nat → Int32} {x : Int32}  {ouv : Nat → Int32} {nov : Int32} (q0 : isN no 41) (e : F_A_write no ou x = (ouv, nov)) : isN nov 41 := by
  have q0b := q0.2
  unfold F_A_write at e
  by_cases k1 : 40 ≤ (nI (tN no))
  · rw [if_pos k1] at e
    have er_no : no = nov := congrArg (fun z => z.2) e
    exact (by rw [← er_no]; exact q0)
  · rw [if_neg k1] at e
    have z9 := nle_nat (m := 40) k1 (by omega) (by omega)
    have er_no : nI (tN no + 1) = nov := congrArg (fun z => z.2) e
    exact (by rw [← er_no]; exact isN_nI (by omega) (by decide))
set_option maxHeartbeats 4000000 in
set_option maxRecDepth 100000 in
theorem A_readOldest_inv {ni : Int32} {ip : Nat → Int32}  {ipv : Nat → Int32} {niv : Int32} {rv : Int32} (q0 : isN ni 9) (e : F_A_readOldest ni ip = (rv, ipv, niv)) : isN niv 9 := by
  have q0b := q0.2
  unfold F_A_readOldest at e
  by_cases k1 : (nI (tN ni)) = 0
  · rw [if_pos k1] at e
    have er_ni : ni = niv := congrArg (fun z => z.2.2) e
    exact (by rw [← er_ni]; exact q0)
  · rw [if_neg k1] at e
    have z8 : (tN ni) ≠ 0 := fun q => k1 (by rw [q]; rfl)
    have er_ni : nI (tN ni - 1) = niv := congrArg (fun z => z.2.2) e
    exact (by rw [← er_ni]; exact isN_nI (by omega) (by decide))
set_option maxHeartbeats 4000000 in
set_option maxRecDepth 100000 in
theorem A_compute_inv {ct : Int32} {ti : Int32} {ni : Int32} {no : Int32} {me : Nat → Int32} {rg : Nat → Int32} {ip : Nat → Int32} {ou : Nat → Int32} {v : Int32}  {rgv : Nat → Int32} {ipv : Nat → Int32} {ouv : Nat → Int32} {ctv : Int32} {tiv : Int32} {niv : Int32} {nov : Int32} (q0 : isN no 41) (q1 : isN ni 9) (q2 : isN ct 64) (e : F_A_compute ct ti ni no me rg ip ou v = (rgv, ipv, ouv, ctv, tiv, niv, nov)) : isN ctv 64 ∧ isN niv 9 ∧ isN nov 41 := by
  have q0b := q0.2
  have q1b := q1.2
  have q2b := q2.2
  unfold F_A_compute at e
  by_cases k1 : (nI (lo 4 v)) = 1
  · rw [if_pos k1] at e
    have er_ct : ct = ctv := congrArg (fun z => z.2.2.2.1) e
    have er_ni : ni = niv := congrArg (fun z => z.2.2.2.2.2.1) e
    have er_no : no = nov := congrArg (fun z => z.2.2.2.2.2.2) e
    exact ⟨(by rw [← er_ct]; exact q2), (by rw [← er_ni]; exact q1), (by rw [← er_no]; exact q0)⟩
  · rw [if_neg k1] at e
    by_cases k2 : (nI (lo 4 v)) = 2
    · rw [if_pos k2] at e
      have er_ct : ct = ctv := congrArg (fun z => z.2.2.2.1) e
      have er_ni : ni = niv := congrArg (fun z => z.2.2.2.2.2.1) e
      have er_no : no = nov := congrArg (fun z => z.2.2.2.2.2.2) e
      exact ⟨(by rw [← er_ct]; exact q2), (by rw [← er_ni]; exact q1), (by rw [← er_no]; exact q0)⟩
    · rw [if_neg k2] at e
      by_cases k3 : (nI (lo 4 v)) = 3
      · rw [if_pos k3] at e
        have er_ct : ct = ctv := congrArg (fun z => z.2.2.2.1) e
        have er_ni : ni = niv := congrArg (fun z => z.2.2.2.2.2.1) e
        have er_no : no = nov := congrArg (fun z => z.2.2.2.2.2.2) e
        exact ⟨(by rw [← er_ct]; exact q2), (by rw [← er_ni]; exact q1), (by rw [← er_no]; exact q0)⟩
      · rw [if_neg k3] at e
        by_cases k4 : (nI (lo 4 v)) = 4
        · rw [if_pos k4] at e
          have er_ct : ct = ctv := congrArg (fun z => z.2.2.2.1) e
          have er_ni : ni = niv := congrArg (fun z => z.2.2.2.2.2.1) e
          have er_no : no = nov := congrArg (fun z => z.2.2.2.2.2.2) e
          exact ⟨(by rw [← er_ct]; exact q2), (by rw [← er_ni]; exact q1), (by rw [← er_no]; exact q0)⟩
        · rw [if_neg k4] at e
          by_cases k5 : (nI (lo 4 v)) = 5
          · rw [if_pos k5] at e
            have er_ct : ct = ctv := congrArg (fun z => z.2.2.2.1) e
            have er_ni : ni = niv := congrArg (fun z => z.2.2.2.2.2.1) e
            have er_no : no = nov := congrArg (fun z => z.2.2.2.2.2.2) e
            exact ⟨(by rw [← er_ct]; exact q2), (by rw [← er_ni]; exact q1), (by rw [← er_no]; exact q0)⟩
          · rw [if_neg k5] at e
            by_cases k6 : (nI (lo 4 v)) = 6
            · rw [if_pos k6] at e
              have er_ct : ct = ctv := congrArg (fun z => z.2.2.2.1) e
              have er_ni : ni = niv := congrArg (fun z => z.2.2.2.2.2.1) e
              have er_no : no = nov := congrArg (fun z => z.2.2.2.2.2.2) e
              exact ⟨(by rw [← er_ct]; exact q2), (by rw [← er_ni]; exact q1), (by rw [← er_no]; exact q0)⟩
            · rw [if_neg k6] at e
              by_cases k7 : (nI (lo 4 v)) = 7
              · rw [if_pos k7] at e
                have er_ct : nI (lo 6 (v >>> (8 &&& 31))) = ctv := congrArg (fun z => z.2.2.2.1) e
                have er_ni : ni = niv := congrArg (fun z => z.2.2.2.2.2.1) e
                have er_no : no = nov := congrArg (fun z => z.2.2.2.2.2.2) e
                exact ⟨(by rw [← er_ct]; exact isN_nI (lo_lt 6 _) (by decide)), (by rw [← er_ni]; exact q1), (by rw [← er_no]; exact q0)⟩
              · rw [if_neg k7] at e
                by_cases k8 : (nI (lo 4 v)) = 8
                · rw [if_pos k8] at e
                  by_cases k9 : (rg (lo 2 (v >>> (4 &&& 31)))) = 0
                  · rw [if_pos k9] at e
                    have er_ct : nI (lo 6 (v >>> (8 &&& 31))) = ctv := congrArg (fun z => z.2.2.2.1) e
                    have er_ni : ni = niv := congrArg (fun z => z.2.2.2.2.2.1) e
                    have er_no : no = nov := congrArg (fun z => z.2.2.2.2.2.2) e
                    exact ⟨(by rw [← er_ct]; exact isN_nI (lo_lt 6 _) (by decide)), (by rw [← er_ni]; exact q1), (by rw [← er_no]; exact q0)⟩
                  · rw [if_neg k9] at e
                    have er_ct : ct = ctv := congrArg (fun z => z.2.2.2.1) e
                    have er_ni : ni = niv := congrArg (fun z => z.2.2.2.2.2.1) e
                    have er_no : no = nov := congrArg (fun z => z.2.2.2.2.2.2) e
                    exact ⟨(by rw [← er_ct]; exact q2), (by rw [← er_ni]; exact q1), (by rw [← er_no]; exact q0)⟩
                · rw [if_neg k8] at e
                  by_cases k10 : (nI (lo 4 v)) = 9
                  · rw [if_pos k10] at e
                    rcases k11 : F_A_write no ou (rg (lo 2 (v >>> (4 &&& 31)))) with ⟨ouv21, nov22⟩
                    rw [k11] at e
                    (try dsimp only at e)
                    have wk11 := A_write_inv q0 k11
                    have wk11_0 := (wk11).2
                    have er_ct : ct = ctv := congrArg (fun z => z.2.2.2.1) e
                    have er_ni : ni = niv := congrArg (fun z => z.2.2.2.2.2.1) e
                    have er_no : nov22 = nov := congrArg (fun z => z.2.2.2.2.2.2) e
                    exact ⟨(by rw [← er_ct]; exact q2), (by rw [← er_ni]; exact q1), (by rw [← er_no]; exact wk11)⟩
                  · rw [if_neg k10] at e
                    by_cases k12 : (nI (lo 4 v)) = 10
                    · rw [if_pos k12] at e
                      rcases k13 : F_A_readOldest ni ip with ⟨r26, ipv27, niv28⟩
                      rw [k13] at e
                      (try dsimp only at e)
                      have wk13 := A_readOldest_inv q1 k13
                      have wk13_0 := (wk13).2
                      have er_ct : ct = ctv := congrArg (fun z => z.2.2.2.1) e
                      have er_ni : niv28 = niv := congrArg (fun z => z.2.2.2.2.2.1) e
                      have er_no : no = nov := congrArg (fun z => z.2.2.2.2.2.2) e
                      exact ⟨(by rw [← er_ct]; exact q2), (by rw [← er_ni]; exact wk13), (by rw [← er_no]; exact q0)⟩
                    · rw [if_neg k12] at e
                      by_cases k14 : (nI (lo 4 v)) = 11
                      · rw [if_pos k14] at e
                        have er_ct : ct = ctv := congrArg (fun z => z.2.2.2.1) e
                        have er_ni : ni = niv := congrArg (fun z => z.2.2.2.2.2.1) e
                        have er_no : no = nov := congrArg (fun z => z.2.2.2.2.2.2) e
                        exact ⟨(by rw [← er_ct]; exact q2), (by rw [← er_ni]; exact q1), (by rw [← er_no]; exact q0)⟩
                      · rw [if_neg k14] at e
                        by_cases k15 : (nI (lo 4 v)) = 12
                        · rw [if_pos k15] at e
                          have er_ct : ct = ctv := congrArg (fun z => z.2.2.2.1) e
                          have er_ni : ni = niv := congrArg (fun z => z.2.2.2.2.2.1) e
                          have er_no : no = nov := congrArg (fun z => z.2.2.2.2.2.2) e
                          exact ⟨(by rw [← er_ct]; exact q2), (by rw [← er_ni]; exact q1), (by rw [← er_no]; exact q0)⟩
                        · rw [if_neg k15] at e
                          by_cases k16 : (nI (lo 4 v)) = 13
                          · rw [if_pos k16] at e
                            have er_ct : ct = ctv := congrArg (fun z => z.2.2.2.1) e
                            have er_ni : ni = niv := congrArg (fun z => z.2.2.2.2.2.1) e
                            have er_no : no = nov := congrArg (fun z => z.2.2.2.2.2.2) e
                            exact ⟨(by rw [← er_ct]; exact q2), (by rw [← er_ni]; exact q1), (by rw [← er_no]; exact q0)⟩
                          · rw [if_neg k16] at e
                            have er_ct : ct = ctv := congrArg (fun z => z.2.2.2.1) e
                            have er_ni : ni = niv := congrArg (fun z => z.2.2.2.2.2.1) e
                            have er_no : no = nov := congrArg (fun z => z.2.2.2.2.2.2) e
                            exact ⟨(by rw [← er_ct]; exact q2), (by rw [← er_ni]; exact q1), (by rw [← er_no]; exact q0)⟩
set_option maxHeartbeats 4000000 in
set_option maxRecDepth 100000 in
theorem A_tick_inv {ct : Int32} {ti : Int32} {rg : Nat → Int32}  {rgv : Nat → Int32} {ctv : Int32} {tiv : Int32} (q0 : isN ct 64) (e : F_A_tick ct ti rg = (rgv, ctv, tiv)) : isN ctv 64 := by
  have q0b := q0.2
  unfold F_A_tick at e
  by_cases k1 : ti = 0
  · rw [if_pos k1] at e
    have er_ct : ct = ctv := congrArg (fun z => z.2.1) e
    exact (by rw [← er_ct]; exact q0)
  · rw [if_neg k1] at e
    by_cases k2 : (ti - 1) = 0
    · rw [if_pos k2] at e
      have er_ct : 56 = ctv := congrArg (fun z => z.2.1) e
      exact (by rw [← er_ct]; exact isN_nI (n := 56) (by decide) (by decide))
    · rw [if_neg k2] at e
      have er_ct : ct = ctv := congrArg (fun z => z.2.1) e
      exact (by rw [← er_ct]; exact q0)
set_option maxHeartbeats 4000000 in
set_option maxRecDepth 100000 in
theorem G_perform_inv {nu : Int32} {bl : Nat → Int32} {sg : Nat → Int32} {hoA : Bool} {b1A : Int32} {w1A : Int32} {n1A : Int32} {ctA : Int32} {tiA : Int32} {niA : Int32} {noA : Int32} {rqA : Bool} {rbA : Int32} {rwdA : Int32} {meA : Nat → Int32} {rgA : Nat → Int32} {ipA : Nat → Int32} {ouA : Nat → Int32} {v : Int32}  {meAv : Nat → Int32} {rgAv : Nat → Int32} {ipAv : Nat → Int32} {ouAv : Nat → Int32} {ctAv : Int32} {tiAv : Int32} {niAv : Int32} {noAv : Int32} {rqAv : Bool} {rbAv : Int32} {rwdAv : Int32} {hoAv : Bool} {b1Av : Int32} {w1Av : Int32} {n1Av : Int32} {sgv : Nat → Int32} (q0 : isN noA 41) (q1 : isN niA 9) (q2 : isN ctA 64) (e : F_G_perform nu bl sg hoA b1A w1A n1A ctA tiA niA noA rqA rbA rwdA meA rgA ipA ouA v = (meAv, rgAv, ipAv, ouAv, ctAv, tiAv, niAv, noAv, rqAv, rbAv, rwdAv, hoAv, b1Av, w1Av, n1Av, sgv)) : isN ctAv 64 ∧ isN niAv 9 ∧ isN noAv 41 := by
  have q0b := q0.2
  have q1b := q1.2
  have q2b := q2.2
  unfold F_G_perform at e
  by_cases k1 : (nI (lo 4 v)) = 6
  · rw [if_pos k1] at e
    have er_ctA : ctA = ctAv := congrArg (fun z => z.2.2.2.2.1) e
    have er_niA : niA = niAv := congrArg (fun z => z.2.2.2.2.2.2.1) e
    have er_noA : noA = noAv := congrArg (fun z => z.2.2.2.2.2.2.2.1) e
    exact ⟨(by rw [← er_ctA]; exact q2), (by rw [← er_niA]; exact q1), (by rw [← er_noA]; exact q0)⟩
  · rw [if_neg k1] at e
    by_cases k2 : (nI (lo 4 v)) = 11
    · rw [if_pos k2] at e
      have er_ctA : ctA = ctAv := congrArg (fun z => z.2.2.2.2.1) e
      have er_niA : niA = niAv := congrArg (fun z => z.2.2.2.2.2.2.1) e
      have er_noA : noA = noAv := congrArg (fun z => z.2.2.2.2.2.2.2.1) e
      exact ⟨(by rw [← er_ctA]; exact q2), (by rw [← er_niA]; exact q1), (by rw [← er_noA]; exact q0)⟩
    · rw [if_neg k2] at e
      by_cases k3 : (nI (lo 4 v)) = 12
      · rw [if_pos k3] at e
        have er_ctA : ctA = ctAv := congrArg (fun z => z.2.2.2.2.1) e
        have er_niA : niA = niAv := congrArg (fun z => z.2.2.2.2.2.2.1) e
        have er_noA : noA = noAv := congrArg (fun z => z.2.2.2.2.2.2.2.1) e
        exact ⟨(by rw [← er_ctA]; exact q2), (by rw [← er_niA]; exact q1), (by rw [← er_noA]; exact q0)⟩
      · rw [if_neg k3] at e
        rcases k4 : F_A_compute ctA tiA niA noA meA rgA ipA ouA v with ⟨rgAv27, ipAv28, ouAv29, ctAv30, tiAv31, niAv32, noAv33⟩
        rw [k4] at e
        (try dsimp only at e)
        have wk4 := A_compute_inv q0 q1 q2 k4
        have wk4_0 := (wk4.1).2
        have wk4_1 := (wk4.2.1).2
        have wk4_2 := (wk4.2.2).2
        have er_ctA : ctAv30 = ctAv := congrArg (fun z => z.2.2.2.2.1) e
        have er_niA : niAv32 = niAv := congrArg (fun z => z.2.2.2.2.2.2.1) e
        have er_noA : noAv33 = noAv := congrArg (fun z => z.2.2.2.2.2.2.2.1) e
        exact ⟨(by rw [← er_ctA]; exact wk4.1), (by rw [← er_niA]; exact wk4.2.1), (by rw [← er_noA]; exact wk4.2.2)⟩
set_option maxHeartbeats 4000000 in
set_option maxRecDepth 100000 in
theorem G_retireNext_inv {nu : Int32} {bl : Nat → Int32} {sg : Nat → Int32} {hoA : Bool} {b1A : Int32} {w1A : Int32} {n1A : Int32} {ctA : Int32} {tiA : Int32} {niA : Int32} {noA : Int32} {rtA : Int32} {rqA : Bool} {rbA : Int32} {rwdA : Int32} {meA : Nat → Int32} {rgA : Nat → Int32} {ipA : Nat → Int32} {ouA : Nat → Int32} {v : Int32}  {meAv : Nat → Int32} {rgAv : Nat → Int32} {ipAv : Nat → Int32} {ouAv : Nat → Int32} {ctAv : Int32} {tiAv : Int32} {niAv : Int32} {noAv : Int32} {rqAv : Bool} {rbAv : Int32} {rwdAv : Int32} {hoAv : Bool} {b1Av : Int32} {w1Av : Int32} {n1Av : Int32} {sgv : Nat → Int32} {rtAv : Int32} {rv : Int32} (q0 : isN noA 41) (q1 : isN niA 9) (q2 : isN ctA 64) (e : F_G_retireNext nu bl sg hoA b1A w1A n1A ctA tiA niA noA rtA rqA rbA rwdA meA rgA ipA ouA v = (rv, meAv, rgAv, ipAv, ouAv, ctAv, tiAv, niAv, noAv, rqAv, rbAv, rwdAv, hoAv, b1Av, w1Av, n1Av, sgv, rtAv)) : isN ctAv 64 ∧ isN niAv 9 ∧ isN noAv 41 := by
  have q0b := q0.2
  have q1b := q1.2
  have q2b := q2.2
  unfold F_G_retireNext at e
  rcases k1 : F_A_haltsOrWaits rqA (nI (lo 4 v)) with ⟨r3, _⟩
  rw [k1] at e
  (try dsimp only at e)
  by_cases k2 : r3 = 0
  · rw [if_pos k2] at e
    rcases k3 : F_G_perform nu bl sg hoA b1A w1A n1A (nI ((tN ctA + 1) % 64)) tiA niA noA rqA rbA rwdA meA rgA ipA ouA v with ⟨meAv7, rgAv8, ipAv9, ouAv10, ctAv11, tiAv12, niAv13, noAv14, rqAv15, rbAv16, rwdAv17, hoAv18, b1Av19, w1Av20, n1Av21, sgv22⟩
    rw [k3] at e
    (try dsimp only at e)
    have wk3 := G_perform_inv q0 q1 (isN_nI (by omega) (by decide)) k3
    have wk3_0 := (wk3.1).2
    have wk3_1 := (wk3.2.1).2
    have wk3_2 := (wk3.2.2).2
    rcases k4 : F_A_tick ctAv11 tiAv12 rgAv8 with ⟨rgAv25, ctAv26, tiAv27⟩
    rw [k4] at e
    (try dsimp only at e)
    have wk4 := A_tick_inv wk3.1 k4
    have wk4_0 := (wk4).2
    have er_ctA : ctAv26 = ctAv := congrArg (fun z => z.2.2.2.2.2.1) e
    have er_niA : niAv13 = niAv := congrArg (fun z => z.2.2.2.2.2.2.2.1) e
    have er_noA : noAv14 = noAv := congrArg (fun z => z.2.2.2.2.2.2.2.2.1) e
    exact ⟨(by rw [← er_ctA]; exact wk4), (by rw [← er_niA]; exact wk3.2.1), (by rw [← er_noA]; exact wk3.2.2)⟩
  · rw [if_neg k2] at e
    have er_ctA : ctA = ctAv := congrArg (fun z => z.2.2.2.2.2.1) e
    have er_niA : niA = niAv := congrArg (fun z => z.2.2.2.2.2.2.2.1) e
    have er_noA : noA = noAv := congrArg (fun z => z.2.2.2.2.2.2.2.2.1) e
    exact ⟨(by rw [← er_ctA]; exact q2), (by rw [← er_niA]; exact q1), (by rw [← er_noA]; exact q0)⟩
/-- the instructions of a run, one after the other -/
def runG (nu : Int32) (bl : Nat → Int32) : Nat → Nat → (Nat → Int32) → (Nat → Int32) → (Nat → Int32) → (Nat → Int32) → (Int32) → (Int32) → (Int32) → (Int32) → (Bool) → (Int32) → (Int32) → (Bool) → (Int32) → (Int32) → (Int32) → (Nat → Int32) → (Int32) → Int32 × (Nat → Int32) × (Nat → Int32) × (Nat → Int32) × (Nat → Int32) × (Int32) × (Int32) × (Int32) × (Int32) × (Bool) × (Int32) × (Int32) × (Bool) × (Int32) × (Int32) × (Int32) × (Nat → Int32) × (Int32)
  | 0, dn, meA, rgA, ipA, ouA, ctA, tiA, niA, noA, rqA, rbA, rwdA, hoA, b1A, w1A, n1A, sg, rtA => (nI dn, (meA, rgA, ipA, ouA, ctA, tiA, niA, noA, rqA, rbA, rwdA, hoA, b1A, w1A, n1A, sg, rtA))
  | f + 1, dn, meA, rgA, ipA, ouA, ctA, tiA, niA, noA, rqA, rbA, rwdA, hoA, b1A, w1A, n1A, sg, rtA =>
    match F_G_retireNext nu bl sg hoA b1A w1A n1A ctA tiA niA noA rtA rqA rbA rwdA meA rgA ipA ouA (meA (tN ctA)) with
    | (r, meAv, rgAv, ipAv, ouAv, ctAv, tiAv, niAv, noAv, rqAv, rbAv, rwdAv, hoAv, b1Av, w1Av, n1Av, sgv, rtAv) => if r = 0 then (nI dn, (meAv, rgAv, ipAv, ouAv, ctAv, tiAv, niAv, noAv, rqAv, rbAv, rwdAv, hoAv, b1Av, w1Av, n1Av, sgv, rtAv)) else runG nu bl f (dn + 1) meAv rgAv ipAv ouAv ctAv tiAv niAv noAv rqAv rbAv rwdAv hoAv b1Av w1Av n1Av sgv rtAv
def F_G_run (wn : Int32) (nu : Int32) (bl : Nat → Int32) (go : Bool) (sp : Bool) (sg : Nat → Int32) (huA : Bool) (hdA : Bool) (hoA : Bool) (b1A : Int32) (w1A : Int32) (n1A : Int32) (ctA : Int32) (tiA : Int32) (niA : Int32) (noA : Int32) (rtA : Int32) (rqA : Bool) (rbA : Int32) (rwdA : Int32) (meA : Nat → Int32) (rgA : Nat → Int32) (ipA : Nat → Int32) (ouA : Nat → Int32) (host : Int32) (n : Int32) : Int32 × (Nat → Int32) × (Nat → Int32) × (Nat → Int32) × (Nat → Int32) × Int32 × Int32 × Int32 × Int32 × Bool × Int32 × Int32 × Bool × Int32 × Int32 × Int32 × (Nat → Int32) × Int32 :=
  match F_G_isBelow host 2 with
  | (r2, _) =>
    if r2 = 0 then
      ((-1), (meA, rgA, ipA, ouA, ctA, tiA, niA, noA, rqA, rbA, rwdA, hoA, b1A, w1A, n1A, sg, rtA))
    else
      if n < 1 then
        ((-1), (meA, rgA, ipA, ouA, ctA, tiA, niA, noA, rqA, rbA, rwdA, hoA, b1A, w1A, n1A, sg, rtA))
      else
        if n ≤ 100 then
          match F_G_runsGuest wn go sp huA hdA (tN host) with
          | (r8, _) =>
            if r8 = 0 then
              ((-2), (meA, rgA, ipA, ouA, ctA, tiA, niA, noA, rqA, rbA, rwdA, hoA, b1A, w1A, n1A, sg, rtA))
            else
              runG nu bl (tN n) 0 meA rgA ipA ouA ctA tiA niA noA rqA rbA rwdA hoA b1A w1A n1A sg rtA
        else
          ((-1), (meA, rgA, ipA, ouA, ctA, tiA, niA, noA, rqA, rbA, rwdA, hoA, b1A, w1A, n1A, sg, rtA))
set_option maxHeartbeats 4000000 in
set_option maxRecDepth 100000 in
theorem c_G_run (l : Launch) (D : va_G) (cT : Nat → ClassId) (qg : Nat) (qim : Nat) (qbl : Nat) (qho : Nat) (qv : Nat) (ql : Nat) (qsg : Nat) (qsr : Nat) (qhA : Nat) (qmA : Nat) (qhsA : Nat) (qmeA : Nat) (qrgA : Nat) (qipA : Nat) (qouA : Nat) (wn : Int32) (nu : Int32) (hq : Nat → Option Nat) (bl : Nat → Int32) (go : Bool) (sp : Bool) (mn : Int32) (sc : Int32) (st : Int32) (se : Int32) (fp : Int32) (sg : Nat → Int32) (sr : Nat → Int32) (huA : Bool) (hdA : Bool) (taA : Bool) (reA : Bool) (hoA : Bool) (b1A : Int32) (w1A : Int32) (n1A : Int32) (hsA : Nat → Int32) (ctA : Int32) (tiA : Int32) (niA : Int32) (noA : Int32) (rtA : Int32) (rqA : Bool) (rbA : Int32) (rwdA : Int32) (meA : Nat → Int32) (rgA : Nat → Int32) (ipA : Nat → Int32) (ouA : Nat → Int32) (host : Int32) (n : Int32) (hqA : isN host 2 → hq (tN host) = some qhA) (n2 : isN noA 41) (n3 : isN niA 9) (n4 : isN ctA 64) : Cti l y_G_run ws_G_run { frames := 5, cells := 0, slots := 0, locals := 117 } D vwCl (TYS cT) [.ref qg, .int host, .int n] [(qg, .inr (5, [.ref qim, .ref qbl, .ref qho, .ref qv, .ref ql, .int wn, .int nu])), (qho, .inl (cT 2, 2, .inr (.inr (.inr (.inr hq))))), (qbl, .inl (cT 0, 8, .inl bl)), (qv, .inr (3, [.ref qsg, .ref qsr, .int (bI go), .int (bI sp), .int mn, .int sc, .int st, .int se, .int fp])), (qsg, .inl (cT 0, 8, .inl sg)), (qsr, .inl (cT 0, 8, .inl sr)), (qhA, .inr (0, [.ref qmA, .ref qhsA, .int (bI huA), .int (bI hdA), .int (bI taA), .int (bI reA), .int (bI hoA), .int b1A, .int w1A, .int n1A])), (qhsA, .inl (cT 0, 8, .inl hsA)), (qmA, .inr (2, [.ref qmeA, .ref qrgA, .ref qipA, .ref qouA, .int ctA, .int tiA, .int niA, .int noA, .int rtA, .int (bI rqA), .int rbA, .int rwdA])), (qmeA, .inl (cT 0, 64, .inl meA)), (qrgA, .inl (cT 0, 4, .inl rgA)), (qipA, .inl (cT 0, 8, .inl ipA)), (qouA, .inl (cT 0, 40, .inl ouA))] (fun (rr : Int32) (uu : (Nat → Int32) × (Nat → Int32) × (Nat → Int32) × (Nat → Int32) × Int32 × Int32 × Int32 × Int32 × Bool × Int32 × Int32 × Bool × Int32 × Int32 × Int32 × (Nat → Int32) × Int32) => F_G_run wn nu bl go sp sg huA hdA hoA b1A w1A n1A ctA tiA niA noA rtA rqA rbA rwdA meA rgA ipA ouA host n = (rr, uu)) (fun (u : (Nat → Int32) × (Nat → Int32) × (Nat → Int32) × (Nat → Int32) × Int32 × Int32 × Int32 × Int32 × Bool × Int32 × Int32 × Bool × Int32 × Int32 × Int32 × (Nat → Int32) × Int32) => [(qg, .inr (5, [.ref qim, .ref qbl, .ref qho, .ref qv, .ref ql, .int wn, .int nu])), (qho, .inl (cT 2, 2, .inr (.inr (.inr (.inr hq))))), (qbl, .inl (cT 0, 8, .inl bl)), (qv, .inr (3, [.ref qsg, .ref qsr, .int (bI go), .int (bI sp), .int mn, .int sc, .int st, .int se, .int fp])), (qsg, .inl (cT 0, 8, .inl u.2.2.2.2.2.2.2.2.2.2.2.2.2.2.2.1)), (qsr, .inl (cT 0, 8, .inl sr)), (qhA, .inr (0, [.ref qmA, .ref qhsA, .int (bI huA), .int (bI hdA), .int (bI taA), .int (bI reA), .int (bI u.2.2.2.2.2.2.2.2.2.2.2.1), .int (u.2.2.2.2.2.2.2.2.2.2.2.2.1), .int (u.2.2.2.2.2.2.2.2.2.2.2.2.2.1), .int (u.2.2.2.2.2.2.2.2.2.2.2.2.2.2.1)])), (qhsA, .inl (cT 0, 8, .inl hsA)), (qmA, .inr (2, [.ref qmeA, .ref qrgA, .ref qipA, .ref qouA, .int (u.2.2.2.2.1), .int (u.2.2.2.2.2.1), .int (u.2.2.2.2.2.2.1), .int (u.2.2.2.2.2.2.2.1), .int (u.2.2.2.2.2.2.2.2.2.2.2.2.2.2.2.2), .int (bI u.2.2.2.2.2.2.2.2.1), .int (u.2.2.2.2.2.2.2.2.2.1), .int (u.2.2.2.2.2.2.2.2.2.2.1)])), (qmeA, .inl (cT 0, 64, .inl u.1)), (qrgA, .inl (cT 0, 4, .inl u.2.1)), (qipA, .inl (cT 0, 8, .inl u.2.2.1)), (qouA, .inl (cT 0, 40, .inl u.2.2.2.1))]) 0 0 := by
  refine x_ini (cc := b_G_run) (maxL := 4) (by decide) rfl (Nat.le_of_ble_eq_true rfl) ?_
  intro p e s m args below meth c A ls Q F hl hw ret
  have hl : lv_has ls 4 [(0, .ref qg), (1, .int host), (2, .int n)] := hl
  have n2b := n2.2
  have n3b := n3.2
  have n4b := n4.2
  refine lv_iload_n (pc := 0) F.1 F.2.1 d_G_run_0 rfl (lv_at hl 1 rfl) ?_
  refine lv_iconst (pc := 1) (v := 2) F.1 F.2.1 d_G_run_1 (by decide) ?_
  refine x_calli (pc := 2) (wr := [(qg, .inr (5, [.ref qim, .ref qbl, .ref qho, .ref qv, .ref ql, .int wn, .int nu])), (qho, .inl (cT 2, 2, .inr (.inr (.inr (.inr hq))))), (qbl, .inl (cT 0, 8, .inl bl)), (qv, .inr (3, [.ref qsg, .ref qsr, .int (bI go), .int (bI sp), .int mn, .int sc, .int st, .int se, .int fp])), (qsg, .inl (cT 0, 8, .inl sg)), (qsr, .inl (cT 0, 8, .inl sr)), (qhA, .inr (0, [.ref qmA, .ref qhsA, .int (bI huA), .int (bI hdA), .int (bI taA), .int (bI reA), .int (bI hoA), .int b1A, .int w1A, .int n1A])), (qhsA, .inl (cT 0, 8, .inl hsA)), (qmA, .inr (2, [.ref qmeA, .ref qrgA, .ref qipA, .ref qouA, .int ctA, .int tiA, .int niA, .int noA, .int rtA, .int (bI rqA), .int rbA, .int rwdA])), (qmeA, .inl (cT 0, 64, .inl meA)), (qrgA, .inl (cT 0, 4, .inl rgA)), (qipA, .inl (cT 0, 8, .inl ipA)), (qouA, .inl (cT 0, 40, .inl ouA))]) hw [] [0, 1, 2, 3, 4, 5, 6, 7, 8, 9, 10, 11, 12] rfl rfl (by decide) (by decide) (va_runS (As := [.int host, .int 2]) (rest := []) F (c_G_isBelow l D cT host 2  _) (x_cwS 2 F (g_all y_G_isBelow b_G_isBelow 2 (some .boolean) (List.mem_cons_of_mem _ m_236)) rfl rfl rfl (F.2.2.2.2 _ (List.mem_cons_of_mem _ m_35)) (F.2.2.2.2 _ (List.mem_cons_of_mem _ m_234)) (F.2.2.2.2 _ (List.mem_cons_of_mem _ m_235)) (by decide +kernel) ⟨by decide, by decide⟩) (hw.preS [] (by decide) rfl) rfl rfl hl.1 rfl (lv_room (Nat.le_of_ble_eq_true rfl)) d_G_run_2 ⟨by decide, by decide⟩) (fun r2 u3 H locs e1 hw => ?_)
  have hw : Hw D vwCl (TYS cT) A s [(qg, .inr (5, [.ref qim, .ref qbl, .ref qho, .ref qv, .ref ql, .int wn, .int nu])), (qho, .inl (cT 2, 2, .inr (.inr (.inr (.inr hq))))), (qbl, .inl (cT 0, 8, .inl bl)), (qv, .inr (3, [.ref qsg, .ref qsr, .int (bI go), .int (bI sp), .int mn, .int sc, .int st, .int se, .int fp])), (qsg, .inl (cT 0, 8, .inl sg)), (qsr, .inl (cT 0, 8, .inl sr)), (qhA, .inr (0, [.ref qmA, .ref qhsA, .int (bI huA), .int (bI hdA), .int (bI taA), .int (bI reA), .int (bI hoA), .int b1A, .int w1A, .int n1A])), (qhsA, .inl (cT 0, 8, .inl hsA)), (qmA, .inr (2, [.ref qmeA, .ref qrgA, .ref qipA, .ref qouA, .int ctA, .int tiA, .int niA, .int noA, .int rtA, .int (bI rqA), .int rbA, .int rwdA])), (qmeA, .inl (cT 0, 64, .inl meA)), (qrgA, .inl (cT 0, 4, .inl rgA)), (qipA, .inl (cT 0, 8, .inl ipA)), (qouA, .inl (cT 0, 40, .inl ouA))] H locs := hw
  refine lv_if_eq (pc := 5) (tgt := 19) F.1 F.2.1 d_G_run_5 rfl (fun h4 => ?_) (fun h4 => ?_)
  · refine lv_iconst (pc := 19) (v := (-1)) F.1 F.2.1 d_G_run_19 (by decide) ?_
    refine W.widen (k := 0) (n := 0) (by decide) (by decide) ?_
    exact ret (-1) (meA, rgA, ipA, ouA, ctA, tiA, niA, noA, rqA, rbA, rwdA, hoA, b1A, w1A, n1A, sg, rtA) _ _ 20 _ (by unfold F_G_run <;> rw [e1] <;> (try dsimp only) <;> rw [if_pos h4] <;> rfl) hw d_G_run_20
  · have nh := isBelow_nat (b := 2) rfl (by decide) e1 h4
    have nhb := nh.2
    have hqa := hqA nh
    refine lv_iload_n (pc := 8) F.1 F.2.1 d_G_run_8 rfl (lv_at hl 2 rfl) ?_
    refine lv_iconst (pc := 9) (v := 1) F.1 F.2.1 d_G_run_9 (by decide) ?_
    refine lv_icmp_lt (pc := 10) (tgt := 19) F.1 F.2.1 d_G_run_10 rfl (fun h5 => ?_) (fun h5 => ?_)
    · refine lv_iconst (pc := 19) (v := (-1)) F.1 F.2.1 d_G_run_19 (by decide) ?_
      refine W.widen (k := 0) (n := 0) (by decide) (by decide) ?_
      exact ret (-1) (meA, rgA, ipA, ouA, ctA, tiA, niA, noA, rqA, rbA, rwdA, hoA, b1A, w1A, n1A, sg, rtA) _ _ 20 _ (by unfold F_G_run <;> rw [e1] <;> (try dsimp only) <;> rw [if_neg h4] <;> rw [if_pos h5] <;> rfl) hw d_G_run_20
    · refine lv_iload_n (pc := 13) F.1 F.2.1 d_G_run_13 rfl (lv_at hl 2 rfl) ?_
      refine lv_bipush (pc := 14) (v := 100) F.1 F.2.1 d_G_run_14 (by decide) ?_
      refine lv_icmp_le (pc := 16) (tgt := 21) F.1 F.2.1 d_G_run_16 rfl (fun h6 => ?_) (fun h6 => ?_)
      · have nn := isN_le1 h5 (y := 100) (b := 100) rfl h6
        have nnb := nn.2
        refine lv_aload_n (pc := 21) F.1 F.2.1 d_G_run_21 rfl (lv_at hl 0 rfl) ?_
        refine lv_iload_n (pc := 22) F.1 F.2.1 d_G_run_22 rfl (lv_at hl 1 rfl) ?_
        refine x_top (y := nI (tN host)) nh.1 ?_
        refine x_calli (pc := 23) (wr := [(qbl, .inl (cT 0, 8, .inl bl))]) hw [0, 1, 3, 4, 5, 6, 7, 8, 9, 10, 11, 12] [2] rfl rfl (by decide) (by decide) (va_runV (As := [.int (nI (tN host))]) (rest := []) F (c_G_runsGuest l D cT qg qim qbl qho qv ql qsg qsr qhA qmA qhsA qmeA qrgA qipA qouA wn nu hq go sp mn sc st se fp sg sr huA hdA taA reA hoA b1A w1A n1A hsA ctA tiA niA noA rtA rqA rbA rwdA meA rgA ipA ouA (tN host) (by omega) hqa _) (x_cw (C := "MovingGuest") 1 F (g_all y_G_runsGuest b_G_runsGuest 2 (some .boolean) (List.mem_cons_of_mem _ m_261)) rfl rfl rfl (F.2.2.2.2 _ (List.mem_cons_of_mem _ m_35)) (F.2.2.2.2 _ (List.mem_cons_of_mem _ m_259)) (F.2.2.2.2 _ (List.mem_cons_of_mem _ m_260)) (F.2.2.2.2 _ (List.mem_cons_of_mem _ m_0)) (by decide +kernel) ⟨by decide, by decide⟩) (hw.preV (q0 := 0) [0, 1, 3, 4, 5, 6, 7, 8, 9, 10, 11, 12] (by decide) rfl rfl rfl) rfl rfl hl.1 rfl (lv_room (Nat.le_of_ble_eq_true rfl)) d_G_run_23 ⟨by decide, by decide⟩) (fun r8 u9 H locs e7 hw => ?_)
        have hw : Hw D vwCl (TYS cT) A s [(qbl, .inl (cT 0, 8, .inl bl)), (qg, .inr (5, [.ref qim, .ref qbl, .ref qho, .ref qv, .ref ql, .int wn, .int nu])), (qho, .inl (cT 2, 2, .inr (.inr (.inr (.inr hq))))), (qv, .inr (3, [.ref qsg, .ref qsr, .int (bI go), .int (bI sp), .int mn, .int sc, .int st, .int se, .int fp])), (qsg, .inl (cT 0, 8, .inl sg)), (qsr, .inl (cT 0, 8, .inl sr)), (qhA, .inr (0, [.ref qmA, .ref qhsA, .int (bI huA), .int (bI hdA), .int (bI taA), .int (bI reA), .int (bI hoA), .int b1A, .int w1A, .int n1A])), (qhsA, .inl (cT 0, 8, .inl hsA)), (qmA, .inr (2, [.ref qmeA, .ref qrgA, .ref qipA, .ref qouA, .int ctA, .int tiA, .int niA, .int noA, .int rtA, .int (bI rqA), .int rbA, .int rwdA])), (qmeA, .inl (cT 0, 64, .inl meA)), (qrgA, .inl (cT 0, 4, .inl rgA)), (qipA, .inl (cT 0, 8, .inl ipA)), (qouA, .inl (cT 0, 40, .inl ouA))] H locs := hw
        refine lv_if_ne (pc := 26) (tgt := 32) F.1 F.2.1 d_G_run_26 rfl (fun h10 => ?_) (fun h10 => ?_)
        · refine lv_iconst (pc := 32) (v := 0) F.1 F.2.1 d_G_run_32 (by decide) ?_
          refine lv_istore_n (pc := 33) (lv' := [(3, .int 0), (0, .ref qg), (1, .int host), (2, .int n)]) F.1 F.2.1 d_G_run_33 rfl hl (by decide) rfl (fun ls hl => ?_)
          have loop11 : ∀ (kf : Nat) (f : Nat) (dn : Nat) (meAL : Nat → Int32) (rgAL : Nat → Int32) (ipAL : Nat → Int32) (ouAL : Nat → Int32) (ctAL : Int32) (tiAL : Int32) (niAL : Int32) (noAL : Int32) (rqAL : Bool) (rbAL : Int32) (rwdAL : Int32) (hoAL : Bool) (b1AL : Int32) (w1AL : Int32) (n1AL : Int32) (sgL : Nat → Int32) (rtAL : Int32) (ls : Array Slot) (H : Heap) (locs : List Loc), f = kf → (f + dn = tN n) → (isN noAL 41) → (isN niAL 9) → (isN ctAL 64) → (F_G_run wn nu bl go sp sg huA hdA hoA b1A w1A n1A ctA tiA niA noA rtA rqA rbA rwdA meA rgA ipA ouA host n = runG nu bl f dn meAL rgAL ipAL ouAL ctAL tiAL niAL noAL rqAL rbAL rwdAL hoAL b1AL w1AL n1AL sgL rtAL) → lv_has ls 4 [(3, .int (nI dn)), (0, .ref qg), (1, .int host), (2, .int n)] → Hw D vwCl (TYS cT) A s [(qbl, .inl (cT 0, 8, .inl bl)), (qg, .inr (5, [.ref qim, .ref qbl, .ref qho, .ref qv, .ref ql, .int wn, .int nu])), (qho, .inl (cT 2, 2, .inr (.inr (.inr (.inr hq))))), (qv, .inr (3, [.ref qsg, .ref qsr, .int (bI go), .int (bI sp), .int mn, .int sc, .int st, .int se, .int fp])), (qsg, .inl (cT 0, 8, .inl sgL)), (qsr, .inl (cT 0, 8, .inl sr)), (qhA, .inr (0, [.ref qmA, .ref qhsA, .int (bI huA), .int (bI hdA), .int (bI taA), .int (bI reA), .int (bI hoAL), .int b1AL, .int w1AL, .int n1AL])), (qhsA, .inl (cT 0, 8, .inl hsA)), (qmA, .inr (2, [.ref qmeA, .ref qrgA, .ref qipA, .ref qouA, .int ctAL, .int tiAL, .int niAL, .int noAL, .int rtAL, .int (bI rqAL), .int rbAL, .int rwdAL])), (qmeA, .inl (cT 0, 64, .inl meAL)), (qrgA, .inl (cT 0, 4, .inl rgAL)), (qipA, .inl (cT 0, 8, .inl ipAL)), (qouA, .inl (cT 0, 40, .inl ouAL))] H locs → W p l e { frames := 5, cells := 0, slots := 0, locals := 117 } s m args below meth c H locs 0 0 Q (F0 m 34 ls []) := by
            intro kf
            induction kf using Nat.strongRecOn with
            | _ kf ih11 =>
            intro f dn meAL rgAL ipAL ouAL ctAL tiAL niAL noAL rqAL rbAL rwdAL hoAL b1AL w1AL n1AL sgL rtAL ls H locs hk hi n2 n3 n4 hF hl hw
            refine lv_iload_n (pc := 34) F.1 F.2.1 d_G_run_34 rfl (lv_at hl 0 rfl) ?_
            refine lv_iload_n (pc := 35) F.1 F.2.1 d_G_run_35 rfl (lv_at hl 3 rfl) ?_
            refine x_top (y := nI (tN n)) nn.1 ?_
            refine lv_icmp_ge (pc := 36) (tgt := 58) F.1 F.2.1 d_G_run_36 rfl (fun h12 => ?_) (fun h12 => ?_)
            · have h12 := (nI_leI (a := tN n) (b := dn) (by omega) (by omega)).mp h12
              obtain rfl : f = 0 := by omega
              refine lv_iload_n (pc := 58) F.1 F.2.1 d_G_run_58 rfl (lv_at hl 0 rfl) ?_
              refine W.widen (k := 0) (n := 0) (by decide) (by decide) ?_
              exact ret (nI dn) (meAL, rgAL, ipAL, ouAL, ctAL, tiAL, niAL, noAL, rqAL, rbAL, rwdAL, hoAL, b1AL, w1AL, n1AL, sgL, rtAL) _ _ 59 _ (by rw [hF, runG] <;> rfl) (hw.sub [1, 2, 0, 3, 4, 5, 6, 7, 8, 9, 10, 11, 12] (by decide) rfl) d_G_run_59
            · have h12 : ¬ tN n ≤ dn := fun z9 => h12 ((nI_leI (a := tN n) (b := dn) (by omega) (by omega)).mpr z9)
              obtain ⟨f, rfl⟩ : ∃ x, f = x + 1 := ⟨f - 1, by omega⟩
              refine lv_aload_n (pc := 39) F.1 F.2.1 d_G_run_39 rfl (lv_at hl 1 rfl) ?_
              refine lv_aload_n (pc := 40) F.1 F.2.1 d_G_run_40 rfl (lv_at hl 1 rfl) ?_
              refine x_get (pc := 41) (v := .ref qho) F hw 1 2 (fun x h => List.mem_cons_of_mem _ (in_G x h)) rfl rfl (by decide) (List.mem_cons_of_mem _ m_210) rfl d_G_run_41 ?_
              refine lv_iload_n (pc := 44) F.1 F.2.1 d_G_run_44 rfl (lv_at hl 2 rfl) ?_
              refine x_top (y := nI (tN host)) nh.1 ?_
              refine x_aldq (pc := 45) F hw 2 2 (tN host) rfl rfl rfl (by omega) (by decide) d_G_run_45 ?_
              rw [hqa]
              refine x_ref ?_
              refine x_calli (pc := 46) (wr := [(qho, .inl (cT 2, 2, .inr (.inr (.inr (.inr hq)))))]) hw [1, 0, 3, 4, 5, 6, 7, 8, 9, 10, 11, 12] [2] rfl rfl (by decide) (by decide) (va_runV (As := [.ref qhA]) (rest := []) F (c_G_retireNext l D cT qg qim qbl qho qv ql qsg qsr qhA qmA qhsA qmeA qrgA qipA qouA wn nu bl go sp mn sc st se fp sgL sr huA hdA taA reA hoAL b1AL w1AL n1AL hsA ctAL tiAL niAL noAL rtAL rqAL rbAL rwdAL meAL rgAL ipAL ouAL (meAL (tN ctAL)) n2 n3 n4 rfl _) (x_cw (C := "MovingGuest") 1 F (g_all y_G_retireNext b_G_retireNext 4 (some .boolean) (List.mem_cons_of_mem _ m_267)) rfl rfl rfl (F.2.2.2.2 _ (List.mem_cons_of_mem _ m_35)) (F.2.2.2.2 _ (List.mem_cons_of_mem _ m_265)) (F.2.2.2.2 _ (List.mem_cons_of_mem _ m_266)) (F.2.2.2.2 _ (List.mem_cons_of_mem _ m_2)) (by decide +kernel) ⟨by decide, by decide⟩) (hw.preV (q0 := 1) [1, 0, 3, 4, 5, 6, 7, 8, 9, 10, 11, 12] (by decide) rfl rfl rfl) rfl rfl hl.1 rfl (lv_room (Nat.le_of_ble_eq_true rfl)) d_G_run_46 ⟨by decide, by decide⟩) (fun r14 u32 H locs e13 hw => ?_)
              obtain ⟨meAv15, rgAv16, ipAv17, ouAv18, ctAv19, tiAv20, niAv21, noAv22, rqAv23, rbAv24, rwdAv25, hoAv26, b1Av27, w1Av28, n1Av29, sgv30, rtAv31⟩ := u32
              have hw : Hw D vwCl (TYS cT) A s [(qho, .inl (cT 2, 2, .inr (.inr (.inr (.inr hq))))), (qg, .inr (5, [.ref qim, .ref qbl, .ref qho, .ref qv, .ref ql, .int wn, .int nu])), (qbl, .inl (cT 0, 8, .inl bl)), (qv, .inr (3, [.ref qsg, .ref qsr, .int (bI go), .int (bI sp), .int mn, .int sc, .int st, .int se, .int fp])), (qsg, .inl (cT 0, 8, .inl sgv30)), (qsr, .inl (cT 0, 8, .inl sr)), (qhA, .inr (0, [.ref qmA, .ref qhsA, .int (bI huA), .int (bI hdA), .int (bI taA), .int (bI reA), .int (bI hoAv26), .int b1Av27, .int w1Av28, .int n1Av29])), (qhsA, .inl (cT 0, 8, .inl hsA)), (qmA, .inr (2, [.ref qmeA, .ref qrgA, .ref qipA, .ref qouA, .int ctAv19, .int tiAv20, .int niAv21, .int noAv22, .int rtAv31, .int (bI rqAv23), .int rbAv24, .int rwdAv25])), (qmeA, .inl (cT 0, 64, .inl meAv15)), (qrgA, .inl (cT 0, 4, .inl rgAv16)), (qipA, .inl (cT 0, 8, .inl ipAv17)), (qouA, .inl (cT 0, 40, .inl ouAv18))] H locs := hw
              refine lv_if_eq (pc := 49) (tgt := 58) F.1 F.2.1 d_G_run_49 rfl (fun h33 => ?_) (fun h33 => ?_)
              · refine lv_iload_n (pc := 58) F.1 F.2.1 d_G_run_58 rfl (lv_at hl 0 rfl) ?_
                refine W.widen (k := 0) (n := 0) (by decide) (by decide) ?_
                exact ret (nI dn) (meAv15, rgAv16, ipAv17, ouAv18, ctAv19, tiAv20, niAv21, noAv22, rqAv23, rbAv24, rwdAv25, hoAv26, b1Av27, w1Av28, n1Av29, sgv30, rtAv31) _ _ 59 _ (by rw [hF, runG] <;> rw [e13] <;> (try dsimp only) <;> rw [if_pos h33] <;> rfl) (hw.sub [1, 0, 2, 3, 4, 5, 6, 7, 8, 9, 10, 11, 12] (by decide) rfl) d_G_run_59
              · refine lv_iinc (pc := 52) (k := 0) (v := nI (dn + 1)) (lv' := [(3, .int (nI (dn + 1))), (0, .ref qg), (1, .int host), (2, .int n)]) F.1 F.2.1 d_G_run_52 hl rfl (x_add2 rfl rfl) (by decide) rfl (fun ls hl => ?_)
                refine lv_goto (pc := 55) (tgt := 34) F.1 F.2.1 d_G_run_55 rfl ?_
                exact ih11 _ (by omega) f (dn + 1) meAv15 rgAv16 ipAv17 ouAv18 ctAv19 tiAv20 niAv21 noAv22 rqAv23 rbAv24 rwdAv25 hoAv26 b1Av27 w1Av28 n1Av29 sgv30 rtAv31 _ _ _ rfl (by omega) (G_retireNext_inv n2 n3 n4 e13).2.2 (G_retireNext_inv n2 n3 n4 e13).2.1 (G_retireNext_inv n2 n3 n4 e13).1 (by rw [hF, runG] <;> rw [e13] <;> (try dsimp only) <;> rw [if_neg h33] <;> rfl) hl (hw.sub [2, 1, 0, 3, 4, 5, 6, 7, 8, 9, 10, 11, 12] (by decide) rfl)
          exact loop11 _ (tN n) 0 meA rgA ipA ouA ctA tiA niA noA rqA rbA rwdA hoA b1A w1A n1A sg rtA _ _ _ rfl (by omega) n2 n3 n4 (by unfold F_G_run <;> rw [e1] <;> (try dsimp only) <;> rw [if_neg h4] <;> rw [if_neg h5] <;> rw [if_pos h6] <;> rw [e7] <;> (try dsimp only) <;> rw [if_neg h10] <;> rfl) hl hw
        · refine lv_bipush (pc := 29) (v := (-2)) F.1 F.2.1 d_G_run_29 (by decide) ?_
          refine W.widen (k := 0) (n := 0) (by decide) (by decide) ?_
          exact ret (-2) (meA, rgA, ipA, ouA, ctA, tiA, niA, noA, rqA, rbA, rwdA, hoA, b1A, w1A, n1A, sg, rtA) _ _ 31 _ (by unfold F_G_run <;> rw [e1] <;> (try dsimp only) <;> rw [if_neg h4] <;> rw [if_neg h5] <;> rw [if_pos h6] <;> rw [e7] <;> (try dsimp only) <;> rw [if_pos h10] <;> rfl) (hw.sub [1, 2, 0, 3, 4, 5, 6, 7, 8, 9, 10, 11, 12] (by decide) rfl) d_G_run_31
      · refine lv_iconst (pc := 19) (v := (-1)) F.1 F.2.1 d_G_run_19 (by decide) ?_
        refine W.widen (k := 0) (n := 0) (by decide) (by decide) ?_
        exact ret (-1) (meA, rgA, ipA, ouA, ctA, tiA, niA, noA, rqA, rbA, rwdA, hoA, b1A, w1A, n1A, sg, rtA) _ _ 20 _ (by unfold F_G_run <;> rw [e1] <;> (try dsimp only) <;> rw [if_neg h4] <;> rw [if_neg h5] <;> rw [if_neg h6] <;> rfl) hw d_G_run_20
