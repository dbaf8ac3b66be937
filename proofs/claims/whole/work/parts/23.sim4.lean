theorem lo3_6 (x : Int32) : lo 3 (nI (lo 6 x)) = lo 3 x := by
  unfold lo
  rw [pk_tn (by have := Nat.mod_lt x.toBitVec.toNat (show 0 < 2 ^ 6 by decide); omega)]
  omega
/-- what one instruction that is done does, in both -/
def OPX (h0 : Nat) (go : Bool) (so nu v : Int32) (me ro di ob od on pg : Nat → Int32) (os : Nat → Bool) (sr me1 rg1 ip1 ou1 : Nat → Int32) (ct1 ti1 ni1 no1 : Int32) (rq1 : Bool) (rb1 rwd1 : Int32) (ho1 : Bool) (b11 w11 n11 : Int32) (sg1 : Nat → Int32) : Prop :=
  ∃ (RO : Nat → Int32) (NC : Int32) (M1 pg1 ob1 od1 on1 : Nat → Int32) (os1 : Nat → Bool),
    F_M_instruct me ro di os ob od on pg nu go so h0 v = (1, M1, F_M_tick (upd (upd RO (60 * h0 + 59) (RO (60 * h0 + 59) + 1)) (60 * h0 + 4) NC) (60 * h0), pg1, os1, ob1, od1, on1) ∧
    MS0 rg1 ip1 ou1 ti1 ni1 no1 rq1 rb1 rwd1 (fun k => RO (60 * h0 + k)) ∧ RO (60 * h0 + 59) = ro (60 * h0 + 59) ∧ ct1 = NC ∧ (∀ j, ¬ (60 * h0 ≤ j ∧ j < 60 * h0 + 60) → RO j = ro j) ∧
    (∀ j, j < 64 → me1 j = M1 (64 * h0 + j)) ∧ (∀ j, ¬ (64 * h0 ≤ j ∧ j < 64 * h0 + 64) → M1 j = me j) ∧ (go = true → ∀ p, p < 8 → PS (sg1 p) (sr p) (pg1 p)) ∧
    (ho1 = os1 h0 ∧ b11 = ob1 h0 ∧ w11 = od1 h0 ∧ n11 = on1 h0 ∧ isN (ob1 h0) 8) ∧ ∀ j, j ≠ h0 → os1 j = os j ∧ ob1 j = ob j ∧ od1 j = od j ∧ on1 j = on j
theorem fp_1 (nu : Int32) (bl : Nat → Int32) (sg : Nat → Int32) (hoA : Bool) (b1A : Int32) (w1A : Int32) (n1A : Int32) (ctA : Int32) (tiA : Int32) (niA : Int32) (noA : Int32) (rqA : Bool) (rbA : Int32) (rwdA : Int32) (meA : Nat → Int32) (rgA : Nat → Int32) (ipA : Nat → Int32) (ouA : Nat → Int32) (v : Int32) (hop : lo 4 v = 1) : F_G_perform nu bl sg hoA b1A w1A n1A ctA tiA niA noA rqA rbA rwdA meA rgA ipA ouA v =
    match F_A_compute ctA tiA niA noA meA rgA ipA ouA v with
    | (rgAv27, ipAv28, ouAv29, ctAv30, tiAv31, niAv32, noAv33) =>
      (meA, rgAv27, ipAv28, ouAv29, ctAv30, tiAv31, niAv32, noAv33, rqA, rbA, rwdA, hoA, b1A, w1A, n1A, sg) := by
  unfold F_G_perform
  rw [hop]
  rw [if_neg (show ¬ (nI 1 : Int32) = 6 by decide)]
  rw [if_neg (show ¬ (nI 1 : Int32) = 11 by decide)]
  rw [if_neg (show ¬ (nI 1 : Int32) = 12 by decide)]
theorem fp_2 (nu : Int32) (bl : Nat → Int32) (sg : Nat → Int32) (hoA : Bool) (b1A : Int32) (w1A : Int32) (n1A : Int32) (ctA : Int32) (tiA : Int32) (niA : Int32) (noA : Int32) (rqA : Bool) (rbA : Int32) (rwdA : Int32) (meA : Nat → Int32) (rgA : Nat → Int32) (ipA : Nat → Int32) (ouA : Nat → Int32) (v : Int32) (hop : lo 4 v = 2) : F_G_perform nu bl sg hoA b1A w1A n1A ctA tiA niA noA rqA rbA rwdA meA rgA ipA ouA v =
    match F_A_compute ctA tiA niA noA meA rgA ipA ouA v with
    | (rgAv27, ipAv28, ouAv29, ctAv30, tiAv31, niAv32, noAv33) =>
      (meA, rgAv27, ipAv28, ouAv29, ctAv30, tiAv31, niAv32, noAv33, rqA, rbA, rwdA, hoA, b1A, w1A, n1A, sg) := by
  unfold F_G_perform
  rw [hop]
  rw [if_neg (show ¬ (nI 2 : Int32) = 6 by decide)]
  rw [if_neg (show ¬ (nI 2 : Int32) = 11 by decide)]
  rw [if_neg (show ¬ (nI 2 : Int32) = 12 by decide)]
theorem fp_3 (nu : Int32) (bl : Nat → Int32) (sg : Nat → Int32) (hoA : Bool) (b1A : Int32) (w1A : Int32) (n1A : Int32) (ctA : Int32) (tiA : Int32) (niA : Int32) (noA : Int32) (rqA : Bool) (rbA : Int32) (rwdA : Int32) (meA : Nat → Int32) (rgA : Nat → Int32) (ipA : Nat → Int32) (ouA : Nat → Int32) (v : Int32) (hop : lo 4 v = 3) : F_G_perform nu bl sg hoA b1A w1A n1A ctA tiA niA noA rqA rbA rwdA meA rgA ipA ouA v =
    match F_A_compute ctA tiA niA noA meA rgA ipA ouA v with
    | (rgAv27, ipAv28, ouAv29, ctAv30, tiAv31, niAv32, noAv33) =>
      (meA, rgAv27, ipAv28, ouAv29, ctAv30, tiAv31, niAv32, noAv33, rqA, rbA, rwdA, hoA, b1A, w1A, n1A, sg) := by
  unfold F_G_perform
  rw [hop]
  rw [if_neg (show ¬ (nI 3 : Int32) = 6 by decide)]
  rw [if_neg (show ¬ (nI 3 : Int32) = 11 by decide)]
  rw [if_neg (show ¬ (nI 3 : Int32) = 12 by decide)]
theorem fp_4 (nu : Int32) (bl : Nat → Int32) (sg : Nat → Int32) (hoA : Bool) (b1A : Int32) (w1A : Int32) (n1A : Int32) (ctA : Int32) (tiA : Int32) (niA : Int32) (noA : Int32) (rqA : Bool) (rbA : Int32) (rwdA : Int32) (meA : Nat → Int32) (rgA : Nat → Int32) (ipA : Nat → Int32) (ouA : Nat → Int32) (v : Int32) (hop : lo 4 v = 4) : F_G_perform nu bl sg hoA b1A w1A n1A ctA tiA niA noA rqA rbA rwdA meA rgA ipA ouA v =
    match F_A_compute ctA tiA niA noA meA rgA ipA ouA v with
    | (rgAv27, ipAv28, ouAv29, ctAv30, tiAv31, niAv32, noAv33) =>
      (meA, rgAv27, ipAv28, ouAv29, ctAv30, tiAv31, niAv32, noAv33, rqA, rbA, rwdA, hoA, b1A, w1A, n1A, sg) := by
  unfold F_G_perform
  rw [hop]
  rw [if_neg (show ¬ (nI 4 : Int32) = 6 by decide)]
  rw [if_neg (show ¬ (nI 4 : Int32) = 11 by decide)]
  rw [if_neg (show ¬ (nI 4 : Int32) = 12 by decide)]
theorem fp_5 (nu : Int32) (bl : Nat → Int32) (sg : Nat → Int32) (hoA : Bool) (b1A : Int32) (w1A : Int32) (n1A : Int32) (ctA : Int32) (tiA : Int32) (niA : Int32) (noA : Int32) (rqA : Bool) (rbA : Int32) (rwdA : Int32) (meA : Nat → Int32) (rgA : Nat → Int32) (ipA : Nat → Int32) (ouA : Nat → Int32) (v : Int32) (hop : lo 4 v = 5) : F_G_perform nu bl sg hoA b1A w1A n1A ctA tiA niA noA rqA rbA rwdA meA rgA ipA ouA v =
    match F_A_compute ctA tiA niA noA meA rgA ipA ouA v with
    | (rgAv27, ipAv28, ouAv29, ctAv30, tiAv31, niAv32, noAv33) =>
      (meA, rgAv27, ipAv28, ouAv29, ctAv30, tiAv31, niAv32, noAv33, rqA, rbA, rwdA, hoA, b1A, w1A, n1A, sg) := by
  unfold F_G_perform
  rw [hop]
  rw [if_neg (show ¬ (nI 5 : Int32) = 6 by decide)]
  rw [if_neg (show ¬ (nI 5 : Int32) = 11 by decide)]
  rw [if_neg (show ¬ (nI 5 : Int32) = 12 by decide)]
theorem fp_6 (nu : Int32) (bl : Nat → Int32) (sg : Nat → Int32) (hoA : Bool) (b1A : Int32) (w1A : Int32) (n1A : Int32) (ctA : Int32) (tiA : Int32) (niA : Int32) (noA : Int32) (rqA : Bool) (rbA : Int32) (rwdA : Int32) (meA : Nat → Int32) (rgA : Nat → Int32) (ipA : Nat → Int32) (ouA : Nat → Int32) (v : Int32) (hop : lo 4 v = 6) : F_G_perform nu bl sg hoA b1A w1A n1A ctA tiA niA noA rqA rbA rwdA meA rgA ipA ouA v =
    (upd meA (lo 6 ((rgA (lo 2 (v >>> (6 &&& 31)))) + (nI (lo 6 (v >>> (8 &&& 31)))))) (rgA (lo 2 (v >>> (4 &&& 31)))), rgA, ipA, ouA, ctA, tiA, niA, noA, rqA, rbA, rwdA, hoA, b1A, w1A, n1A, upd sg ((lo 6 ((rgA (lo 2 (v >>> (6 &&& 31)))) + (nI (lo 6 (v >>> (8 &&& 31)))))) / 8) 0) := by
  unfold F_G_perform
  rw [hop]
  rw [if_pos (show (nI 6 : Int32) = 6 by decide)]
theorem fp_7 (nu : Int32) (bl : Nat → Int32) (sg : Nat → Int32) (hoA : Bool) (b1A : Int32) (w1A : Int32) (n1A : Int32) (ctA : Int32) (tiA : Int32) (niA : Int32) (noA : Int32) (rqA : Bool) (rbA : Int32) (rwdA : Int32) (meA : Nat → Int32) (rgA : Nat → Int32) (ipA : Nat → Int32) (ouA : Nat → Int32) (v : Int32) (hop : lo 4 v = 7) : F_G_perform nu bl sg hoA b1A w1A n1A ctA tiA niA noA rqA rbA rwdA meA rgA ipA ouA v =
    match F_A_compute ctA tiA niA noA meA rgA ipA ouA v with
    | (rgAv27, ipAv28, ouAv29, ctAv30, tiAv31, niAv32, noAv33) =>
      (meA, rgAv27, ipAv28, ouAv29, ctAv30, tiAv31, niAv32, noAv33, rqA, rbA, rwdA, hoA, b1A, w1A, n1A, sg) := by
  unfold F_G_perform
  rw [hop]
  rw [if_neg (show ¬ (nI 7 : Int32) = 6 by decide)]
  rw [if_neg (show ¬ (nI 7 : Int32) = 11 by decide)]
  rw [if_neg (show ¬ (nI 7 : Int32) = 12 by decide)]
theorem fp_8 (nu : Int32) (bl : Nat → Int32) (sg : Nat → Int32) (hoA : Bool) (b1A : Int32) (w1A : Int32) (n1A : Int32) (ctA : Int32) (tiA : Int32) (niA : Int32) (noA : Int32) (rqA : Bool) (rbA : Int32) (rwdA : Int32) (meA : Nat → Int32) (rgA : Nat → Int32) (ipA : Nat → Int32) (ouA : Nat → Int32) (v : Int32) (hop : lo 4 v = 8) : F_G_perform nu bl sg hoA b1A w1A n1A ctA tiA niA noA rqA rbA rwdA meA rgA ipA ouA v =
    match F_A_compute ctA tiA niA noA meA rgA ipA ouA v with
    | (rgAv27, ipAv28, ouAv29, ctAv30, tiAv31, niAv32, noAv33) =>
      (meA, rgAv27, ipAv28, ouAv29, ctAv30, tiAv31, niAv32, noAv33, rqA, rbA, rwdA, hoA, b1A, w1A, n1A, sg) := by
  unfold F_G_perform
  rw [hop]
  rw [if_neg (show ¬ (nI 8 : Int32) = 6 by decide)]
  rw [if_neg (show ¬ (nI 8 : Int32) = 11 by decide)]
  rw [if_neg (show ¬ (nI 8 : Int32) = 12 by decide)]
theorem fp_9 (nu : Int32) (bl : Nat → Int32) (sg : Nat → Int32) (hoA : Bool) (b1A : Int32) (w1A : Int32) (n1A : Int32) (ctA : Int32) (tiA : Int32) (niA : Int32) (noA : Int32) (rqA : Bool) (rbA : Int32) (rwdA : Int32) (meA : Nat → Int32) (rgA : Nat → Int32) (ipA : Nat → Int32) (ouA : Nat → Int32) (v : Int32) (hop : lo 4 v = 9) : F_G_perform nu bl sg hoA b1A w1A n1A ctA tiA niA noA rqA rbA rwdA meA rgA ipA ouA v =
    match F_A_compute ctA tiA niA noA meA rgA ipA ouA v with
    | (rgAv27, ipAv28, ouAv29, ctAv30, tiAv31, niAv32, noAv33) =>
      (meA, rgAv27, ipAv28, ouAv29, ctAv30, tiAv31, niAv32, noAv33, rqA, rbA, rwdA, hoA, b1A, w1A, n1A, sg) := by
  unfold F_G_perform
  rw [hop]
  rw [if_neg (show ¬ (nI 9 : Int32) = 6 by decide)]
  rw [if_neg (show ¬ (nI 9 : Int32) = 11 by decide)]
  rw [if_neg (show ¬ (nI 9 : Int32) = 12 by decide)]
theorem fp_10 (nu : Int32) (bl : Nat → Int32) (sg : Nat → Int32) (hoA : Bool) (b1A : Int32) (w1A : Int32) (n1A : Int32) (ctA : Int32) (tiA : Int32) (niA : Int32) (noA : Int32) (rqA : Bool) (rbA : Int32) (rwdA : Int32) (meA : Nat → Int32) (rgA : Nat → Int32) (ipA : Nat → Int32) (ouA : Nat → Int32) (v : Int32) (hop : lo 4 v = 10) : F_G_perform nu bl sg hoA b1A w1A n1A ctA tiA niA noA rqA rbA rwdA meA rgA ipA ouA v =
    match F_A_compute ctA tiA niA noA meA rgA ipA ouA v with
    | (rgAv27, ipAv28, ouAv29, ctAv30, tiAv31, niAv32, noAv33) =>
      (meA, rgAv27, ipAv28, ouAv29, ctAv30, tiAv31, niAv32, noAv33, rqA, rbA, rwdA, hoA, b1A, w1A, n1A, sg) := by
  unfold F_G_perform
  rw [hop]
  rw [if_neg (show ¬ (nI 10 : Int32) = 6 by decide)]
  rw [if_neg (show ¬ (nI 10 : Int32) = 11 by decide)]
  rw [if_neg (show ¬ (nI 10 : Int32) = 12 by decide)]
theorem fp_11 (nu : Int32) (bl : Nat → Int32) (sg : Nat → Int32) (hoA : Bool) (b1A : Int32) (w1A : Int32) (n1A : Int32) (ctA : Int32) (tiA : Int32) (niA : Int32) (noA : Int32) (rqA : Bool) (rbA : Int32) (rwdA : Int32) (meA : Nat → Int32) (rgA : Nat → Int32) (ipA : Nat → Int32) (ouA : Nat → Int32) (v : Int32) (hop : lo 4 v = 11) : F_G_perform nu bl sg hoA b1A w1A n1A ctA tiA niA noA rqA rbA rwdA meA rgA ipA ouA v =
    (meA, rgA, ipA, ouA, ctA, tiA, niA, noA, true, (nI (lo 3 (v >>> (8 &&& 31)))), (rgA (lo 2 (v >>> (4 &&& 31)))), true, (nI (lo 3 (v >>> (8 &&& 31)))), (rgA (lo 2 (v >>> (4 &&& 31)))), nu, sg) := by
  unfold F_G_perform
  rw [hop]
  rw [if_neg (show ¬ (nI 11 : Int32) = 6 by decide)]
  rw [if_pos (show (nI 11 : Int32) = 11 by decide)]
theorem fp_12 (nu : Int32) (bl : Nat → Int32) (sg : Nat → Int32) (hoA : Bool) (b1A : Int32) (w1A : Int32) (n1A : Int32) (ctA : Int32) (tiA : Int32) (niA : Int32) (noA : Int32) (rqA : Bool) (rbA : Int32) (rwdA : Int32) (meA : Nat → Int32) (rgA : Nat → Int32) (ipA : Nat → Int32) (ouA : Nat → Int32) (v : Int32) (hop : lo 4 v = 12) : F_G_perform nu bl sg hoA b1A w1A n1A ctA tiA niA noA rqA rbA rwdA meA rgA ipA ouA v =
    (meA, upd rgA (lo 2 (v >>> (4 &&& 31))) (bl (lo 3 (v >>> (8 &&& 31)))), ipA, ouA, ctA, tiA, niA, noA, rqA, rbA, rwdA, hoA, b1A, w1A, n1A, sg) := by
  unfold F_G_perform
  rw [hop]
  rw [if_neg (show ¬ (nI 12 : Int32) = 6 by decide)]
  rw [if_neg (show ¬ (nI 12 : Int32) = 11 by decide)]
  rw [if_pos (show (nI 12 : Int32) = 12 by decide)]
theorem fp_13 (nu : Int32) (bl : Nat → Int32) (sg : Nat → Int32) (hoA : Bool) (b1A : Int32) (w1A : Int32) (n1A : Int32) (ctA : Int32) (tiA : Int32) (niA : Int32) (noA : Int32) (rqA : Bool) (rbA : Int32) (rwdA : Int32) (meA : Nat → Int32) (rgA : Nat → Int32) (ipA : Nat → Int32) (ouA : Nat → Int32) (v : Int32) (hop : lo 4 v = 13) : F_G_perform nu bl sg hoA b1A w1A n1A ctA tiA niA noA rqA rbA rwdA meA rgA ipA ouA v =
    match F_A_compute ctA tiA niA noA meA rgA ipA ouA v with
    | (rgAv27, ipAv28, ouAv29, ctAv30, tiAv31, niAv32, noAv33) =>
      (meA, rgAv27, ipAv28, ouAv29, ctAv30, tiAv31, niAv32, noAv33, rqA, rbA, rwdA, hoA, b1A, w1A, n1A, sg) := by
  unfold F_G_perform
  rw [hop]
  rw [if_neg (show ¬ (nI 13 : Int32) = 6 by decide)]
  rw [if_neg (show ¬ (nI 13 : Int32) = 11 by decide)]
  rw [if_neg (show ¬ (nI 13 : Int32) = 12 by decide)]
set_option maxHeartbeats 4000000 in
set_option maxRecDepth 100000 in
theorem op_1 {h0 : Nat} {go : Bool} {so nu v : Int32} {me ro di ob od on pg : Nat → Int32} {os : Nat → Bool} {meA rgA ipA ouA bl sg sr : Nat → Int32} {ctA tiA niA noA rbA rwdA b1A w1A n1A : Int32} {rqA hoA : Bool} {me1 rg1 ip1 ou1 sg1 : Nat → Int32} {ct1 ti1 ni1 no1 rb1 rwd1 b11 w11 n11 : Int32} {rq1 ho1 : Bool} (hh : h0 < 2) (hM : ∀ j, j < 64 → meA j = me (64 * h0 + j)) (hS : MS0 rgA ipA ouA tiA niA noA rqA rbA rwdA (fun k => ro (60 * h0 + k))) (hct : ctA = ro (60 * h0 + 4)) (nct : isN ctA 64) (nni : isN niA 9) (nno : isN noA 41) (hbl : bl = di) (hord : hoA = os h0 ∧ b1A = ob h0 ∧ w1A = od h0 ∧ n1A = on h0 ∧ isN (ob h0) 8) (hPS : go = true → ∀ p, p < 8 → PS (sg p) (sr p) (pg p)) (hgo : go = true → so = nI h0) (hop : lo 4 v = 1) (eP : F_G_perform nu bl sg hoA b1A w1A n1A (nI ((tN ctA + 1) % 64)) tiA niA noA rqA rbA rwdA meA rgA ipA ouA v = (me1, rg1, ip1, ou1, ct1, ti1, ni1, no1, rq1, rb1, rwd1, ho1, b11, w11, n11, sg1)) : OPX h0 go so nu v me ro di ob od on pg os sr me1 rg1 ip1 ou1 ct1 ti1 ni1 no1 rq1 rb1 rwd1 ho1 b11 w11 n11 sg1 := by
  have ha : (lo 2 (v >>> (4 &&& 31))) < 4 := lo_lt 2 _
  have hb : (lo 2 (v >>> (6 &&& 31))) < 4 := lo_lt 2 _
  have ea : ro (60 * h0 + (lo 2 (v >>> (4 &&& 31)))) = rgA (lo 2 (v >>> (4 &&& 31))) := (hS.1 _ ha).symm
  have eb : ro (60 * h0 + (lo 2 (v >>> (6 &&& 31)))) = rgA (lo 2 (v >>> (6 &&& 31))) := (hS.1 _ hb).symm
  have b1 := nni.2
  have b2 := nno.2
  rw [fp_1 _ _ _ _ _ _ _ _ _ _ _ _ _ _ _ _ _ _ _ hop, fc_1 _ _ _ _ _ _ _ _ _ hop] at eP
  cases eP
  have hnew : nI (lo 6 ((upd (upd ro (60 * h0 + (lo 2 (v >>> (4 &&& 31)))) (v >>> (16 &&& 31))) (60 * h0 + 59) ((upd ro (60 * h0 + (lo 2 (v >>> (4 &&& 31)))) (v >>> (16 &&& 31))) (60 * h0 + 59) + 1)) (60 * h0 + 4) + 1)) = nI ((tN ctA + 1) % 64) := by rw [pk_un (by omega), pk_un (by omega), ← hct]; exact lo6_succ nct
  refine ⟨upd ro (60 * h0 + (lo 2 (v >>> (4 &&& 31)))) (v >>> (16 &&& 31)), nI ((tN ctA + 1) % 64), me, pg, ob, od, on, os, ?_, hS.reg ha, (by rw [pk_un (by omega)]), rfl, (fun j hj => by rw [pk_un (by omega)]), hM, fun _ _ => rfl, hPS, hord, fun _ _ => ⟨rfl, rfl, rfl, rfl⟩⟩
  rw [fm_1 _ _ _ _ _ _ _ _ _ _ _ _ _ hop]
  (try dsimp only)
  rw [hnew]
set_option maxHeartbeats 4000000 in
set_option maxRecDepth 100000 in
theorem op_2 {h0 : Nat} {go : Bool} {so nu v : Int32} {me ro di ob od on pg : Nat → Int32} {os : Nat → Bool} {meA rgA ipA ouA bl sg sr : Nat → Int32} {ctA tiA niA noA rbA rwdA b1A w1A n1A : Int32} {rqA hoA : Bool} {me1 rg1 ip1 ou1 sg1 : Nat → Int32} {ct1 ti1 ni1 no1 rb1 rwd1 b11 w11 n11 : Int32} {rq1 ho1 : Bool} (hh : h0 < 2) (hM : ∀ j, j < 64 → meA j = me (64 * h0 + j)) (hS : MS0 rgA ipA ouA tiA niA noA rqA rbA rwdA (fun k => ro (60 * h0 + k))) (hct : ctA = ro (60 * h0 + 4)) (nct : isN ctA 64) (nni : isN niA 9) (nno : isN noA 41) (hbl : bl = di) (hord : hoA = os h0 ∧ b1A = ob h0 ∧ w1A = od h0 ∧ n1A = on h0 ∧ isN (ob h0) 8) (hPS : go = true → ∀ p, p < 8 → PS (sg p) (sr p) (pg p)) (hgo : go = true → so = nI h0) (hop : lo 4 v = 2) (eP : F_G_perform nu bl sg hoA b1A w1A n1A (nI ((tN ctA + 1) % 64)) tiA niA noA rqA rbA rwdA meA rgA ipA ouA v = (me1, rg1, ip1, ou1, ct1, ti1, ni1, no1, rq1, rb1, rwd1, ho1, b11, w11, n11, sg1)) : OPX h0 go so nu v me ro di ob od on pg os sr me1 rg1 ip1 ou1 ct1 ti1 ni1 no1 rq1 rb1 rwd1 ho1 b11 w11 n11 sg1 := by
  have ha : (lo 2 (v >>> (4 &&& 31))) < 4 := lo_lt 2 _
  have hb : (lo 2 (v >>> (6 &&& 31))) < 4 := lo_lt 2 _
  have ea : ro (60 * h0 + (lo 2 (v >>> (4 &&& 31)))) = rgA (lo 2 (v >>> (4 &&& 31))) := (hS.1 _ ha).symm
  have eb : ro (60 * h0 + (lo 2 (v >>> (6 &&& 31)))) = rgA (lo 2 (v >>> (6 &&& 31))) := (hS.1 _ hb).symm
  have b1 := nni.2
  have b2 := nno.2
  rw [fp_2 _ _ _ _ _ _ _ _ _ _ _ _ _ _ _ _ _ _ _ hop, fc_2 _ _ _ _ _ _ _ _ _ hop] at eP
  cases eP
  have hnew : nI (lo 6 ((upd (upd ro (60 * h0 + (lo 2 (v >>> (4 &&& 31)))) ((ro (60 * h0 + (lo 2 (v >>> (4 &&& 31))))) + (ro (60 * h0 + (lo 2 (v >>> (6 &&& 31))))))) (60 * h0 + 59) ((upd ro (60 * h0 + (lo 2 (v >>> (4 &&& 31)))) ((ro (60 * h0 + (lo 2 (v >>> (4 &&& 31))))) + (ro (60 * h0 + (lo 2 (v >>> (6 &&& 31))))))) (60 * h0 + 59) + 1)) (60 * h0 + 4) + 1)) = nI ((tN ctA + 1) % 64) := by rw [pk_un (by omega), pk_un (by omega), ← hct]; exact lo6_succ nct
  refine ⟨upd ro (60 * h0 + (lo 2 (v >>> (4 &&& 31)))) ((ro (60 * h0 + (lo 2 (v >>> (4 &&& 31))))) + (ro (60 * h0 + (lo 2 (v >>> (6 &&& 31)))))), nI ((tN ctA + 1) % 64), me, pg, ob, od, on, os, ?_, (by rw [ea, eb]; exact hS.reg ha), (by rw [pk_un (by omega)]), rfl, (fun j hj => by rw [pk_un (by omega)]), hM, fun _ _ => rfl, hPS, hord, fun _ _ => ⟨rfl, rfl, rfl, rfl⟩⟩
  rw [fm_2 _ _ _ _ _ _ _ _ _ _ _ _ _ hop]
  (try dsimp only)
  rw [hnew]
set_option maxHeartbeats 4000000 in
set_option maxRecDepth 100000 in
theorem op_3 {h0 : Nat} {go : Bool} {so nu v : Int32} {me ro di ob od on pg : Nat → Int32} {os : Nat → Bool} {meA rgA ipA ouA bl sg sr : Nat → Int32} {ctA tiA niA noA rbA rwdA b1A w1A n1A : Int32} {rqA hoA : Bool} {me1 rg1 ip1 ou1 sg1 : Nat → Int32} {ct1 ti1 ni1 no1 rb1 rwd1 b11 w11 n11 : Int32} {rq1 ho1 : Bool} (hh : h0 < 2) (hM : ∀ j, j < 64 → meA j = me (64 * h0 + j)) (hS : MS0 rgA ipA ouA tiA niA noA rqA rbA rwdA (fun k => ro (60 * h0 + k))) (hct : ctA = ro (60 * h0 + 4)) (nct : isN ctA 64) (nni : isN niA 9) (nno : isN noA 41) (hbl : bl = di) (hord : hoA = os h0 ∧ b1A = ob h0 ∧ w1A = od h0 ∧ n1A = on h0 ∧ isN (ob h0) 8) (hPS : go = true → ∀ p, p < 8 → PS (sg p) (sr p) (pg p)) (hgo : go = true → so = nI h0) (hop : lo 4 v = 3) (eP : F_G_perform nu bl sg hoA b1A w1A n1A (nI ((tN ctA + 1) % 64)) tiA niA noA rqA rbA rwdA meA rgA ipA ouA v = (me1, rg1, ip1, ou1, ct1, ti1, ni1, no1, rq1, rb1, rwd1, ho1, b11, w11, n11, sg1)) : OPX h0 go so nu v me ro di ob od on pg os sr me1 rg1 ip1 ou1 ct1 ti1 ni1 no1 rq1 rb1 rwd1 ho1 b11 w11 n11 sg1 := by
  have ha : (lo 2 (v >>> (4 &&& 31))) < 4 := lo_lt 2 _
  have hb : (lo 2 (v >>> (6 &&& 31))) < 4 := lo_lt 2 _
  have ea : ro (60 * h0 + (lo 2 (v >>> (4 &&& 31)))) = rgA (lo 2 (v >>> (4 &&& 31))) := (hS.1 _ ha).symm
  have eb : ro (60 * h0 + (lo 2 (v >>> (6 &&& 31)))) = rgA (lo 2 (v >>> (6 &&& 31))) := (hS.1 _ hb).symm
  have b1 := nni.2
  have b2 := nno.2
  rw [fp_3 _ _ _ _ _ _ _ _ _ _ _ _ _ _ _ _ _ _ _ hop, fc_3 _ _ _ _ _ _ _ _ _ hop] at eP
  cases eP
  have hnew : nI (lo 6 ((upd (upd ro (60 * h0 + (lo 2 (v >>> (4 &&& 31)))) ((ro (60 * h0 + (lo 2 (v >>> (4 &&& 31))))) - (ro (60 * h0 + (lo 2 (v >>> (6 &&& 31))))))) (60 * h0 + 59) ((upd ro (60 * h0 + (lo 2 (v >>> (4 &&& 31)))) ((ro (60 * h0 + (lo 2 (v >>> (4 &&& 31))))) - (ro (60 * h0 + (lo 2 (v >>> (6 &&& 31))))))) (60 * h0 + 59) + 1)) (60 * h0 + 4) + 1)) = nI ((tN ctA + 1) % 64) := by rw [pk_un (by omega), pk_un (by omega), ← hct]; exact lo6_succ nct
  refine ⟨upd ro (60 * h0 + (lo 2 (v >>> (4 &&& 31)))) ((ro (60 * h0 + (lo 2 (v >>> (4 &&& 31))))) - (ro (60 * h0 + (lo 2 (v >>> (6 &&& 31)))))), nI ((tN ctA + 1) % 64), me, pg, ob, od, on, os, ?_, (by rw [ea, eb]; exact hS.reg ha), (by rw [pk_un (by omega)]), rfl, (fun j hj => by rw [pk_un (by omega)]), hM, fun _ _ => rfl, hPS, hord, fun _ _ => ⟨rfl, rfl, rfl, rfl⟩⟩
  rw [fm_3 _ _ _ _ _ _ _ _ _ _ _ _ _ hop]
  (try dsimp only)
  rw [hnew]
set_option maxHeartbeats 4000000 in
set_option maxRecDepth 100000 in
theorem op_4 {h0 : Nat} {go : Bool} {so nu v : Int32} {me ro di ob od on pg : Nat → Int32} {os : Nat → Bool} {meA rgA ipA ouA bl sg sr : Nat → Int32} {ctA tiA niA noA rbA rwdA b1A w1A n1A : Int32} {rqA hoA : Bool} {me1 rg1 ip1 ou1 sg1 : Nat → Int32} {ct1 ti1 ni1 no1 rb1 rwd1 b11 w11 n11 : Int32} {rq1 ho1 : Bool} (hh : h0 < 2) (hM : ∀ j, j < 64 → meA j = me (64 * h0 + j)) (hS : MS0 rgA ipA ouA tiA niA noA rqA rbA rwdA (fun k => ro (60 * h0 + k))) (hct : ctA = ro (60 * h0 + 4)) (nct : isN ctA 64) (nni : isN niA 9) (nno : isN noA 41) (hbl : bl = di) (hord : hoA = os h0 ∧ b1A = ob h0 ∧ w1A = od h0 ∧ n1A = on h0 ∧ isN (ob h0) 8) (hPS : go = true → ∀ p, p < 8 → PS (sg p) (sr p) (pg p)) (hgo : go = true → so = nI h0) (hop : lo 4 v = 4) (eP : F_G_perform nu bl sg hoA b1A w1A n1A (nI ((tN ctA + 1) % 64)) tiA niA noA rqA rbA rwdA meA rgA ipA ouA v = (me1, rg1, ip1, ou1, ct1, ti1, ni1, no1, rq1, rb1, rwd1, ho1, b11, w11, n11, sg1)) : OPX h0 go so nu v me ro di ob od on pg os sr me1 rg1 ip1 ou1 ct1 ti1 ni1 no1 rq1 rb1 rwd1 ho1 b11 w11 n11 sg1 := by
  have ha : (lo 2 (v >>> (4 &&& 31))) < 4 := lo_lt 2 _
  have hb : (lo 2 (v >>> (6 &&& 31))) < 4 := lo_lt 2 _
  have ea : ro (60 * h0 + (lo 2 (v >>> (4 &&& 31)))) = rgA (lo 2 (v >>> (4 &&& 31))) := (hS.1 _ ha).symm
  have eb : ro (60 * h0 + (lo 2 (v >>> (6 &&& 31)))) = rgA (lo 2 (v >>> (6 &&& 31))) := (hS.1 _ hb).symm
  have b1 := nni.2
  have b2 := nno.2
  rw [fp_4 _ _ _ _ _ _ _ _ _ _ _ _ _ _ _ _ _ _ _ hop, fc_4 _ _ _ _ _ _ _ _ _ hop] at eP
  cases eP
  have hnew : nI (lo 6 ((upd (upd ro (60 * h0 + (lo 2 (v >>> (4 &&& 31)))) ((ro (60 * h0 + (lo 2 (v >>> (4 &&& 31))))) * (ro (60 * h0 + (lo 2 (v >>> (6 &&& 31))))))) (60 * h0 + 59) ((upd ro (60 * h0 + (lo 2 (v >>> (4 &&& 31)))) ((ro (60 * h0 + (lo 2 (v >>> (4 &&& 31))))) * (ro (60 * h0 + (lo 2 (v >>> (6 &&& 31))))))) (60 * h0 + 59) + 1)) (60 * h0 + 4) + 1)) = nI ((tN ctA + 1) % 64) := by rw [pk_un (by omega), pk_un (by omega), ← hct]; exact lo6_succ nct
  refine ⟨upd ro (60 * h0 + (lo 2 (v >>> (4 &&& 31)))) ((ro (60 * h0 + (lo 2 (v >>> (4 &&& 31))))) * (ro (60 * h0 + (lo 2 (v >>> (6 &&& 31)))))), nI ((tN ctA + 1) % 64), me, pg, ob, od, on, os, ?_, (by rw [ea, eb]; exact hS.reg ha), (by rw [pk_un (by omega)]), rfl, (fun j hj => by rw [pk_un (by omega)]), hM, fun _ _ => rfl, hPS, hord, fun _ _ => ⟨rfl, rfl, rfl, rfl⟩⟩
  rw [fm_4 _ _ _ _ _ _ _ _ _ _ _ _ _ hop]
  (try dsimp only)
  rw [hnew]
set_option maxHeartbeats 4000000 in
set_option maxRecDepth 100000 in
theorem op_5 {h0 : Nat} {go : Bool} {so nu v : Int32} {me ro di ob od on pg : Nat → Int32} {os : Nat → Bool} {meA rgA ipA ouA bl sg sr : Nat → Int32} {ctA tiA niA noA rbA rwdA b1A w1A n1A : Int32} {rqA hoA : Bool} {me1 rg1 ip1 ou1 sg1 : Nat → Int32} {ct1 ti1 ni1 no1 rb1 rwd1 b11 w11 n11 : Int32} {rq1 ho1 : Bool} (hh : h0 < 2) (hM : ∀ j, j < 64 → meA j = me (64 * h0 + j)) (hS : MS0 rgA ipA ouA tiA niA noA rqA rbA rwdA (fun k => ro (60 * h0 + k))) (hct : ctA = ro (60 * h0 + 4)) (nct : isN ctA 64) (nni : isN niA 9) (nno : isN noA 41) (hbl : bl = di) (hord : hoA = os h0 ∧ b1A = ob h0 ∧ w1A = od h0 ∧ n1A = on h0 ∧ isN (ob h0) 8) (hPS : go = true → ∀ p, p < 8 → PS (sg p) (sr p) (pg p)) (hgo : go = true → so = nI h0) (hop : lo 4 v = 5) (eP : F_G_perform nu bl sg hoA b1A w1A n1A (nI ((tN ctA + 1) % 64)) tiA niA noA rqA rbA rwdA meA rgA ipA ouA v = (me1, rg1, ip1, ou1, ct1, ti1, ni1, no1, rq1, rb1, rwd1, ho1, b11, w11, n11, sg1)) : OPX h0 go so nu v me ro di ob od on pg os sr me1 rg1 ip1 ou1 ct1 ti1 ni1 no1 rq1 rb1 rwd1 ho1 b11 w11 n11 sg1 := by
  have ha : (lo 2 (v >>> (4 &&& 31))) < 4 := lo_lt 2 _
  have hb : (lo 2 (v >>> (6 &&& 31))) < 4 := lo_lt 2 _
  have ea : ro (60 * h0 + (lo 2 (v >>> (4 &&& 31)))) = rgA (lo 2 (v >>> (4 &&& 31))) := (hS.1 _ ha).symm
  have eb : ro (60 * h0 + (lo 2 (v >>> (6 &&& 31)))) = rgA (lo 2 (v >>> (6 &&& 31))) := (hS.1 _ hb).symm
  have b1 := nni.2
  have b2 := nno.2
  rw [fp_5 _ _ _ _ _ _ _ _ _ _ _ _ _ _ _ _ _ _ _ hop, fc_5 _ _ _ _ _ _ _ _ _ hop] at eP
  cases eP
  have hnew : nI (lo 6 ((upd (upd ro (60 * h0 + (lo 2 (v >>> (4 &&& 31)))) (me (64 * h0 + (lo 6 ((ro (60 * h0 + (lo 2 (v >>> (6 &&& 31))))) + (nI (lo 6 (v >>> (8 &&& 31))))))))) (60 * h0 + 59) ((upd ro (60 * h0 + (lo 2 (v >>> (4 &&& 31)))) (me (64 * h0 + (lo 6 ((ro (60 * h0 + (lo 2 (v >>> (6 &&& 31))))) + (nI (lo 6 (v >>> (8 &&& 31))))))))) (60 * h0 + 59) + 1)) (60 * h0 + 4) + 1)) = nI ((tN ctA + 1) % 64) := by rw [pk_un (by omega), pk_un (by omega), ← hct]; exact lo6_succ nct
  refine ⟨upd ro (60 * h0 + (lo 2 (v >>> (4 &&& 31)))) (me (64 * h0 + (lo 6 ((ro (60 * h0 + (lo 2 (v >>> (6 &&& 31))))) + (nI (lo 6 (v >>> (8 &&& 31)))))))), nI ((tN ctA + 1) % 64), me, pg, ob, od, on, os, ?_, (by rw [eb, ← hM _ (lo_lt 6 _)]; exact hS.reg ha), (by rw [pk_un (by omega)]), rfl, (fun j hj => by rw [pk_un (by omega)]), hM, fun _ _ => rfl, hPS, hord, fun _ _ => ⟨rfl, rfl, rfl, rfl⟩⟩
  rw [fm_5 _ _ _ _ _ _ _ _ _ _ _ _ _ hop]
  (try dsimp only)
  rw [hnew]
set_option maxHeartbeats 4000000 in
set_option maxRecDepth 100000 in
theorem op_13 {h0 : Nat} {go : Bool} {so nu v : Int32} {me ro di ob od on pg : Nat → Int32} {os : Nat → Bool} {meA rgA ipA ouA bl sg sr : Nat → Int32} {ctA tiA niA noA rbA rwdA b1A w1A n1A : Int32} {rqA hoA : Bool} {me1 rg1 ip1 ou1 sg1 : Nat → Int32} {ct1 ti1 ni1 no1 rb1 rwd1 b11 w11 n11 : Int32} {rq1 ho1 : Bool} (hh : h0 < 2) (hM : ∀ j, j < 64 → meA j = me (64 * h0 + j)) (hS : MS0 rgA ipA ouA tiA niA noA rqA rbA rwdA (fun k => ro (60 * h0 + k))) (hct : ctA = ro (60 * h0 + 4)) (nct : isN ctA 64) (nni : isN niA 9) (nno : isN noA 41) (hbl : bl = di) (hord : hoA = os h0 ∧ b1A = ob h0 ∧ w1A = od h0 ∧ n1A = on h0 ∧ isN (ob h0) 8) (hPS : go = true → ∀ p, p < 8 → PS (sg p) (sr p) (pg p)) (hgo : go = true → so = nI h0) (hop : lo 4 v = 13) (eP : F_G_perform nu bl sg hoA b1A w1A n1A (nI ((tN ctA + 1) % 64)) tiA niA noA rqA rbA rwdA meA rgA ipA ouA v = (me1, rg1, ip1, ou1, ct1, ti1, ni1, no1, rq1, rb1, rwd1, ho1, b11, w11, n11, sg1)) : OPX h0 go so nu v me ro di ob od on pg os sr me1 rg1 ip1 ou1 ct1 ti1 ni1 no1 rq1 rb1 rwd1 ho1 b11 w11 n11 sg1 := by
  have ha : (lo 2 (v >>> (4 &&& 31))) < 4 := lo_lt 2 _
  have hb : (lo 2 (v >>> (6 &&& 31))) < 4 := lo_lt 2 _
  have ea : ro (60 * h0 + (lo 2 (v >>> (4 &&& 31)))) = rgA (lo 2 (v >>> (4 &&& 31))) := (hS.1 _ ha).symm
  have eb : ro (60 * h0 + (lo 2 (v >>> (6 &&& 31)))) = rgA (lo 2 (v >>> (6 &&& 31))) := (hS.1 _ hb).symm
  have b1 := nni.2
  have b2 := nno.2
  rw [fp_13 _ _ _ _ _ _ _ _ _ _ _ _ _ _ _ _ _ _ _ hop, fc_13 _ _ _ _ _ _ _ _ _ hop] at eP
  cases eP
  have hnew : nI (lo 6 ((upd (upd ro (60 * h0 + 5) (nI (lo 8 (ro (60 * h0 + (lo 2 (v >>> (4 &&& 31))))) + 1))) (60 * h0 + 59) ((upd ro (60 * h0 + 5) (nI (lo 8 (ro (60 * h0 + (lo 2 (v >>> (4 &&& 31))))) + 1))) (60 * h0 + 59) + 1)) (60 * h0 + 4) + 1)) = nI ((tN ctA + 1) % 64) := by rw [pk_un (by omega), pk_un (by omega), ← hct]; exact lo6_succ nct
  refine ⟨upd ro (60 * h0 + 5) (nI (lo 8 (ro (60 * h0 + (lo 2 (v >>> (4 &&& 31))))) + 1)), nI ((tN ctA + 1) % 64), me, pg, ob, od, on, os, ?_, (by rw [ea]; exact hS.tim (isN_nI (by have := lo_lt 8 (rgA (lo 2 (v >>> (4 &&& 31)))); omega) (by decide))), (by rw [pk_un (by omega)]), rfl, (fun j hj => by rw [pk_un (by omega)]), hM, fun _ _ => rfl, hPS, hord, fun _ _ => ⟨rfl, rfl, rfl, rfl⟩⟩
  rw [fm_13 _ _ _ _ _ _ _ _ _ _ _ _ _ hop]
  (try dsimp only)
  rw [hnew]
set_option maxHeartbeats 4000000 in
set_option maxRecDepth 100000 in
theorem op_7 {h0 : Nat} {go : Bool} {so nu v : Int32} {me ro di ob od on pg : Nat → Int32} {os : Nat → Bool} {meA rgA ipA ouA bl sg sr : Nat → Int32} {ctA tiA niA noA rbA rwdA b1A w1A n1A : Int32} {rqA hoA : Bool} {me1 rg1 ip1 ou1 sg1 : Nat → Int32} {ct1 ti1 ni1 no1 rb1 rwd1 b11 w11 n11 : Int32} {rq1 ho1 : Bool} (hh : h0 < 2) (hM : ∀ j, j < 64 → meA j = me (64 * h0 + j)) (hS : MS0 rgA ipA ouA tiA niA noA rqA rbA rwdA (fun k => ro (60 * h0 + k))) (hct : ctA = ro (60 * h0 + 4)) (nct : isN ctA 64) (nni : isN niA 9) (nno : isN noA 41) (hbl : bl = di) (hord : hoA = os h0 ∧ b1A = ob h0 ∧ w1A = od h0 ∧ n1A = on h0 ∧ isN (ob h0) 8) (hPS : go = true → ∀ p, p < 8 → PS (sg p) (sr p) (pg p)) (hgo : go = true → so = nI h0) (hop : lo 4 v = 7) (eP : F_G_perform nu bl sg hoA b1A w1A n1A (nI ((tN ctA + 1) % 64)) tiA niA noA rqA rbA rwdA meA rgA ipA ouA v = (me1, rg1, ip1, ou1, ct1, ti1, ni1, no1, rq1, rb1, rwd1, ho1, b11, w11, n11, sg1)) : OPX h0 go so nu v me ro di ob od on pg os sr me1 rg1 ip1 ou1 ct1 ti1 ni1 no1 rq1 rb1 rwd1 ho1 b11 w11 n11 sg1 := by
  have ha : (lo 2 (v >>> (4 &&& 31))) < 4 := lo_lt 2 _
  have hb : (lo 2 (v >>> (6 &&& 31))) < 4 := lo_lt 2 _
  have ea : ro (60 * h0 + (lo 2 (v >>> (4 &&& 31)))) = rgA (lo 2 (v >>> (4 &&& 31))) := (hS.1 _ ha).symm
  have eb : ro (60 * h0 + (lo 2 (v >>> (6 &&& 31)))) = rgA (lo 2 (v >>> (6 &&& 31))) := (hS.1 _ hb).symm
  have b1 := nni.2
  have b2 := nno.2
  rw [fp_7 _ _ _ _ _ _ _ _ _ _ _ _ _ _ _ _ _ _ _ hop, fc_7 _ _ _ _ _ _ _ _ _ hop] at eP
  cases eP
  refine ⟨ro, nI (lo 6 (v >>> (8 &&& 31))), me, pg, ob, od, on, os, ?_, hS, rfl, rfl, fun _ _ => rfl, hM, fun _ _ => rfl, hPS, hord, fun _ _ => ⟨rfl, rfl, rfl, rfl⟩⟩
  rw [fm_7 _ _ _ _ _ _ _ _ _ _ _ _ _ hop]
  (try dsimp only)
set_option maxHeartbeats 4000000 in
set_option maxRecDepth 100000 in
theorem op_8 {h0 : Nat} {go : Bool} {so nu v : Int32} {me ro di ob od on pg : Nat → Int32} {os : Nat → Bool} {meA rgA ipA ouA bl sg sr : Nat → Int32} {ctA tiA niA noA rbA rwdA b1A w1A n1A : Int32} {rqA hoA : Bool} {me1 rg1 ip1 ou1 sg1 : Nat → Int32} {ct1 ti1 ni1 no1 rb1 rwd1 b11 w11 n11 : Int32} {rq1 ho1 : Bool} (hh : h0 < 2) (hM : ∀ j, j < 64 → meA j = me (64 * h0 + j)) (hS : MS0 rgA ipA ouA tiA niA noA rqA rbA rwdA (fun k => ro (60 * h0 + k))) (hct : ctA = ro (60 * h0 + 4)) (nct : isN ctA 64) (nni : isN niA 9) (nno : isN noA 41) (hbl : bl = di) (hord : hoA = os h0 ∧ b1A = ob h0 ∧ w1A = od h0 ∧ n1A = on h0 ∧ isN (ob h0) 8) (hPS : go = true → ∀ p, p < 8 → PS (sg p) (sr p) (pg p)) (hgo : go = true → so = nI h0) (hop : lo 4 v = 8) (eP : F_G_perform nu bl sg hoA b1A w1A n1A (nI ((tN ctA + 1) % 64)) tiA niA noA rqA rbA rwdA meA rgA ipA ouA v = (me1, rg1, ip1, ou1, ct1, ti1, ni1, no1, rq1, rb1, rwd1, ho1, b11, w11, n11, sg1)) : OPX h0 go so nu v me ro di ob od on pg os sr me1 rg1 ip1 ou1 ct1 ti1 ni1 no1 rq1 rb1 rwd1 ho1 b11 w11 n11 sg1 := by
  have ha : (lo 2 (v >>> (4 &&& 31))) < 4 := lo_lt 2 _
  have hb : (lo 2 (v >>> (6 &&& 31))) < 4 := lo_lt 2 _
  have ea : ro (60 * h0 + (lo 2 (v >>> (4 &&& 31)))) = rgA (lo 2 (v >>> (4 &&& 31))) := (hS.1 _ ha).symm
  have eb : ro (60 * h0 + (lo 2 (v >>> (6 &&& 31)))) = rgA (lo 2 (v >>> (6 &&& 31))) := (hS.1 _ hb).symm
  have b1 := nni.2
  have b2 := nno.2
  rw [fp_8 _ _ _ _ _ _ _ _ _ _ _ _ _ _ _ _ _ _ _ hop, fc_8 _ _ _ _ _ _ _ _ _ hop] at eP
  by_cases hz : rgA (lo 2 (v >>> (4 &&& 31))) = 0
  · rw [if_pos hz] at eP
    cases eP
    refine ⟨ro, nI (lo 6 (v >>> (8 &&& 31))), me, pg, ob, od, on, os, ?_, hS, rfl, rfl, fun _ _ => rfl, hM, fun _ _ => rfl, hPS, hord, fun _ _ => ⟨rfl, rfl, rfl, rfl⟩⟩
    rw [fm_8 _ _ _ _ _ _ _ _ _ _ _ _ _ hop, ea, if_pos hz]
    (try dsimp only)
  · rw [if_neg hz] at eP
    cases eP
    have hnew : nI (lo 6 ((upd ro (60 * h0 + 59) (ro (60 * h0 + 59) + 1)) (60 * h0 + 4) + 1)) = nI ((tN ctA + 1) % 64) := by rw [pk_un (by omega), ← hct]; exact lo6_succ nct
    refine ⟨ro, nI ((tN ctA + 1) % 64), me, pg, ob, od, on, os, ?_, hS, rfl, rfl, fun _ _ => rfl, hM, fun _ _ => rfl, hPS, hord, fun _ _ => ⟨rfl, rfl, rfl, rfl⟩⟩
    rw [fm_8 _ _ _ _ _ _ _ _ _ _ _ _ _ hop, ea, if_neg hz]
    (try dsimp only)
    rw [hnew]
set_option maxHeartbeats 4000000 in
set_option maxRecDepth 100000 in
theorem op_12 {h0 : Nat} {go : Bool} {so nu v : Int32} {me ro di ob od on pg : Nat → Int32} {os : Nat → Bool} {meA rgA ipA ouA bl sg sr : Nat → Int32} {ctA tiA niA noA rbA rwdA b1A w1A n1A : Int32} {rqA hoA : Bool} {me1 rg1 ip1 ou1 sg1 : Nat → Int32} {ct1 ti1 ni1 no1 rb1 rwd1 b11 w11 n11 : Int32} {rq1 ho1 : Bool} (hh : h0 < 2) (hM : ∀ j, j < 64 → meA j = me (64 * h0 + j)) (hS : MS0 rgA ipA ouA tiA niA noA rqA rbA rwdA (fun k => ro (60 * h0 + k))) (hct : ctA = ro (60 * h0 + 4)) (nct : isN ctA 64) (nni : isN niA 9) (nno : isN noA 41) (hbl : bl = di) (hord : hoA = os h0 ∧ b1A = ob h0 ∧ w1A = od h0 ∧ n1A = on h0 ∧ isN (ob h0) 8) (hPS : go = true → ∀ p, p < 8 → PS (sg p) (sr p) (pg p)) (hgo : go = true → so = nI h0) (hrq : ¬ rqA = true) (hop : lo 4 v = 12) (eP : F_G_perform nu bl sg hoA b1A w1A n1A (nI ((tN ctA + 1) % 64)) tiA niA noA rqA rbA rwdA meA rgA ipA ouA v = (me1, rg1, ip1, ou1, ct1, ti1, ni1, no1, rq1, rb1, rwd1, ho1, b11, w11, n11, sg1)) : OPX h0 go so nu v me ro di ob od on pg os sr me1 rg1 ip1 ou1 ct1 ti1 ni1 no1 rq1 rb1 rwd1 ho1 b11 w11 n11 sg1 := by
  have ha : (lo 2 (v >>> (4 &&& 31))) < 4 := lo_lt 2 _
  have hb : (lo 2 (v >>> (6 &&& 31))) < 4 := lo_lt 2 _
  have ea : ro (60 * h0 + (lo 2 (v >>> (4 &&& 31)))) = rgA (lo 2 (v >>> (4 &&& 31))) := (hS.1 _ ha).symm
  have eb : ro (60 * h0 + (lo 2 (v >>> (6 &&& 31)))) = rgA (lo 2 (v >>> (6 &&& 31))) := (hS.1 _ hb).symm
  have b1 := nni.2
  have b2 := nno.2
  rw [fp_12 _ _ _ _ _ _ _ _ _ _ _ _ _ _ _ _ _ _ _ hop] at eP
  cases eP
  subst hbl
  have hr0 : ¬ ro (60 * h0 + 56) = 1 := by rw [show ro (60 * h0 + 56) = bI rqA from hS.2.2.2.2.2.2.1]; cases rqA with | true => exact absurd rfl hrq | false => decide
  have hnew : nI (lo 6 ((upd (upd ro (60 * h0 + (lo 2 (v >>> (4 &&& 31)))) (bl (lo 3 (nI (lo 6 (v >>> (8 &&& 31))))))) (60 * h0 + 59) ((upd ro (60 * h0 + (lo 2 (v >>> (4 &&& 31)))) (bl (lo 3 (nI (lo 6 (v >>> (8 &&& 31))))))) (60 * h0 + 59) + 1)) (60 * h0 + 4) + 1)) = nI ((tN ctA + 1) % 64) := by rw [pk_un (by omega), pk_un (by omega), ← hct]; exact lo6_succ nct
  refine ⟨upd ro (60 * h0 + (lo 2 (v >>> (4 &&& 31)))) (bl (lo 3 (nI (lo 6 (v >>> (8 &&& 31)))))), nI ((tN ctA + 1) % 64), me, pg, ob, od, on, os, ?_, (by rw [lo3_6]; exact hS.reg ha), (by rw [pk_un (by omega)]), rfl, (fun j hj => by rw [pk_un (by omega)]), hM, fun _ _ => rfl, hPS, hord, fun _ _ => ⟨rfl, rfl, rfl, rfl⟩⟩
  rw [fm_12 _ _ _ _ _ _ _ _ _ _ _ _ _ hop, if_neg hr0]
  (try dsimp only)
  rw [hnew]
