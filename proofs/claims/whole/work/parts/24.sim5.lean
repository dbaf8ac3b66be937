set_option maxHeartbeats 4000000 in
set_option maxRecDepth 100000 in
theorem op_9 {h0 : Nat} {go : Bool} {so nu v : Int32} {me ro di ob od on pg : Nat → Int32} {os : Nat → Bool} {meA rgA ipA ouA bl sg sr : Nat → Int32} {ctA tiA niA noA rbA rwdA b1A w1A n1A : Int32} {rqA hoA : Bool} {me1 rg1 ip1 ou1 sg1 : Nat → Int32} {ct1 ti1 ni1 no1 rb1 rwd1 b11 w11 n11 : Int32} {rq1 ho1 : Bool} (hh : h0 < 2) (hM : ∀ j, j < 64 → meA j = me (64 * h0 + j)) (hS : MS0 rgA ipA ouA tiA niA noA rqA rbA rwdA (fun k => ro (60 * h0 + k))) (hct : ctA = ro (60 * h0 + 4)) (nct : isN ctA 64) (nni : isN niA 9) (nno : isN noA 41) (hbl : bl = di) (hord : hoA = os h0 ∧ b1A = ob h0 ∧ w1A = od h0 ∧ n1A = on h0 ∧ isN (ob h0) 8) (hPS : go = true → ∀ p, p < 8 → PS (sg p) (sr p) (pg p)) (hgo : go = true → so = nI h0) (hop : lo 4 v = 9) (eP : F_G_perform nu bl sg hoA b1A w1A n1A (nI ((tN ctA + 1) % 64)) tiA niA noA rqA rbA rwdA meA rgA ipA ouA v = (me1, rg1, ip1, ou1, ct1, ti1, ni1, no1, rq1, rb1, rwd1, ho1, b11, w11, n11, sg1)) : OPX h0 go so nu v me ro di ob od on pg os sr me1 rg1 ip1 ou1 ct1 ti1 ni1 no1 rq1 rb1 rwd1 ho1 b11 w11 n11 sg1 := by
  have ha : (lo 2 (v >>> (4 &&& 31))) < 4 := lo_lt 2 _
  have hb : (lo 2 (v >>> (6 &&& 31))) < 4 := lo_lt 2 _
  have ea : ro (60 * h0 + (lo 2 (v >>> (4 &&& 31)))) = rgA (lo 2 (v >>> (4 &&& 31))) := (hS.1 _ ha).symm
  have eb : ro (60 * h0 + (lo 2 (v >>> (6 &&& 31)))) = rgA (lo 2 (v >>> (6 &&& 31))) := (hS.1 _ hb).symm
  have b1 := nni.2
  have b2 := nno.2
  have h15 : ro (60 * h0 + 15) = noA := hS.2.2.2.2.1.symm
  rw [fp_9 _ _ _ _ _ _ _ _ _ _ _ _ _ _ _ _ _ _ _ hop, fc_9 _ _ _ _ _ _ _ _ _ hop] at eP
  rcases hw9 : F_A_write noA ouA (rgA (lo 2 (v >>> (4 &&& 31)))) with ⟨ou2, no2⟩
  rw [hw9] at eP
  dsimp only at eP
  unfold F_A_write at hw9
  by_cases h4 : 40 ≤ nI (tN noA)
  · rw [if_pos h4] at hw9
    cases hw9
    cases eP
    have hnew : nI (lo 6 ((upd ro (60 * h0 + 59) (ro (60 * h0 + 59) + 1)) (60 * h0 + 4) + 1)) = nI ((tN ctA + 1) % 64) := by rw [pk_un (by omega), ← hct]; exact lo6_succ nct
    refine ⟨ro, nI ((tN ctA + 1) % 64), me, pg, ob, od, on, os, ?_, hS, rfl, rfl, fun _ _ => rfl, hM, fun _ _ => rfl, hPS, hord, fun _ _ => ⟨rfl, rfl, rfl, rfl⟩⟩
    rw [fm_9 _ _ _ _ _ _ _ _ _ _ _ _ _ hop, h15, if_pos h4]
    (try dsimp only)
    rw [hnew]
  · rw [if_neg h4] at hw9
    have z9 := nle_nat (m := 40) h4 (by omega) (by omega)
    cases hw9
    cases eP
    have ev : (upd ro (60 * h0 + 16 + tN noA) (ro (60 * h0 + (lo 2 (v >>> (4 &&& 31)))))) (60 * h0 + 15) = noA := by rw [pk_un (by omega)]; exact h15
    have hnew : nI (lo 6 ((upd (upd (upd ro (60 * h0 + 16 + tN noA) (ro (60 * h0 + (lo 2 (v >>> (4 &&& 31)))))) (60 * h0 + 15) ((upd ro (60 * h0 + 16 + tN noA) (ro (60 * h0 + (lo 2 (v >>> (4 &&& 31)))))) (60 * h0 + 15) + 1)) (60 * h0 + 59) ((upd (upd ro (60 * h0 + 16 + tN noA) (ro (60 * h0 + (lo 2 (v >>> (4 &&& 31)))))) (60 * h0 + 15) ((upd ro (60 * h0 + 16 + tN noA) (ro (60 * h0 + (lo 2 (v >>> (4 &&& 31)))))) (60 * h0 + 15) + 1)) (60 * h0 + 59) + 1)) (60 * h0 + 4) + 1)) = nI ((tN ctA + 1) % 64) := by rw [pk_un (by omega), pk_un (by omega), pk_un (by omega), ← hct]; exact lo6_succ nct
    refine ⟨upd (upd ro (60 * h0 + 16 + tN noA) (ro (60 * h0 + (lo 2 (v >>> (4 &&& 31)))))) (60 * h0 + 15) ((upd ro (60 * h0 + 16 + tN noA) (ro (60 * h0 + (lo 2 (v >>> (4 &&& 31)))))) (60 * h0 + 15) + 1), nI ((tN ctA + 1) % 64), me, pg, ob, od, on, os, ?_, (by rw [ev, ea]; exact hS.outp nni nno z9), (by rw [pk_un (by omega), pk_un (by omega)]), rfl, (fun j hj => by rw [pk_un (by omega), pk_un (by omega)]), hM, fun _ _ => rfl, hPS, hord, fun _ _ => ⟨rfl, rfl, rfl, rfl⟩⟩
    rw [fm_9 _ _ _ _ _ _ _ _ _ _ _ _ _ hop, h15, if_neg h4]
    (try dsimp only)
    rw [hnew]
set_option maxHeartbeats 4000000 in
set_option maxRecDepth 100000 in
theorem op_10 {h0 : Nat} {go : Bool} {so nu v : Int32} {me ro di ob od on pg : Nat → Int32} {os : Nat → Bool} {meA rgA ipA ouA bl sg sr : Nat → Int32} {ctA tiA niA noA rbA rwdA b1A w1A n1A : Int32} {rqA hoA : Bool} {me1 rg1 ip1 ou1 sg1 : Nat → Int32} {ct1 ti1 ni1 no1 rb1 rwd1 b11 w11 n11 : Int32} {rq1 ho1 : Bool} (hh : h0 < 2) (hM : ∀ j, j < 64 → meA j = me (64 * h0 + j)) (hS : MS0 rgA ipA ouA tiA niA noA rqA rbA rwdA (fun k => ro (60 * h0 + k))) (hct : ctA = ro (60 * h0 + 4)) (nct : isN ctA 64) (nni : isN niA 9) (nno : isN noA 41) (hbl : bl = di) (hord : hoA = os h0 ∧ b1A = ob h0 ∧ w1A = od h0 ∧ n1A = on h0 ∧ isN (ob h0) 8) (hPS : go = true → ∀ p, p < 8 → PS (sg p) (sr p) (pg p)) (hgo : go = true → so = nI h0) (hop : lo 4 v = 10) (eP : F_G_perform nu bl sg hoA b1A w1A n1A (nI ((tN ctA + 1) % 64)) tiA niA noA rqA rbA rwdA meA rgA ipA ouA v = (me1, rg1, ip1, ou1, ct1, ti1, ni1, no1, rq1, rb1, rwd1, ho1, b11, w11, n11, sg1)) : OPX h0 go so nu v me ro di ob od on pg os sr me1 rg1 ip1 ou1 ct1 ti1 ni1 no1 rq1 rb1 rwd1 ho1 b11 w11 n11 sg1 := by
  have ha : (lo 2 (v >>> (4 &&& 31))) < 4 := lo_lt 2 _
  have hb : (lo 2 (v >>> (6 &&& 31))) < 4 := lo_lt 2 _
  have ea : ro (60 * h0 + (lo 2 (v >>> (4 &&& 31)))) = rgA (lo 2 (v >>> (4 &&& 31))) := (hS.1 _ ha).symm
  have eb : ro (60 * h0 + (lo 2 (v >>> (6 &&& 31)))) = rgA (lo 2 (v >>> (6 &&& 31))) := (hS.1 _ hb).symm
  have b1 := nni.2
  have b2 := nno.2
  rw [fp_10 _ _ _ _ _ _ _ _ _ _ _ _ _ _ _ _ _ _ _ hop, fc_10 _ _ _ _ _ _ _ _ _ hop] at eP
  rcases hr : F_A_readOldest niA ipA with ⟨x, ip2, ni2⟩
  rw [hr] at eP
  dsimp only at eP
  rcases ht : F_M_taken ro (60 * h0) with ⟨x2, ro2⟩
  obtain ⟨rfl, hS2, h4, h59, hout⟩ := hS.take nni nno hr ht
  cases eP
  have hnew : nI (lo 6 ((upd (upd ro2 (60 * h0 + (lo 2 (v >>> (4 &&& 31)))) x) (60 * h0 + 59) ((upd ro2 (60 * h0 + (lo 2 (v >>> (4 &&& 31)))) x) (60 * h0 + 59) + 1)) (60 * h0 + 4) + 1)) = nI ((tN ctA + 1) % 64) := by rw [pk_un (by omega), pk_un (by omega), h4, ← hct]; exact lo6_succ nct
  refine ⟨upd ro2 (60 * h0 + (lo 2 (v >>> (4 &&& 31)))) x, nI ((tN ctA + 1) % 64), me, pg, ob, od, on, os, ?_, hS2.reg ha, (by rw [pk_un (by omega)]; exact h59), rfl, (fun j hj => by rw [pk_un (by omega)]; exact hout j hj), hM, fun _ _ => rfl, hPS, hord, fun _ _ => ⟨rfl, rfl, rfl, rfl⟩⟩
  rw [fm_10 _ _ _ _ _ _ _ _ _ _ _ _ _ hop, ht]
  (try dsimp only)
  rw [hnew]
set_option maxHeartbeats 4000000 in
set_option maxRecDepth 100000 in
theorem op_6 {h0 : Nat} {go : Bool} {so nu v : Int32} {me ro di ob od on pg : Nat → Int32} {os : Nat → Bool} {meA rgA ipA ouA bl sg sr : Nat → Int32} {ctA tiA niA noA rbA rwdA b1A w1A n1A : Int32} {rqA hoA : Bool} {me1 rg1 ip1 ou1 sg1 : Nat → Int32} {ct1 ti1 ni1 no1 rb1 rwd1 b11 w11 n11 : Int32} {rq1 ho1 : Bool} (hh : h0 < 2) (hM : ∀ j, j < 64 → meA j = me (64 * h0 + j)) (hS : MS0 rgA ipA ouA tiA niA noA rqA rbA rwdA (fun k => ro (60 * h0 + k))) (hct : ctA = ro (60 * h0 + 4)) (nct : isN ctA 64) (nni : isN niA 9) (nno : isN noA 41) (hbl : bl = di) (hord : hoA = os h0 ∧ b1A = ob h0 ∧ w1A = od h0 ∧ n1A = on h0 ∧ isN (ob h0) 8) (hPS : go = true → ∀ p, p < 8 → PS (sg p) (sr p) (pg p)) (hgo : go = true → so = nI h0) (hop : lo 4 v = 6) (eP : F_G_perform nu bl sg hoA b1A w1A n1A (nI ((tN ctA + 1) % 64)) tiA niA noA rqA rbA rwdA meA rgA ipA ouA v = (me1, rg1, ip1, ou1, ct1, ti1, ni1, no1, rq1, rb1, rwd1, ho1, b11, w11, n11, sg1)) : OPX h0 go so nu v me ro di ob od on pg os sr me1 rg1 ip1 ou1 ct1 ti1 ni1 no1 rq1 rb1 rwd1 ho1 b11 w11 n11 sg1 := by
  have ha : (lo 2 (v >>> (4 &&& 31))) < 4 := lo_lt 2 _
  have hb : (lo 2 (v >>> (6 &&& 31))) < 4 := lo_lt 2 _
  have ea : ro (60 * h0 + (lo 2 (v >>> (4 &&& 31)))) = rgA (lo 2 (v >>> (4 &&& 31))) := (hS.1 _ ha).symm
  have eb : ro (60 * h0 + (lo 2 (v >>> (6 &&& 31)))) = rgA (lo 2 (v >>> (6 &&& 31))) := (hS.1 _ hb).symm
  have b1 := nni.2
  have b2 := nno.2
  have hX : (lo 6 ((rgA (lo 2 (v >>> (6 &&& 31)))) + (nI (lo 6 (v >>> (8 &&& 31)))))) < 64 := lo_lt 6 _
  rw [fp_6 _ _ _ _ _ _ _ _ _ _ _ _ _ _ _ _ _ _ _ hop] at eP
  cases eP
  rcases hw : F_M_written me pg go so h0 (lo 6 ((rgA (lo 2 (v >>> (6 &&& 31)))) + (nI (lo 6 (v >>> (8 &&& 31)))))) (rgA (lo 2 (v >>> (4 &&& 31)))) with ⟨me2, pg2⟩
  have hm2 : me2 = upd me (64 * h0 + (lo 6 ((rgA (lo 2 (v >>> (6 &&& 31)))) + (nI (lo 6 (v >>> (8 &&& 31))))))) (rgA (lo 2 (v >>> (4 &&& 31)))) ∧ (go = true → pg2 = upd pg ((lo 6 ((rgA (lo 2 (v >>> (6 &&& 31)))) + (nI (lo 6 (v >>> (8 &&& 31)))))) / 8) (-1)) := by
    unfold F_M_written at hw
    by_cases hg : go = true
    · rw [if_pos hg, if_pos (hgo hg)] at hw
      cases hw
      exact ⟨rfl, fun _ => rfl⟩
    · rw [if_neg hg] at hw
      cases hw
      exact ⟨rfl, fun q => absurd q hg⟩
  obtain ⟨rfl, hp2⟩ := hm2
  have hnew : nI (lo 6 ((upd ro (60 * h0 + 59) (ro (60 * h0 + 59) + 1)) (60 * h0 + 4) + 1)) = nI ((tN ctA + 1) % 64) := by rw [pk_un (by omega), ← hct]; exact lo6_succ nct
  refine ⟨ro, nI ((tN ctA + 1) % 64), upd me (64 * h0 + (lo 6 ((rgA (lo 2 (v >>> (6 &&& 31)))) + (nI (lo 6 (v >>> (8 &&& 31))))))) (rgA (lo 2 (v >>> (4 &&& 31)))), pg2, ob, od, on, os, ?_, hS, rfl, rfl, fun _ _ => rfl, fun j hj => ?_, fun j hj => ?_, fun hg p hp => ?_, hord, fun _ _ => ⟨rfl, rfl, rfl, rfl⟩⟩
  · rw [fm_6 _ _ _ _ _ _ _ _ _ _ _ _ _ hop, ea, eb, hw]
    (try dsimp only)
    rw [hnew]
  · by_cases hj2 : j = (lo 6 ((rgA (lo 2 (v >>> (6 &&& 31)))) + (nI (lo 6 (v >>> (8 &&& 31))))))
    · rw [hj2, pk_us, pk_us]
    · rw [pk_un hj2, pk_un (by omega)]
      exact hM j hj
  · rw [pk_un (by omega)]
  · rw [hp2 hg]
    by_cases hp3 : p = (lo 6 ((rgA (lo 2 (v >>> (6 &&& 31)))) + (nI (lo 6 (v >>> (8 &&& 31)))))) / 8
    · rw [hp3, pk_us, pk_us]
      exact Or.inl ⟨rfl, rfl⟩
    · rw [pk_un hp3, pk_un hp3]
      exact hPS hg p hp
set_option maxHeartbeats 4000000 in
set_option maxRecDepth 100000 in
theorem op_11 {h0 : Nat} {go : Bool} {so nu v : Int32} {me ro di ob od on pg : Nat → Int32} {os : Nat → Bool} {meA rgA ipA ouA bl sg sr : Nat → Int32} {ctA tiA niA noA rbA rwdA b1A w1A n1A : Int32} {rqA hoA : Bool} {me1 rg1 ip1 ou1 sg1 : Nat → Int32} {ct1 ti1 ni1 no1 rb1 rwd1 b11 w11 n11 : Int32} {rq1 ho1 : Bool} (hh : h0 < 2) (hM : ∀ j, j < 64 → meA j = me (64 * h0 + j)) (hS : MS0 rgA ipA ouA tiA niA noA rqA rbA rwdA (fun k => ro (60 * h0 + k))) (hct : ctA = ro (60 * h0 + 4)) (nct : isN ctA 64) (nni : isN niA 9) (nno : isN noA 41) (hbl : bl = di) (hord : hoA = os h0 ∧ b1A = ob h0 ∧ w1A = od h0 ∧ n1A = on h0 ∧ isN (ob h0) 8) (hPS : go = true → ∀ p, p < 8 → PS (sg p) (sr p) (pg p)) (hgo : go = true → so = nI h0) (hrq : ¬ rqA = true) (hop : lo 4 v = 11) (eP : F_G_perform nu bl sg hoA b1A w1A n1A (nI ((tN ctA + 1) % 64)) tiA niA noA rqA rbA rwdA meA rgA ipA ouA v = (me1, rg1, ip1, ou1, ct1, ti1, ni1, no1, rq1, rb1, rwd1, ho1, b11, w11, n11, sg1)) : OPX h0 go so nu v me ro di ob od on pg os sr me1 rg1 ip1 ou1 ct1 ti1 ni1 no1 rq1 rb1 rwd1 ho1 b11 w11 n11 sg1 := by
  have ha : (lo 2 (v >>> (4 &&& 31))) < 4 := lo_lt 2 _
  have hb : (lo 2 (v >>> (6 &&& 31))) < 4 := lo_lt 2 _
  have ea : ro (60 * h0 + (lo 2 (v >>> (4 &&& 31)))) = rgA (lo 2 (v >>> (4 &&& 31))) := (hS.1 _ ha).symm
  have eb : ro (60 * h0 + (lo 2 (v >>> (6 &&& 31)))) = rgA (lo 2 (v >>> (6 &&& 31))) := (hS.1 _ hb).symm
  have b1 := nni.2
  have b2 := nno.2
  rw [fp_11 _ _ _ _ _ _ _ _ _ _ _ _ _ _ _ _ _ _ _ hop] at eP
  cases eP
  have hr0 : ¬ ro (60 * h0 + 56) = 1 := by rw [show ro (60 * h0 + 56) = bI rqA from hS.2.2.2.2.2.2.1]; cases rqA with | true => exact absurd rfl hrq | false => decide
  have hbN : isN (nI (lo 3 (nI (lo 6 (v >>> (8 &&& 31)))))) 8 := isN_nI (lo_lt 3 _) (by decide)
  have ev : (upd (upd ro (60 * h0 + 56) 1) (60 * h0 + 57) (nI (lo 3 (nI (lo 6 (v >>> (8 &&& 31))))))) (60 * h0 + (lo 2 (v >>> (4 &&& 31)))) = rgA (lo 2 (v >>> (4 &&& 31))) := by rw [pk_un (by omega), pk_un (by omega)]; exact ea
  have hnew : nI (lo 6 ((upd (upd (upd (upd ro (60 * h0 + 56) 1) (60 * h0 + 57) (nI (lo 3 (nI (lo 6 (v >>> (8 &&& 31))))))) (60 * h0 + 58) ((upd (upd ro (60 * h0 + 56) 1) (60 * h0 + 57) (nI (lo 3 (nI (lo 6 (v >>> (8 &&& 31))))))) (60 * h0 + (lo 2 (v >>> (4 &&& 31)))))) (60 * h0 + 59) ((upd (upd (upd ro (60 * h0 + 56) 1) (60 * h0 + 57) (nI (lo 3 (nI (lo 6 (v >>> (8 &&& 31))))))) (60 * h0 + 58) ((upd (upd ro (60 * h0 + 56) 1) (60 * h0 + 57) (nI (lo 3 (nI (lo 6 (v >>> (8 &&& 31))))))) (60 * h0 + (lo 2 (v >>> (4 &&& 31)))))) (60 * h0 + 59) + 1)) (60 * h0 + 4) + 1)) = nI ((tN ctA + 1) % 64) := by rw [pk_un (by omega), pk_un (by omega), pk_un (by omega), pk_un (by omega), ← hct]; exact lo6_succ nct
  refine ⟨upd (upd (upd ro (60 * h0 + 56) 1) (60 * h0 + 57) (nI (lo 3 (nI (lo 6 (v >>> (8 &&& 31))))))) (60 * h0 + 58) ((upd (upd ro (60 * h0 + 56) 1) (60 * h0 + 57) (nI (lo 3 (nI (lo 6 (v >>> (8 &&& 31))))))) (60 * h0 + (lo 2 (v >>> (4 &&& 31))))), nI ((tN ctA + 1) % 64), me, pg, upd ob h0 ((upd (upd (upd ro (60 * h0 + 56) 1) (60 * h0 + 57) (nI (lo 3 (nI (lo 6 (v >>> (8 &&& 31))))))) (60 * h0 + 58) ((upd (upd ro (60 * h0 + 56) 1) (60 * h0 + 57) (nI (lo 3 (nI (lo 6 (v >>> (8 &&& 31))))))) (60 * h0 + (lo 2 (v >>> (4 &&& 31)))))) (60 * h0 + 57)), upd od h0 ((upd (upd (upd ro (60 * h0 + 56) 1) (60 * h0 + 57) (nI (lo 3 (nI (lo 6 (v >>> (8 &&& 31))))))) (60 * h0 + 58) ((upd (upd ro (60 * h0 + 56) 1) (60 * h0 + 57) (nI (lo 3 (nI (lo 6 (v >>> (8 &&& 31))))))) (60 * h0 + (lo 2 (v >>> (4 &&& 31)))))) (60 * h0 + 58)), upd on h0 nu, va_up os h0 true, ?_, ?_, (by rw [pk_un (by omega), pk_un (by omega), pk_un (by omega)]), rfl, (fun j hj => by rw [pk_un (by omega), pk_un (by omega), pk_un (by omega)]), hM, fun _ _ => rfl, hPS, ?_, fun j hj => ⟨va_up_ne _ _ hj, pk_un hj, pk_un hj, pk_un hj⟩⟩
  · rw [fm_11 _ _ _ _ _ _ _ _ _ _ _ _ _ hop, if_neg hr0]
    (try dsimp only)
    rw [hnew]
  · rw [ev, ← lo3_6]
    exact hS.req nni nno hbN
  · rw [va_up_self, pk_us, pk_us, pk_us, pk_us, pk_un (by omega), pk_us, ev, ← lo3_6]
    exact ⟨rfl, rfl, rfl, rfl, hbN⟩
