/-- a host's machine in both, and all that runs with it -/
def RV (h0 : Nat) (go : Bool) (sr : Nat → Int32) (meA : Nat → Int32) (rgA : Nat → Int32) (ipA : Nat → Int32) (ouA : Nat → Int32) (ctA : Int32) (tiA : Int32) (niA : Int32) (noA : Int32) (rqA : Bool) (rbA : Int32) (rwdA : Int32) (hoA : Bool) (b1A : Int32) (w1A : Int32) (n1A : Int32) (sg : Nat → Int32) (rtA : Int32) (me : Nat → Int32) (ro : Nat → Int32) (pg : Nat → Int32) (os : Nat → Bool) (ob : Nat → Int32) (od : Nat → Int32) (on : Nat → Int32) : Prop :=
  (∀ j, j < 64 → meA j = me (64 * h0 + j)) ∧ MS0 rgA ipA ouA tiA niA noA rqA rbA rwdA (fun k => ro (60 * h0 + k)) ∧ ctA = ro (60 * h0 + 4) ∧ rtA = ro (60 * h0 + 59) ∧ (hoA = os h0 ∧ b1A = ob h0 ∧ w1A = od h0 ∧ n1A = on h0 ∧ isN (ob h0) 8) ∧ (go = true → ∀ p, p < 8 → PS (sg p) (sr p) (pg p))
/-- what lies elsewhere in the reference stays -/
def FR (h0 : Nat) (me : Nat → Int32) (ro : Nat → Int32) (os : Nat → Bool) (ob : Nat → Int32) (od : Nat → Int32) (on : Nat → Int32) (me2 : Nat → Int32) (ro2 : Nat → Int32) (os2 : Nat → Bool) (ob2 : Nat → Int32) (od2 : Nat → Int32) (on2 : Nat → Int32) : Prop :=
  (∀ j, ¬ (64 * h0 ≤ j ∧ j < 64 * h0 + 64) → me2 j = me j) ∧ (∀ j, ¬ (60 * h0 ≤ j ∧ j < 60 * h0 + 60) → ro2 j = ro j) ∧ ∀ j, j ≠ h0 → os2 j = os j ∧ ob2 j = ob j ∧ od2 j = od j ∧ on2 j = on j
theorem FR.rf {h0 : Nat} {me : Nat → Int32} {ro : Nat → Int32} {os : Nat → Bool} {ob : Nat → Int32} {od : Nat → Int32} {on : Nat → Int32} : FR h0 me ro os ob od on me ro os ob od on := ⟨fun _ _ => rfl, fun _ _ => rfl, fun _ _ => ⟨rfl, rfl, rfl, rfl⟩⟩
theorem FR.tr {h0 : Nat} {me : Nat → Int32} {ro : Nat → Int32} {os : Nat → Bool} {ob : Nat → Int32} {od : Nat → Int32} {on : Nat → Int32} {me2 : Nat → Int32} {ro2 : Nat → Int32} {os2 : Nat → Bool} {ob2 : Nat → Int32} {od2 : Nat → Int32} {on2 : Nat → Int32} {me3 : Nat → Int32} {ro3 : Nat → Int32} {os3 : Nat → Bool} {ob3 : Nat → Int32} {od3 : Nat → Int32} {on3 : Nat → Int32} (h : FR h0 me ro os ob od on me2 ro2 os2 ob2 od2 on2) (h2 : FR h0 me2 ro2 os2 ob2 od2 on2 me3 ro3 os3 ob3 od3 on3) : FR h0 me ro os ob od on me3 ro3 os3 ob3 od3 on3 :=
  ⟨fun j hj => (h2.1 j hj).trans (h.1 j hj), fun j hj => (h2.2.1 j hj).trans (h.2.1 j hj), fun j hj => ⟨(h2.2.2 j hj).1.trans (h.2.2 j hj).1, (h2.2.2 j hj).2.1.trans (h.2.2 j hj).2.1, (h2.2.2 j hj).2.2.1.trans (h.2.2 j hj).2.2.1, (h2.2.2 j hj).2.2.2.trans (h.2.2 j hj).2.2.2⟩⟩
set_option maxHeartbeats 4000000 in
set_option maxRecDepth 100000 in
theorem fin_sim {h0 : Nat} {go : Bool} {so nu v r2 : Int32} {di sr : Nat → Int32} {me : Nat → Int32} {ro : Nat → Int32} {pg : Nat → Int32} {os : Nat → Bool} {ob : Nat → Int32} {od : Nat → Int32} {on : Nat → Int32} {me2 : Nat → Int32} {ro2 : Nat → Int32} {pg2 : Nat → Int32} {os2 : Nat → Bool} {ob2 : Nat → Int32} {od2 : Nat → Int32} {on2 : Nat → Int32} {me1 rg1 rg2 ip1 ou1 sg1 : Nat → Int32} {ct1 ct2 ti1 ti2 ni1 no1 rb1 rwd1 b11 w11 n11 rtA : Int32} {rq1 ho1 : Bool} (H : OPX h0 go so nu v me ro di ob od on pg os sr me1 rg1 ip1 ou1 ct1 ti1 ni1 no1 rq1 rb1 rwd1 ho1 b11 w11 n11 sg1) (hrt : rtA = ro (60 * h0 + 59)) (nni : isN ni1 9) (nno : isN no1 41) (et : F_A_tick ct1 ti1 rg1 = (rg2, ct2, ti2)) (eM : F_M_instruct me ro di os ob od on pg nu go so h0 v = (r2, me2, ro2, pg2, os2, ob2, od2, on2)) :
    1 = r2 ∧ RV h0 go sr me1 rg2 ip1 ou1 ct2 ti2 ni1 no1 rq1 rb1 rwd1 ho1 b11 w11 n11 sg1 (rtA + 1) me2 ro2 pg2 os2 ob2 od2 on2 ∧ FR h0 me ro os ob od on me2 ro2 os2 ob2 od2 on2 := by
  obtain ⟨RO, NC, M1, pg1, ob1, od1, on1, os1, e1, e2, e3, e4, e5, e6, e7, e8, e9, e10⟩ := H
  rw [e1] at eM
  cases eM
  have hx := MS0.frame (q2 := fun k => upd (upd RO (60 * h0 + 59) (RO (60 * h0 + 59) + 1)) (60 * h0 + 4) NC (60 * h0 + k)) e2 nni nno (fun j hj h4 => by
    show upd (upd RO (60 * h0 + 59) (RO (60 * h0 + 59) + 1)) (60 * h0 + 4) NC (60 * h0 + j) = RO (60 * h0 + j)
    rw [pk_un (by omega), pk_un (by omega)])
  obtain ⟨t1, t2, t3⟩ := tick_sim hx nni nno (by rw [pk_us]; exact e4) et
  refine ⟨rfl, ⟨e6, t1, t2, ?_, e9, e8⟩, e7, fun j hj => ?_, e10⟩
  · rw [t3 _ (by omega) (by omega) (by omega), pk_un (by omega), pk_us, e3, hrt]
  · rw [t3 _ (by omega) (by omega) (by omega), pk_un (by omega), pk_un (by omega)]
    exact e5 j hj
set_option maxHeartbeats 8000000 in
set_option maxRecDepth 100000 in
theorem ins_sim {h0 : Nat} {go : Bool} {so nu v r r2 : Int32} {di bl sr : Nat → Int32} {meA : Nat → Int32} {rgA : Nat → Int32} {ipA : Nat → Int32} {ouA : Nat → Int32} {ctA : Int32} {tiA : Int32} {niA : Int32} {noA : Int32} {rqA : Bool} {rbA : Int32} {rwdA : Int32} {hoA : Bool} {b1A : Int32} {w1A : Int32} {n1A : Int32} {sg : Nat → Int32} {rtA : Int32} {meA2 : Nat → Int32} {rgA2 : Nat → Int32} {ipA2 : Nat → Int32} {ouA2 : Nat → Int32} {ctA2 : Int32} {tiA2 : Int32} {niA2 : Int32} {noA2 : Int32} {rqA2 : Bool} {rbA2 : Int32} {rwdA2 : Int32} {hoA2 : Bool} {b1A2 : Int32} {w1A2 : Int32} {n1A2 : Int32} {sg2 : Nat → Int32} {rtA2 : Int32} {me : Nat → Int32} {ro : Nat → Int32} {pg : Nat → Int32} {os : Nat → Bool} {ob : Nat → Int32} {od : Nat → Int32} {on : Nat → Int32} {me2 : Nat → Int32} {ro2 : Nat → Int32} {pg2 : Nat → Int32} {os2 : Nat → Bool} {ob2 : Nat → Int32} {od2 : Nat → Int32} {on2 : Nat → Int32} (hh : h0 < 2) (hV : RV h0 go sr meA rgA ipA ouA ctA tiA niA noA rqA rbA rwdA hoA b1A w1A n1A sg rtA me ro pg os ob od on) (nct : isN ctA 64) (nni : isN niA 9) (nno : isN noA 41) (hbl : bl = di) (hgo : go = true → so = nI h0) (eG : F_G_retireNext nu bl sg hoA b1A w1A n1A ctA tiA niA noA rtA rqA rbA rwdA meA rgA ipA ouA v = (r, meA2, rgA2, ipA2, ouA2, ctA2, tiA2, niA2, noA2, rqA2, rbA2, rwdA2, hoA2, b1A2, w1A2, n1A2, sg2, rtA2)) (eM : F_M_instruct me ro di os ob od on pg nu go so h0 v = (r2, me2, ro2, pg2, os2, ob2, od2, on2)) :
    r = r2 ∧ RV h0 go sr meA2 rgA2 ipA2 ouA2 ctA2 tiA2 niA2 noA2 rqA2 rbA2 rwdA2 hoA2 b1A2 w1A2 n1A2 sg2 rtA2 me2 ro2 pg2 os2 ob2 od2 on2 ∧ FR h0 me ro os ob od on me2 ro2 os2 ob2 od2 on2 := by
  obtain ⟨hM, hS, hct, hrt, hord, hPS⟩ := hV
  have h16 : lo 4 v < 16 := lo_lt 4 v
  unfold F_G_retireNext at eG
  rcases (show lo 4 v = 0 ∨ lo 4 v = 1 ∨ lo 4 v = 2 ∨ lo 4 v = 3 ∨ lo 4 v = 4 ∨ lo 4 v = 5 ∨ lo 4 v = 6 ∨ lo 4 v = 7 ∨ lo 4 v = 8 ∨ lo 4 v = 9 ∨ lo 4 v = 10 ∨ lo 4 v = 11 ∨ lo 4 v = 12 ∨ lo 4 v = 13 ∨ lo 4 v = 14 ∨ lo 4 v = 15 by omega) with hop | hop | hop | hop | hop | hop | hop | hop | hop | hop | hop | hop | hop | hop | hop | hop
  · rw [hop, hw_0] at eG
    dsimp only at eG
    rw [if_neg (show ¬ (1 : Int32) = 0 by decide)] at eG
    rw [fm_0 _ _ _ _ _ _ _ _ _ _ _ _ _ hop] at eM
    cases eG
    cases eM
    exact ⟨rfl, ⟨hM, hS, hct, hrt, hord, hPS⟩, FR.rf⟩
  · rw [hop, hw_1] at eG
    dsimp only at eG
    rw [if_pos (show (0 : Int32) = 0 from rfl)] at eG
    rcases eP : F_G_perform nu bl sg hoA b1A w1A n1A (nI ((tN ctA + 1) % 64)) tiA niA noA rqA rbA rwdA meA rgA ipA ouA v with ⟨me1, rg1, ip1, ou1, ct1, ti1, ni1, no1, rq1, rb1, rwd1, ho1, b11, w11, n11, sg1⟩
    rw [eP] at eG
    dsimp only at eG
    rcases et : F_A_tick ct1 ti1 rg1 with ⟨rg9, ct9, ti9⟩
    rw [et] at eG
    dsimp only at eG
    cases eG
    have inv := G_perform_inv nno nni (isN_nI (Nat.mod_lt _ (by decide)) (by decide)) eP
    exact fin_sim (op_1 hh hM hS hct nct nni nno hbl hord hPS hgo hop eP) hrt inv.2.1 inv.2.2 et eM
  · rw [hop, hw_2] at eG
    dsimp only at eG
    rw [if_pos (show (0 : Int32) = 0 from rfl)] at eG
    rcases eP : F_G_perform nu bl sg hoA b1A w1A n1A (nI ((tN ctA + 1) % 64)) tiA niA noA rqA rbA rwdA meA rgA ipA ouA v with ⟨me1, rg1, ip1, ou1, ct1, ti1, ni1, no1, rq1, rb1, rwd1, ho1, b11, w11, n11, sg1⟩
    rw [eP] at eG
    dsimp only at eG
    rcases et : F_A_tick ct1 ti1 rg1 with ⟨rg9, ct9, ti9⟩
    rw [et] at eG
    dsimp only at eG
    cases eG
    have inv := G_perform_inv nno nni (isN_nI (Nat.mod_lt _ (by decide)) (by decide)) eP
    exact fin_sim (op_2 hh hM hS hct nct nni nno hbl hord hPS hgo hop eP) hrt inv.2.1 inv.2.2 et eM
  · rw [hop, hw_3] at eG
    dsimp only at eG
    rw [if_pos (show (0 : Int32) = 0 from rfl)] at eG
    rcases eP : F_G_perform nu bl sg hoA b1A w1A n1A (nI ((tN ctA + 1) % 64)) tiA niA noA rqA rbA rwdA meA rgA ipA ouA v with ⟨me1, rg1, ip1, ou1, ct1, ti1, ni1, no1, rq1, rb1, rwd1, ho1, b11, w11, n11, sg1⟩
    rw [eP] at eG
    dsimp only at eG
    rcases et : F_A_tick ct1 ti1 rg1 with ⟨rg9, ct9, ti9⟩
    rw [et] at eG
    dsimp only at eG
    cases eG
    have inv := G_perform_inv nno nni (isN_nI (Nat.mod_lt _ (by decide)) (by decide)) eP
    exact fin_sim (op_3 hh hM hS hct nct nni nno hbl hord hPS hgo hop eP) hrt inv.2.1 inv.2.2 et eM
  · rw [hop, hw_4] at eG
    dsimp only at eG
    rw [if_pos (show (0 : Int32) = 0 from rfl)] at eG
    rcases eP : F_G_perform nu bl sg hoA b1A w1A n1A (nI ((tN ctA + 1) % 64)) tiA niA noA rqA rbA rwdA meA rgA ipA ouA v with ⟨me1, rg1, ip1, ou1, ct1, ti1, ni1, no1, rq1, rb1, rwd1, ho1, b11, w11, n11, sg1⟩
    rw [eP] at eG
    dsimp only at eG
    rcases et : F_A_tick ct1 ti1 rg1 with ⟨rg9, ct9, ti9⟩
    rw [et] at eG
    dsimp only at eG
    cases eG
    have inv := G_perform_inv nno nni (isN_nI (Nat.mod_lt _ (by decide)) (by decide)) eP
    exact fin_sim (op_4 hh hM hS hct nct nni nno hbl hord hPS hgo hop eP) hrt inv.2.1 inv.2.2 et eM
  · rw [hop, hw_5] at eG
    dsimp only at eG
    rw [if_pos (show (0 : Int32) = 0 from rfl)] at eG
    rcases eP : F_G_perform nu bl sg hoA b1A w1A n1A (nI ((tN ctA + 1) % 64)) tiA niA noA rqA rbA rwdA meA rgA ipA ouA v with ⟨me1, rg1, ip1, ou1, ct1, ti1, ni1, no1, rq1, rb1, rwd1, ho1, b11, w11, n11, sg1⟩
    rw [eP] at eG
    dsimp only at eG
    rcases et : F_A_tick ct1 ti1 rg1 with ⟨rg9, ct9, ti9⟩
    rw [et] at eG
    dsimp only at eG
    cases eG
    have inv := G_perform_inv nno nni (isN_nI (Nat.mod_lt _ (by decide)) (by decide)) eP
    exact fin_sim (op_5 hh hM hS hct nct nni nno hbl hord hPS hgo hop eP) hrt inv.2.1 inv.2.2 et eM
  · rw [hop, hw_6] at eG
    dsimp only at eG
    rw [if_pos (show (0 : Int32) = 0 from rfl)] at eG
    rcases eP : F_G_perform nu bl sg hoA b1A w1A n1A (nI ((tN ctA + 1) % 64)) tiA niA noA rqA rbA rwdA meA rgA ipA ouA v with ⟨me1, rg1, ip1, ou1, ct1, ti1, ni1, no1, rq1, rb1, rwd1, ho1, b11, w11, n11, sg1⟩
    rw [eP] at eG
    dsimp only at eG
    rcases et : F_A_tick ct1 ti1 rg1 with ⟨rg9, ct9, ti9⟩
    rw [et] at eG
    dsimp only at eG
    cases eG
    have inv := G_perform_inv nno nni (isN_nI (Nat.mod_lt _ (by decide)) (by decide)) eP
    exact fin_sim (op_6 hh hM hS hct nct nni nno hbl hord hPS hgo hop eP) hrt inv.2.1 inv.2.2 et eM
  · rw [hop, hw_7] at eG
    dsimp only at eG
    rw [if_pos (show (0 : Int32) = 0 from rfl)] at eG
    rcases eP : F_G_perform nu bl sg hoA b1A w1A n1A (nI ((tN ctA + 1) % 64)) tiA niA noA rqA rbA rwdA meA rgA ipA ouA v with ⟨me1, rg1, ip1, ou1, ct1, ti1, ni1, no1, rq1, rb1, rwd1, ho1, b11, w11, n11, sg1⟩
    rw [eP] at eG
    dsimp only at eG
    rcases et : F_A_tick ct1 ti1 rg1 with ⟨rg9, ct9, ti9⟩
    rw [et] at eG
    dsimp only at eG
    cases eG
    have inv := G_perform_inv nno nni (isN_nI (Nat.mod_lt _ (by decide)) (by decide)) eP
    exact fin_sim (op_7 hh hM hS hct nct nni nno hbl hord hPS hgo hop eP) hrt inv.2.1 inv.2.2 et eM
  · rw [hop, hw_8] at eG
    dsimp only at eG
    rw [if_pos (show (0 : Int32) = 0 from rfl)] at eG
    rcases eP : F_G_perform nu bl sg hoA b1A w1A n1A (nI ((tN ctA + 1) % 64)) tiA niA noA rqA rbA rwdA meA rgA ipA ouA v with ⟨me1, rg1, ip1, ou1, ct1, ti1, ni1, no1, rq1, rb1, rwd1, ho1, b11, w11, n11, sg1⟩
    rw [eP] at eG
    dsimp only at eG
    rcases et : F_A_tick ct1 ti1 rg1 with ⟨rg9, ct9, ti9⟩
    rw [et] at eG
    dsimp only at eG
    cases eG
    have inv := G_perform_inv nno nni (isN_nI (Nat.mod_lt _ (by decide)) (by decide)) eP
    exact fin_sim (op_8 hh hM hS hct nct nni nno hbl hord hPS hgo hop eP) hrt inv.2.1 inv.2.2 et eM
  · rw [hop, hw_9] at eG
    dsimp only at eG
    rw [if_pos (show (0 : Int32) = 0 from rfl)] at eG
    rcases eP : F_G_perform nu bl sg hoA b1A w1A n1A (nI ((tN ctA + 1) % 64)) tiA niA noA rqA rbA rwdA meA rgA ipA ouA v with ⟨me1, rg1, ip1, ou1, ct1, ti1, ni1, no1, rq1, rb1, rwd1, ho1, b11, w11, n11, sg1⟩
    rw [eP] at eG
    dsimp only at eG
    rcases et : F_A_tick ct1 ti1 rg1 with ⟨rg9, ct9, ti9⟩
    rw [et] at eG
    dsimp only at eG
    cases eG
    have inv := G_perform_inv nno nni (isN_nI (Nat.mod_lt _ (by decide)) (by decide)) eP
    exact fin_sim (op_9 hh hM hS hct nct nni nno hbl hord hPS hgo hop eP) hrt inv.2.1 inv.2.2 et eM
  · rw [hop, hw_10] at eG
    dsimp only at eG
    rw [if_pos (show (0 : Int32) = 0 from rfl)] at eG
    rcases eP : F_G_perform nu bl sg hoA b1A w1A n1A (nI ((tN ctA + 1) % 64)) tiA niA noA rqA rbA rwdA meA rgA ipA ouA v with ⟨me1, rg1, ip1, ou1, ct1, ti1, ni1, no1, rq1, rb1, rwd1, ho1, b11, w11, n11, sg1⟩
    rw [eP] at eG
    dsimp only at eG
    rcases et : F_A_tick ct1 ti1 rg1 with ⟨rg9, ct9, ti9⟩
    rw [et] at eG
    dsimp only at eG
    cases eG
    have inv := G_perform_inv nno nni (isN_nI (Nat.mod_lt _ (by decide)) (by decide)) eP
    exact fin_sim (op_10 hh hM hS hct nct nni nno hbl hord hPS hgo hop eP) hrt inv.2.1 inv.2.2 et eM
  · rw [hop, hw_11] at eG
    dsimp only at eG
    by_cases hq : rqA = true
    · rw [hq, if_neg (show ¬ bI true = 0 by decide)] at eG
      rw [fm_11 _ _ _ _ _ _ _ _ _ _ _ _ _ hop, if_pos (show ro (60 * h0 + 56) = 1 by rw [show ro (60 * h0 + 56) = bI rqA from hS.2.2.2.2.2.2.1, hq]; rfl)] at eM
      subst hq
      cases eG
      cases eM
      exact ⟨rfl, ⟨hM, hS, hct, hrt, hord, hPS⟩, FR.rf⟩
    · have hf : rqA = false := by cases rqA with | true => exact absurd rfl hq | false => rfl
      rw [show bI rqA = 0 by rw [hf]; rfl] at eG
      rw [if_pos (show (0 : Int32) = 0 from rfl)] at eG
      rcases eP : F_G_perform nu bl sg hoA b1A w1A n1A (nI ((tN ctA + 1) % 64)) tiA niA noA rqA rbA rwdA meA rgA ipA ouA v with ⟨me1, rg1, ip1, ou1, ct1, ti1, ni1, no1, rq1, rb1, rwd1, ho1, b11, w11, n11, sg1⟩
      rw [eP] at eG
      dsimp only at eG
      rcases et : F_A_tick ct1 ti1 rg1 with ⟨rg9, ct9, ti9⟩
      rw [et] at eG
      dsimp only at eG
      cases eG
      have inv := G_perform_inv nno nni (isN_nI (Nat.mod_lt _ (by decide)) (by decide)) eP
      exact fin_sim (op_11 hh hM hS hct nct nni nno hbl hord hPS hgo hq hop eP) hrt inv.2.1 inv.2.2 et eM
  · rw [hop, hw_12] at eG
    dsimp only at eG
    by_cases hq : rqA = true
    · rw [hq, if_neg (show ¬ bI true = 0 by decide)] at eG
      rw [fm_12 _ _ _ _ _ _ _ _ _ _ _ _ _ hop, if_pos (show ro (60 * h0 + 56) = 1 by rw [show ro (60 * h0 + 56) = bI rqA from hS.2.2.2.2.2.2.1, hq]; rfl)] at eM
      subst hq
      cases eG
      cases eM
      exact ⟨rfl, ⟨hM, hS, hct, hrt, hord, hPS⟩, FR.rf⟩
    · have hf : rqA = false := by cases rqA with | true => exact absurd rfl hq | false => rfl
      rw [show bI rqA = 0 by rw [hf]; rfl] at eG
      rw [if_pos (show (0 : Int32) = 0 from rfl)] at eG
      rcases eP : F_G_perform nu bl sg hoA b1A w1A n1A (nI ((tN ctA + 1) % 64)) tiA niA noA rqA rbA rwdA meA rgA ipA ouA v with ⟨me1, rg1, ip1, ou1, ct1, ti1, ni1, no1, rq1, rb1, rwd1, ho1, b11, w11, n11, sg1⟩
      rw [eP] at eG
      dsimp only at eG
      rcases et : F_A_tick ct1 ti1 rg1 with ⟨rg9, ct9, ti9⟩
      rw [et] at eG
      dsimp only at eG
      cases eG
      have inv := G_perform_inv nno nni (isN_nI (Nat.mod_lt _ (by decide)) (by decide)) eP
      exact fin_sim (op_12 hh hM hS hct nct nni nno hbl hord hPS hgo hq hop eP) hrt inv.2.1 inv.2.2 et eM
  · rw [hop, hw_13] at eG
    dsimp only at eG
    rw [if_pos (show (0 : Int32) = 0 from rfl)] at eG
    rcases eP : F_G_perform nu bl sg hoA b1A w1A n1A (nI ((tN ctA + 1) % 64)) tiA niA noA rqA rbA rwdA meA rgA ipA ouA v with ⟨me1, rg1, ip1, ou1, ct1, ti1, ni1, no1, rq1, rb1, rwd1, ho1, b11, w11, n11, sg1⟩
    rw [eP] at eG
    dsimp only at eG
    rcases et : F_A_tick ct1 ti1 rg1 with ⟨rg9, ct9, ti9⟩
    rw [et] at eG
    dsimp only at eG
    cases eG
    have inv := G_perform_inv nno nni (isN_nI (Nat.mod_lt _ (by decide)) (by decide)) eP
    exact fin_sim (op_13 hh hM hS hct nct nni nno hbl hord hPS hgo hop eP) hrt inv.2.1 inv.2.2 et eM
  · rw [hop, hw_14] at eG
    dsimp only at eG
    rw [if_neg (show ¬ (1 : Int32) = 0 by decide)] at eG
    rw [fm_14 _ _ _ _ _ _ _ _ _ _ _ _ _ hop] at eM
    cases eG
    cases eM
    exact ⟨rfl, ⟨hM, hS, hct, hrt, hord, hPS⟩, FR.rf⟩
  · rw [hop, hw_15] at eG
    dsimp only at eG
    rw [if_neg (show ¬ (1 : Int32) = 0 by decide)] at eG
    rw [fm_15 _ _ _ _ _ _ _ _ _ _ _ _ _ hop] at eM
    cases eG
    cases eM
    exact ⟨rfl, ⟨hM, hS, hct, hrt, hord, hPS⟩, FR.rf⟩
set_option maxHeartbeats 8000000 in
set_option maxRecDepth 100000 in
theorem run_sim {h0 : Nat} {go : Bool} {so nu : Int32} {di bl sr : Nat → Int32} (hh : h0 < 2) (hbl : bl = di) (hgo : go = true → so = nI h0) : ∀ (f dn : Nat) (meA : Nat → Int32) (rgA : Nat → Int32) (ipA : Nat → Int32) (ouA : Nat → Int32) (ctA : Int32) (tiA : Int32) (niA : Int32) (noA : Int32) (rqA : Bool) (rbA : Int32) (rwdA : Int32) (hoA : Bool) (b1A : Int32) (w1A : Int32) (n1A : Int32) (sg : Nat → Int32) (rtA : Int32) (meA2 : Nat → Int32) (rgA2 : Nat → Int32) (ipA2 : Nat → Int32) (ouA2 : Nat → Int32) (ctA2 : Int32) (tiA2 : Int32) (niA2 : Int32) (noA2 : Int32) (rqA2 : Bool) (rbA2 : Int32) (rwdA2 : Int32) (hoA2 : Bool) (b1A2 : Int32) (w1A2 : Int32) (n1A2 : Int32) (sg2 : Nat → Int32) (rtA2 : Int32) (me : Nat → Int32) (ro : Nat → Int32) (pg : Nat → Int32) (os : Nat → Bool) (ob : Nat → Int32) (od : Nat → Int32) (on : Nat → Int32) (me2 : Nat → Int32) (ro2 : Nat → Int32) (pg2 : Nat → Int32) (os2 : Nat → Bool) (ob2 : Nat → Int32) (od2 : Nat → Int32) (on2 : Nat → Int32) (r r2 : Int32), RV h0 go sr meA rgA ipA ouA ctA tiA niA noA rqA rbA rwdA hoA b1A w1A n1A sg rtA me ro pg os ob od on → isN ctA 64 → isN niA 9 → isN noA 41 → runG nu bl f dn meA rgA ipA ouA ctA tiA niA noA rqA rbA rwdA hoA b1A w1A n1A sg rtA = (r, meA2, rgA2, ipA2, ouA2, ctA2, tiA2, niA2, noA2, rqA2, rbA2, rwdA2, hoA2, b1A2, w1A2, n1A2, sg2, rtA2) → runF di nu go so h0 f dn me ro pg os ob od on = (r2, me2, ro2, pg2, os2, ob2, od2, on2) →
    r = r2 ∧ RV h0 go sr meA2 rgA2 ipA2 ouA2 ctA2 tiA2 niA2 noA2 rqA2 rbA2 rwdA2 hoA2 b1A2 w1A2 n1A2 sg2 rtA2 me2 ro2 pg2 os2 ob2 od2 on2 ∧ FR h0 me ro os ob od on me2 ro2 os2 ob2 od2 on2 ∧ isN ctA2 64 ∧ isN niA2 9 ∧ isN noA2 41
  | 0, dn, meA, rgA, ipA, ouA, ctA, tiA, niA, noA, rqA, rbA, rwdA, hoA, b1A, w1A, n1A, sg, rtA, meA2, rgA2, ipA2, ouA2, ctA2, tiA2, niA2, noA2, rqA2, rbA2, rwdA2, hoA2, b1A2, w1A2, n1A2, sg2, rtA2, me, ro, pg, os, ob, od, on, me2, ro2, pg2, os2, ob2, od2, on2, r, r2, hV, nct, nni, nno, eG, eM => by
    rw [runG] at eG
    rw [runF] at eM
    cases eG
    cases eM
    exact ⟨rfl, hV, FR.rf, nct, nni, nno⟩
  | f + 1, dn, meA, rgA, ipA, ouA, ctA, tiA, niA, noA, rqA, rbA, rwdA, hoA, b1A, w1A, n1A, sg, rtA, meA2, rgA2, ipA2, ouA2, ctA2, tiA2, niA2, noA2, rqA2, rbA2, rwdA2, hoA2, b1A2, w1A2, n1A2, sg2, rtA2, me, ro, pg, os, ob, od, on, me2, ro2, pg2, os2, ob2, od2, on2, r, r2, hV, nct, nni, nno, eG, eM => by
    rw [runG] at eG
    rw [runF] at eM
    have hv : meA (tN ctA) = me (64 * h0 + tN (ro (60 * h0 + 4))) := by rw [← hV.2.2.1]; exact hV.1 _ nct.2
    rw [← hv] at eM
    rcases h1 : F_G_retireNext nu bl sg hoA b1A w1A n1A ctA tiA niA noA rtA rqA rbA rwdA meA rgA ipA ouA (meA (tN ctA)) with ⟨s1, meA3, rgA3, ipA3, ouA3, ctA3, tiA3, niA3, noA3, rqA3, rbA3, rwdA3, hoA3, b1A3, w1A3, n1A3, sg3, rtA3⟩
    rcases h2 : F_M_instruct me ro di os ob od on pg nu go so h0 (meA (tN ctA)) with ⟨s2, me3, ro3, pg3, os3, ob3, od3, on3⟩
    obtain ⟨rfl, hV3, hF3⟩ := ins_sim hh hV nct nni nno hbl hgo h1 h2
    have inv := G_retireNext_inv nno nni nct h1
    rw [h1] at eG
    rw [h2] at eM
    dsimp only at eG eM
    by_cases h0 : s1 = 0
    · rw [if_pos h0] at eG eM
      cases eG
      cases eM
      exact ⟨rfl, hV3, hF3, inv.1, inv.2.1, inv.2.2⟩
    · rw [if_neg h0] at eG eM
      obtain ⟨a1, a2, a3, a4⟩ := run_sim hh hbl hgo f (dn + 1) _ _ _ _ _ _ _ _ _ _ _ _ _ _ _ _ _ _ _ _ _ _ _ _ _ _ _ _ _ _ _ _ _ _ _ _ _ _ _ _ _ _ _ _ _ _ _ _ r r2 hV3 inv.1 inv.2.1 inv.2.2 eG eM
      exact ⟨a1, a2, hF3.tr a3, a4⟩
