theorem fc_1 (ct : Int32) (ti : Int32) (ni : Int32) (no : Int32) (me : Nat → Int32) (rg : Nat → Int32) (ip : Nat → Int32) (ou : Nat → Int32) (v : Int32) (hop : lo 4 v = 1) : F_A_compute ct ti ni no me rg ip ou v =
    (upd rg (lo 2 (v >>> (4 &&& 31))) (v >>> (16 &&& 31)), ip, ou, ct, ti, ni, no) := by
  unfold F_A_compute
  rw [hop]
  rw [if_pos (show (nI 1 : Int32) = 1 by decide)]
theorem fc_2 (ct : Int32) (ti : Int32) (ni : Int32) (no : Int32) (me : Nat → Int32) (rg : Nat → Int32) (ip : Nat → Int32) (ou : Nat → Int32) (v : Int32) (hop : lo 4 v = 2) : F_A_compute ct ti ni no me rg ip ou v =
    (upd rg (lo 2 (v >>> (4 &&& 31))) ((rg (lo 2 (v >>> (4 &&& 31)))) + (rg (lo 2 (v >>> (6 &&& 31))))), ip, ou, ct, ti, ni, no) := by
  unfold F_A_compute
  rw [hop]
  rw [if_neg (show ¬ (nI 2 : Int32) = 1 by decide)]
  rw [if_pos (show (nI 2 : Int32) = 2 by decide)]
theorem fc_3 (ct : Int32) (ti : Int32) (ni : Int32) (no : Int32) (me : Nat → Int32) (rg : Nat → Int32) (ip : Nat → Int32) (ou : Nat → Int32) (v : Int32) (hop : lo 4 v = 3) : F_A_compute ct ti ni no me rg ip ou v =
    (upd rg (lo 2 (v >>> (4 &&& 31))) ((rg (lo 2 (v >>> (4 &&& 31)))) - (rg (lo 2 (v >>> (6 &&& 31))))), ip, ou, ct, ti, ni, no) := by
  unfold F_A_compute
  rw [hop]
  rw [if_neg (show ¬ (nI 3 : Int32) = 1 by decide)]
  rw [if_neg (show ¬ (nI 3 : Int32) = 2 by decide)]
  rw [if_pos (show (nI 3 : Int32) = 3 by decide)]
theorem fc_4 (ct : Int32) (ti : Int32) (ni : Int32) (no : Int32) (me : Nat → Int32) (rg : Nat → Int32) (ip : Nat → Int32) (ou : Nat → Int32) (v : Int32) (hop : lo 4 v = 4) : F_A_compute ct ti ni no me rg ip ou v =
    (upd rg (lo 2 (v >>> (4 &&& 31))) ((rg (lo 2 (v >>> (4 &&& 31)))) * (rg (lo 2 (v >>> (6 &&& 31))))), ip, ou, ct, ti, ni, no) := by
  unfold F_A_compute
  rw [hop]
  rw [if_neg (show ¬ (nI 4 : Int32) = 1 by decide)]
  rw [if_neg (show ¬ (nI 4 : Int32) = 2 by decide)]
  rw [if_neg (show ¬ (nI 4 : Int32) = 3 by decide)]
  rw [if_pos (show (nI 4 : Int32) = 4 by decide)]
theorem fc_5 (ct : Int32) (ti : Int32) (ni : Int32) (no : Int32) (me : Nat → Int32) (rg : Nat → Int32) (ip : Nat → Int32) (ou : Nat → Int32) (v : Int32) (hop : lo 4 v = 5) : F_A_compute ct ti ni no me rg ip ou v =
    (upd rg (lo 2 (v >>> (4 &&& 31))) (me (lo 6 ((rg (lo 2 (v >>> (6 &&& 31)))) + (nI (lo 6 (v >>> (8 &&& 31))))))), ip, ou, ct, ti, ni, no) := by
  unfold F_A_compute
  rw [hop]
  rw [if_neg (show ¬ (nI 5 : Int32) = 1 by decide)]
  rw [if_neg (show ¬ (nI 5 : Int32) = 2 by decide)]
  rw [if_neg (show ¬ (nI 5 : Int32) = 3 by decide)]
  rw [if_neg (show ¬ (nI 5 : Int32) = 4 by decide)]
  rw [if_pos (show (nI 5 : Int32) = 5 by decide)]
theorem fc_7 (ct : Int32) (ti : Int32) (ni : Int32) (no : Int32) (me : Nat → Int32) (rg : Nat → Int32) (ip : Nat → Int32) (ou : Nat → Int32) (v : Int32) (hop : lo 4 v = 7) : F_A_compute ct ti ni no me rg ip ou v =
    (rg, ip, ou, nI (lo 6 (v >>> (8 &&& 31))), ti, ni, no) := by
  unfold F_A_compute
  rw [hop]
  rw [if_neg (show ¬ (nI 7 : Int32) = 1 by decide)]
  rw [if_neg (show ¬ (nI 7 : Int32) = 2 by decide)]
  rw [if_neg (show ¬ (nI 7 : Int32) = 3 by decide)]
  rw [if_neg (show ¬ (nI 7 : Int32) = 4 by decide)]
  rw [if_neg (show ¬ (nI 7 : Int32) = 5 by decide)]
  rw [if_neg (show ¬ (nI 7 : Int32) = 6 by decide)]
  rw [if_pos (show (nI 7 : Int32) = 7 by decide)]
theorem fc_8 (ct : Int32) (ti : Int32) (ni : Int32) (no : Int32) (me : Nat → Int32) (rg : Nat → Int32) (ip : Nat → Int32) (ou : Nat → Int32) (v : Int32) (hop : lo 4 v = 8) : F_A_compute ct ti ni no me rg ip ou v =
    if (rg (lo 2 (v >>> (4 &&& 31)))) = 0 then
      (rg, ip, ou, nI (lo 6 (v >>> (8 &&& 31))), ti, ni, no)
    else
      (rg, ip, ou, ct, ti, ni, no) := by
  unfold F_A_compute
  rw [hop]
  rw [if_neg (show ¬ (nI 8 : Int32) = 1 by decide)]
  rw [if_neg (show ¬ (nI 8 : Int32) = 2 by decide)]
  rw [if_neg (show ¬ (nI 8 : Int32) = 3 by decide)]
  rw [if_neg (show ¬ (nI 8 : Int32) = 4 by decide)]
  rw [if_neg (show ¬ (nI 8 : Int32) = 5 by decide)]
  rw [if_neg (show ¬ (nI 8 : Int32) = 6 by decide)]
  rw [if_neg (show ¬ (nI 8 : Int32) = 7 by decide)]
  rw [if_pos (show (nI 8 : Int32) = 8 by decide)]
theorem fc_9 (ct : Int32) (ti : Int32) (ni : Int32) (no : Int32) (me : Nat → Int32) (rg : Nat → Int32) (ip : Nat → Int32) (ou : Nat → Int32) (v : Int32) (hop : lo 4 v = 9) : F_A_compute ct ti ni no me rg ip ou v =
    match F_A_write no ou (rg (lo 2 (v >>> (4 &&& 31)))) with
    | (ouv21, nov22) =>
      (rg, ip, ouv21, ct, ti, ni, nov22) := by
  unfold F_A_compute
  rw [hop]
  rw [if_neg (show ¬ (nI 9 : Int32) = 1 by decide)]
  rw [if_neg (show ¬ (nI 9 : Int32) = 2 by decide)]
  rw [if_neg (show ¬ (nI 9 : Int32) = 3 by decide)]
  rw [if_neg (show ¬ (nI 9 : Int32) = 4 by decide)]
  rw [if_neg (show ¬ (nI 9 : Int32) = 5 by decide)]
  rw [if_neg (show ¬ (nI 9 : Int32) = 6 by decide)]
  rw [if_neg (show ¬ (nI 9 : Int32) = 7 by decide)]
  rw [if_neg (show ¬ (nI 9 : Int32) = 8 by decide)]
  rw [if_pos (show (nI 9 : Int32) = 9 by decide)]
theorem fc_10 (ct : Int32) (ti : Int32) (ni : Int32) (no : Int32) (me : Nat → Int32) (rg : Nat → Int32) (ip : Nat → Int32) (ou : Nat → Int32) (v : Int32) (hop : lo 4 v = 10) : F_A_compute ct ti ni no me rg ip ou v =
    match F_A_readOldest ni ip with
    | (r26, ipv27, niv28) =>
      (upd rg (lo 2 (v >>> (4 &&& 31))) r26, ipv27, ou, ct, ti, niv28, no) := by
  unfold F_A_compute
  rw [hop]
  rw [if_neg (show ¬ (nI 10 : Int32) = 1 by decide)]
  rw [if_neg (show ¬ (nI 10 : Int32) = 2 by decide)]
  rw [if_neg (show ¬ (nI 10 : Int32) = 3 by decide)]
  rw [if_neg (show ¬ (nI 10 : Int32) = 4 by decide)]
  rw [if_neg (show ¬ (nI 10 : Int32) = 5 by decide)]
  rw [if_neg (show ¬ (nI 10 : Int32) = 6 by decide)]
  rw [if_neg (show ¬ (nI 10 : Int32) = 7 by decide)]
  rw [if_neg (show ¬ (nI 10 : Int32) = 8 by decide)]
  rw [if_neg (show ¬ (nI 10 : Int32) = 9 by decide)]
  rw [if_pos (show (nI 10 : Int32) = 10 by decide)]
theorem fc_13 (ct : Int32) (ti : Int32) (ni : Int32) (no : Int32) (me : Nat → Int32) (rg : Nat → Int32) (ip : Nat → Int32) (ou : Nat → Int32) (v : Int32) (hop : lo 4 v = 13) : F_A_compute ct ti ni no me rg ip ou v =
    (rg, ip, ou, ct, nI (lo 8 (rg (lo 2 (v >>> (4 &&& 31)))) + 1), ni, no) := by
  unfold F_A_compute
  rw [hop]
  rw [if_neg (show ¬ (nI 13 : Int32) = 1 by decide)]
  rw [if_neg (show ¬ (nI 13 : Int32) = 2 by decide)]
  rw [if_neg (show ¬ (nI 13 : Int32) = 3 by decide)]
  rw [if_neg (show ¬ (nI 13 : Int32) = 4 by decide)]
  rw [if_neg (show ¬ (nI 13 : Int32) = 5 by decide)]
  rw [if_neg (show ¬ (nI 13 : Int32) = 6 by decide)]
  rw [if_neg (show ¬ (nI 13 : Int32) = 7 by decide)]
  rw [if_neg (show ¬ (nI 13 : Int32) = 8 by decide)]
  rw [if_neg (show ¬ (nI 13 : Int32) = 9 by decide)]
  rw [if_neg (show ¬ (nI 13 : Int32) = 10 by decide)]
  rw [if_neg (show ¬ (nI 13 : Int32) = 11 by decide)]
  rw [if_neg (show ¬ (nI 13 : Int32) = 12 by decide)]
  rw [if_pos (show (nI 13 : Int32) = 13 by decide)]
theorem hw_0 (rq : Bool) : F_A_haltsOrWaits rq (nI 0) = (1, ()) := by cases rq <;> rfl
set_option maxHeartbeats 4000000 in
set_option maxRecDepth 100000 in
theorem fm_0 (me : Nat → Int32) (ro : Nat → Int32) (di : Nat → Int32) (os : Nat → Bool) (ob : Nat → Int32) (od : Nat → Int32) (on : Nat → Int32) (pg : Nat → Int32) (nu : Int32) (go : Bool) (so : Int32) (h0 : Nat) (v : Int32) (hop : lo 4 v = 0) : F_M_instruct me ro di os ob od on pg nu go so h0 v = (
    (0, (me, ro, pg, os, ob, od, on)) : Int32 × (Nat → Int32) × (Nat → Int32) × (Nat → Int32) × (Nat → Bool) × (Nat → Int32) × (Nat → Int32) × (Nat → Int32)) := by
  unfold F_M_instruct
  rw [hop]
  rw [if_pos (show (nI 0 : Int32) = 0 by decide)]
theorem hw_1 (rq : Bool) : F_A_haltsOrWaits rq (nI 1) = (0, ()) := by cases rq <;> rfl
set_option maxHeartbeats 4000000 in
set_option maxRecDepth 100000 in
theorem fm_1 (me : Nat → Int32) (ro : Nat → Int32) (di : Nat → Int32) (os : Nat → Bool) (ob : Nat → Int32) (od : Nat → Int32) (on : Nat → Int32) (pg : Nat → Int32) (nu : Int32) (go : Bool) (so : Int32) (h0 : Nat) (v : Int32) (hop : lo 4 v = 1) : F_M_instruct me ro di os ob od on pg nu go so h0 v = (
    let rov158 := F_M_tick (upd (upd (upd ro (60 * h0 + (lo 2 (v >>> (4 &&& 31)))) (v >>> (16 &&& 31))) (60 * h0 + 59) (((upd ro (60 * h0 + (lo 2 (v >>> (4 &&& 31)))) (v >>> (16 &&& 31))) (60 * h0 + 59)) + 1)) (60 * h0 + 4) (nI (lo 6 (((upd (upd ro (60 * h0 + (lo 2 (v >>> (4 &&& 31)))) (v >>> (16 &&& 31))) (60 * h0 + 59) (((upd ro (60 * h0 + (lo 2 (v >>> (4 &&& 31)))) (v >>> (16 &&& 31))) (60 * h0 + 59)) + 1)) (60 * h0 + 4)) + 1)))) (60 * h0)
    (1, (me, rov158, pg, os, ob, od, on)) : Int32 × (Nat → Int32) × (Nat → Int32) × (Nat → Int32) × (Nat → Bool) × (Nat → Int32) × (Nat → Int32) × (Nat → Int32)) := by
  unfold F_M_instruct
  rw [hop]
  rw [if_neg (show ¬ (nI 1 : Int32) = 0 by decide)]
  rw [if_neg (show ¬ 13 < (nI 1 : Int32) by decide)]
  rw [if_neg (show ¬ (nI 1 : Int32) = 11 by decide)]
  rw [if_neg (show ¬ (nI 1 : Int32) = 12 by decide)]
  rw [if_neg (show ¬ (nI 1 : Int32) = 7 by decide)]
  rw [if_neg (show ¬ (nI 1 : Int32) = 8 by decide)]
  rw [if_pos (show (nI 1 : Int32) = 1 by decide)]
theorem hw_2 (rq : Bool) : F_A_haltsOrWaits rq (nI 2) = (0, ()) := by cases rq <;> rfl
set_option maxHeartbeats 4000000 in
set_option maxRecDepth 100000 in
theorem fm_2 (me : Nat → Int32) (ro : Nat → Int32) (di : Nat → Int32) (os : Nat → Bool) (ob : Nat → Int32) (od : Nat → Int32) (on : Nat → Int32) (pg : Nat → Int32) (nu : Int32) (go : Bool) (so : Int32) (h0 : Nat) (v : Int32) (hop : lo 4 v = 2) : F_M_instruct me ro di os ob od on pg nu go so h0 v = (
    let rov145 := F_M_tick (upd (upd (upd ro (60 * h0 + (lo 2 (v >>> (4 &&& 31)))) ((ro (60 * h0 + (lo 2 (v >>> (4 &&& 31))))) + (ro (60 * h0 + (lo 2 (v >>> (6 &&& 31))))))) (60 * h0 + 59) (((upd ro (60 * h0 + (lo 2 (v >>> (4 &&& 31)))) ((ro (60 * h0 + (lo 2 (v >>> (4 &&& 31))))) + (ro (60 * h0 + (lo 2 (v >>> (6 &&& 31))))))) (60 * h0 + 59)) + 1)) (60 * h0 + 4) (nI (lo 6 (((upd (upd ro (60 * h0 + (lo 2 (v >>> (4 &&& 31)))) ((ro (60 * h0 + (lo 2 (v >>> (4 &&& 31))))) + (ro (60 * h0 + (lo 2 (v >>> (6 &&& 31))))))) (60 * h0 + 59) (((upd ro (60 * h0 + (lo 2 (v >>> (4 &&& 31)))) ((ro (60 * h0 + (lo 2 (v >>> (4 &&& 31))))) + (ro (60 * h0 + (lo 2 (v >>> (6 &&& 31))))))) (60 * h0 + 59)) + 1)) (60 * h0 + 4)) + 1)))) (60 * h0)
    (1, (me, rov145, pg, os, ob, od, on)) : Int32 × (Nat → Int32) × (Nat → Int32) × (Nat → Int32) × (Nat → Bool) × (Nat → Int32) × (Nat → Int32) × (Nat → Int32)) := by
  unfold F_M_instruct
  rw [hop]
  rw [if_neg (show ¬ (nI 2 : Int32) = 0 by decide)]
  rw [if_neg (show ¬ 13 < (nI 2 : Int32) by decide)]
  rw [if_neg (show ¬ (nI 2 : Int32) = 11 by decide)]
  rw [if_neg (show ¬ (nI 2 : Int32) = 12 by decide)]
  rw [if_neg (show ¬ (nI 2 : Int32) = 7 by decide)]
  rw [if_neg (show ¬ (nI 2 : Int32) = 8 by decide)]
  rw [if_neg (show ¬ (nI 2 : Int32) = 1 by decide)]
  rw [if_pos (show (nI 2 : Int32) = 2 by decide)]
theorem hw_3 (rq : Bool) : F_A_haltsOrWaits rq (nI 3) = (0, ()) := by cases rq <;> rfl
set_option maxHeartbeats 4000000 in
set_option maxRecDepth 100000 in
theorem fm_3 (me : Nat → Int32) (ro : Nat → Int32) (di : Nat → Int32) (os : Nat → Bool) (ob : Nat → Int32) (od : Nat → Int32) (on : Nat → Int32) (pg : Nat → Int32) (nu : Int32) (go : Bool) (so : Int32) (h0 : Nat) (v : Int32) (hop : lo 4 v = 3) : F_M_instruct me ro di os ob od on pg nu go so h0 v = (
    let rov133 := F_M_tick (upd (upd (upd ro (60 * h0 + (lo 2 (v >>> (4 &&& 31)))) ((ro (60 * h0 + (lo 2 (v >>> (4 &&& 31))))) - (ro (60 * h0 + (lo 2 (v >>> (6 &&& 31))))))) (60 * h0 + 59) (((upd ro (60 * h0 + (lo 2 (v >>> (4 &&& 31)))) ((ro (60 * h0 + (lo 2 (v >>> (4 &&& 31))))) - (ro (60 * h0 + (lo 2 (v >>> (6 &&& 31))))))) (60 * h0 + 59)) + 1)) (60 * h0 + 4) (nI (lo 6 (((upd (upd ro (60 * h0 + (lo 2 (v >>> (4 &&& 31)))) ((ro (60 * h0 + (lo 2 (v >>> (4 &&& 31))))) - (ro (60 * h0 + (lo 2 (v >>> (6 &&& 31))))))) (60 * h0 + 59) (((upd ro (60 * h0 + (lo 2 (v >>> (4 &&& 31)))) ((ro (60 * h0 + (lo 2 (v >>> (4 &&& 31))))) - (ro (60 * h0 + (lo 2 (v >>> (6 &&& 31))))))) (60 * h0 + 59)) + 1)) (60 * h0 + 4)) + 1)))) (60 * h0)
    (1, (me, rov133, pg, os, ob, od, on)) : Int32 × (Nat → Int32) × (Nat → Int32) × (Nat → Int32) × (Nat → Bool) × (Nat → Int32) × (Nat → Int32) × (Nat → Int32)) := by
  unfold F_M_instruct
  rw [hop]
  rw [if_neg (show ¬ (nI 3 : Int32) = 0 by decide)]
  rw [if_neg (show ¬ 13 < (nI 3 : Int32) by decide)]
  rw [if_neg (show ¬ (nI 3 : Int32) = 11 by decide)]
  rw [if_neg (show ¬ (nI 3 : Int32) = 12 by decide)]
  rw [if_neg (show ¬ (nI 3 : Int32) = 7 by decide)]
  rw [if_neg (show ¬ (nI 3 : Int32) = 8 by decide)]
  rw [if_neg (show ¬ (nI 3 : Int32) = 1 by decide)]
  rw [if_neg (show ¬ (nI 3 : Int32) = 2 by decide)]
  rw [if_pos (show (nI 3 : Int32) = 3 by decide)]
theorem hw_4 (rq : Bool) : F_A_haltsOrWaits rq (nI 4) = (0, ()) := by cases rq <;> rfl
set_option maxHeartbeats 4000000 in
set_option maxRecDepth 100000 in
theorem fm_4 (me : Nat → Int32) (ro : Nat → Int32) (di : Nat → Int32) (os : Nat → Bool) (ob : Nat → Int32) (od : Nat → Int32) (on : Nat → Int32) (pg : Nat → Int32) (nu : Int32) (go : Bool) (so : Int32) (h0 : Nat) (v : Int32) (hop : lo 4 v = 4) : F_M_instruct me ro di os ob od on pg nu go so h0 v = (
    let rov122 := F_M_tick (upd (upd (upd ro (60 * h0 + (lo 2 (v >>> (4 &&& 31)))) ((ro (60 * h0 + (lo 2 (v >>> (4 &&& 31))))) * (ro (60 * h0 + (lo 2 (v >>> (6 &&& 31))))))) (60 * h0 + 59) (((upd ro (60 * h0 + (lo 2 (v >>> (4 &&& 31)))) ((ro (60 * h0 + (lo 2 (v >>> (4 &&& 31))))) * (ro (60 * h0 + (lo 2 (v >>> (6 &&& 31))))))) (60 * h0 + 59)) + 1)) (60 * h0 + 4) (nI (lo 6 (((upd (upd ro (60 * h0 + (lo 2 (v >>> (4 &&& 31)))) ((ro (60 * h0 + (lo 2 (v >>> (4 &&& 31))))) * (ro (60 * h0 + (lo 2 (v >>> (6 &&& 31))))))) (60 * h0 + 59) (((upd ro (60 * h0 + (lo 2 (v >>> (4 &&& 31)))) ((ro (60 * h0 + (lo 2 (v >>> (4 &&& 31))))) * (ro (60 * h0 + (lo 2 (v >>> (6 &&& 31))))))) (60 * h0 + 59)) + 1)) (60 * h0 + 4)) + 1)))) (60 * h0)
    (1, (me, rov122, pg, os, ob, od, on)) : Int32 × (Nat → Int32) × (Nat → Int32) × (Nat → Int32) × (Nat → Bool) × (Nat → Int32) × (Nat → Int32) × (Nat → Int32)) := by
  unfold F_M_instruct
  rw [hop]
  rw [if_neg (show ¬ (nI 4 : Int32) = 0 by decide)]
  rw [if_neg (show ¬ 13 < (nI 4 : Int32) by decide)]
  rw [if_neg (show ¬ (nI 4 : Int32) = 11 by decide)]
  rw [if_neg (show ¬ (nI 4 : Int32) = 12 by decide)]
  rw [if_neg (show ¬ (nI 4 : Int32) = 7 by decide)]
  rw [if_neg (show ¬ (nI 4 : Int32) = 8 by decide)]
  rw [if_neg (show ¬ (nI 4 : Int32) = 1 by decide)]
  rw [if_neg (show ¬ (nI 4 : Int32) = 2 by decide)]
  rw [if_neg (show ¬ (nI 4 : Int32) = 3 by decide)]
  rw [if_pos (show (nI 4 : Int32) = 4 by decide)]
theorem hw_5 (rq : Bool) : F_A_haltsOrWaits rq (nI 5) = (0, ()) := by cases rq <;> rfl
set_option maxHeartbeats 4000000 in
set_option maxRecDepth 100000 in
theorem fm_5 (me : Nat → Int32) (ro : Nat → Int32) (di : Nat → Int32) (os : Nat → Bool) (ob : Nat → Int32) (od : Nat → Int32) (on : Nat → Int32) (pg : Nat → Int32) (nu : Int32) (go : Bool) (so : Int32) (h0 : Nat) (v : Int32) (hop : lo 4 v = 5) : F_M_instruct me ro di os ob od on pg nu go so h0 v = (
    let rov112 := F_M_tick (upd (upd (upd ro (60 * h0 + (lo 2 (v >>> (4 &&& 31)))) (me (64 * h0 + (lo 6 ((ro (60 * h0 + (lo 2 (v >>> (6 &&& 31))))) + (nI (lo 6 (v >>> (8 &&& 31))))))))) (60 * h0 + 59) (((upd ro (60 * h0 + (lo 2 (v >>> (4 &&& 31)))) (me (64 * h0 + (lo 6 ((ro (60 * h0 + (lo 2 (v >>> (6 &&& 31))))) + (nI (lo 6 (v >>> (8 &&& 31))))))))) (60 * h0 + 59)) + 1)) (60 * h0 + 4) (nI (lo 6 (((upd (upd ro (60 * h0 + (lo 2 (v >>> (4 &&& 31)))) (me (64 * h0 + (lo 6 ((ro (60 * h0 + (lo 2 (v >>> (6 &&& 31))))) + (nI (lo 6 (v >>> (8 &&& 31))))))))) (60 * h0 + 59) (((upd ro (60 * h0 + (lo 2 (v >>> (4 &&& 31)))) (me (64 * h0 + (lo 6 ((ro (60 * h0 + (lo 2 (v >>> (6 &&& 31))))) + (nI (lo 6 (v >>> (8 &&& 31))))))))) (60 * h0 + 59)) + 1)) (60 * h0 + 4)) + 1)))) (60 * h0)
    (1, (me, rov112, pg, os, ob, od, on)) : Int32 × (Nat → Int32) × (Nat → Int32) × (Nat → Int32) × (Nat → Bool) × (Nat → Int32) × (Nat → Int32) × (Nat → Int32)) := by
  unfold F_M_instruct
  rw [hop]
  rw [if_neg (show ¬ (nI 5 : Int32) = 0 by decide)]
  rw [if_neg (show ¬ 13 < (nI 5 : Int32) by decide)]
  rw [if_neg (show ¬ (nI 5 : Int32) = 11 by decide)]
  rw [if_neg (show ¬ (nI 5 : Int32) = 12 by decide)]
  rw [if_neg (show ¬ (nI 5 : Int32) = 7 by decide)]
  rw [if_neg (show ¬ (nI 5 : Int32) = 8 by decide)]
  rw [if_neg (show ¬ (nI 5 : Int32) = 1 by decide)]
  rw [if_neg (show ¬ (nI 5 : Int32) = 2 by decide)]
  rw [if_neg (show ¬ (nI 5 : Int32) = 3 by decide)]
  rw [if_neg (show ¬ (nI 5 : Int32) = 4 by decide)]
  rw [if_pos (show (nI 5 : Int32) = 5 by decide)]
theorem hw_6 (rq : Bool) : F_A_haltsOrWaits rq (nI 6) = (0, ()) := by cases rq <;> rfl
set_option maxHeartbeats 4000000 in
set_option maxRecDepth 100000 in
theorem fm_6 (me : Nat → Int32) (ro : Nat → Int32) (di : Nat → Int32) (os : Nat → Bool) (ob : Nat → Int32) (od : Nat → Int32) (on : Nat → Int32) (pg : Nat → Int32) (nu : Int32) (go : Bool) (so : Int32) (h0 : Nat) (v : Int32) (hop : lo 4 v = 6) : F_M_instruct me ro di os ob od on pg nu go so h0 v = (
    match F_M_written me pg go so h0 (lo 6 ((ro (60 * h0 + (lo 2 (v >>> (6 &&& 31))))) + (nI (lo 6 (v >>> (8 &&& 31)))))) (ro (60 * h0 + (lo 2 (v >>> (4 &&& 31))))) with
    | (mev92, pgv93) =>
      let rov102 := F_M_tick (upd (upd ro (60 * h0 + 59) ((ro (60 * h0 + 59)) + 1)) (60 * h0 + 4) (nI (lo 6 (((upd ro (60 * h0 + 59) ((ro (60 * h0 + 59)) + 1)) (60 * h0 + 4)) + 1)))) (60 * h0)
      (1, (mev92, rov102, pgv93, os, ob, od, on)) : Int32 × (Nat → Int32) × (Nat → Int32) × (Nat → Int32) × (Nat → Bool) × (Nat → Int32) × (Nat → Int32) × (Nat → Int32)) := by
  unfold F_M_instruct
  rw [hop]
  rw [if_neg (show ¬ (nI 6 : Int32) = 0 by decide)]
  rw [if_neg (show ¬ 13 < (nI 6 : Int32) by decide)]
  rw [if_neg (show ¬ (nI 6 : Int32) = 11 by decide)]
  rw [if_neg (show ¬ (nI 6 : Int32) = 12 by decide)]
  rw [if_neg (show ¬ (nI 6 : Int32) = 7 by decide)]
  rw [if_neg (show ¬ (nI 6 : Int32) = 8 by decide)]
  rw [if_neg (show ¬ (nI 6 : Int32) = 1 by decide)]
  rw [if_neg (show ¬ (nI 6 : Int32) = 2 by decide)]
  rw [if_neg (show ¬ (nI 6 : Int32) = 3 by decide)]
  rw [if_neg (show ¬ (nI 6 : Int32) = 4 by decide)]
  rw [if_neg (show ¬ (nI 6 : Int32) = 5 by decide)]
  rw [if_pos (show (nI 6 : Int32) = 6 by decide)]
theorem hw_7 (rq : Bool) : F_A_haltsOrWaits rq (nI 7) = (0, ()) := by cases rq <;> rfl
set_option maxHeartbeats 4000000 in
set_option maxRecDepth 100000 in
theorem fm_7 (me : Nat → Int32) (ro : Nat → Int32) (di : Nat → Int32) (os : Nat → Bool) (ob : Nat → Int32) (od : Nat → Int32) (on : Nat → Int32) (pg : Nat → Int32) (nu : Int32) (go : Bool) (so : Int32) (h0 : Nat) (v : Int32) (hop : lo 4 v = 7) : F_M_instruct me ro di os ob od on pg nu go so h0 v = (
    let rov46 := F_M_tick (upd (upd ro (60 * h0 + 59) ((ro (60 * h0 + 59)) + 1)) (60 * h0 + 4) (nI (lo 6 (v >>> (8 &&& 31))))) (60 * h0)
    (1, (me, rov46, pg, os, ob, od, on)) : Int32 × (Nat → Int32) × (Nat → Int32) × (Nat → Int32) × (Nat → Bool) × (Nat → Int32) × (Nat → Int32) × (Nat → Int32)) := by
  unfold F_M_instruct
  rw [hop]
  rw [if_neg (show ¬ (nI 7 : Int32) = 0 by decide)]
  rw [if_neg (show ¬ 13 < (nI 7 : Int32) by decide)]
  rw [if_neg (show ¬ (nI 7 : Int32) = 11 by decide)]
  rw [if_neg (show ¬ (nI 7 : Int32) = 12 by decide)]
  rw [if_pos (show (nI 7 : Int32) = 7 by decide)]
theorem hw_8 (rq : Bool) : F_A_haltsOrWaits rq (nI 8) = (0, ()) := by cases rq <;> rfl
set_option maxHeartbeats 4000000 in
set_option maxRecDepth 100000 in
theorem fm_8 (me : Nat → Int32) (ro : Nat → Int32) (di : Nat → Int32) (os : Nat → Bool) (ob : Nat → Int32) (od : Nat → Int32) (on : Nat → Int32) (pg : Nat → Int32) (nu : Int32) (go : Bool) (so : Int32) (h0 : Nat) (v : Int32) (hop : lo 4 v = 8) : F_M_instruct me ro di os ob od on pg nu go so h0 v = (
    if (ro (60 * h0 + (lo 2 (v >>> (4 &&& 31))))) = 0 then
      let rov186 := F_M_tick (upd (upd ro (60 * h0 + 59) ((ro (60 * h0 + 59)) + 1)) (60 * h0 + 4) (nI (lo 6 (v >>> (8 &&& 31))))) (60 * h0)
      (1, (me, rov186, pg, os, ob, od, on))
    else
      let rov173 := F_M_tick (upd (upd ro (60 * h0 + 59) ((ro (60 * h0 + 59)) + 1)) (60 * h0 + 4) (nI (lo 6 (((upd ro (60 * h0 + 59) ((ro (60 * h0 + 59)) + 1)) (60 * h0 + 4)) + 1)))) (60 * h0)
      (1, (me, rov173, pg, os, ob, od, on)) : Int32 × (Nat → Int32) × (Nat → Int32) × (Nat → Int32) × (Nat → Bool) × (Nat → Int32) × (Nat → Int32) × (Nat → Int32)) := by
  unfold F_M_instruct
  rw [hop]
  rw [if_neg (show ¬ (nI 8 : Int32) = 0 by decide)]
  rw [if_neg (show ¬ 13 < (nI 8 : Int32) by decide)]
  rw [if_neg (show ¬ (nI 8 : Int32) = 11 by decide)]
  rw [if_neg (show ¬ (nI 8 : Int32) = 12 by decide)]
  rw [if_neg (show ¬ (nI 8 : Int32) = 7 by decide)]
  rw [if_pos (show (nI 8 : Int32) = 8 by decide)]
theorem hw_9 (rq : Bool) : F_A_haltsOrWaits rq (nI 9) = (0, ()) := by cases rq <;> rfl
set_option maxHeartbeats 4000000 in
set_option maxRecDepth 100000 in
theorem fm_9 (me : Nat → Int32) (ro : Nat → Int32) (di : Nat → Int32) (os : Nat → Bool) (ob : Nat → Int32) (od : Nat → Int32) (on : Nat → Int32) (pg : Nat → Int32) (nu : Int32) (go : Bool) (so : Int32) (h0 : Nat) (v : Int32) (hop : lo 4 v = 9) : F_M_instruct me ro di os ob od on pg nu go so h0 v = (
    if 40 ≤ (nI (tN (ro (60 * h0 + 15)))) then
      let rov82 := F_M_tick (upd (upd ro (60 * h0 + 59) ((ro (60 * h0 + 59)) + 1)) (60 * h0 + 4) (nI (lo 6 (((upd ro (60 * h0 + 59) ((ro (60 * h0 + 59)) + 1)) (60 * h0 + 4)) + 1)))) (60 * h0)
      (1, (me, rov82, pg, os, ob, od, on))
    else
      let rov89 := F_M_tick (upd (upd (upd (upd ro (60 * h0 + 16 + (tN (ro (60 * h0 + 15)))) (ro (60 * h0 + (lo 2 (v >>> (4 &&& 31)))))) (60 * h0 + 15) (((upd ro (60 * h0 + 16 + (tN (ro (60 * h0 + 15)))) (ro (60 * h0 + (lo 2 (v >>> (4 &&& 31)))))) (60 * h0 + 15)) + 1)) (60 * h0 + 59) (((upd (upd ro (60 * h0 + 16 + (tN (ro (60 * h0 + 15)))) (ro (60 * h0 + (lo 2 (v >>> (4 &&& 31)))))) (60 * h0 + 15) (((upd ro (60 * h0 + 16 + (tN (ro (60 * h0 + 15)))) (ro (60 * h0 + (lo 2 (v >>> (4 &&& 31)))))) (60 * h0 + 15)) + 1)) (60 * h0 + 59)) + 1)) (60 * h0 + 4) (nI (lo 6 (((upd (upd (upd ro (60 * h0 + 16 + (tN (ro (60 * h0 + 15)))) (ro (60 * h0 + (lo 2 (v >>> (4 &&& 31)))))) (60 * h0 + 15) (((upd ro (60 * h0 + 16 + (tN (ro (60 * h0 + 15)))) (ro (60 * h0 + (lo 2 (v >>> (4 &&& 31)))))) (60 * h0 + 15)) + 1)) (60 * h0 + 59) (((upd (upd ro (60 * h0 + 16 + (tN (ro (60 * h0 + 15)))) (ro (60 * h0 + (lo 2 (v >>> (4 &&& 31)))))) (60 * h0 + 15) (((upd ro (60 * h0 + 16 + (tN (ro (60 * h0 + 15)))) (ro (60 * h0 + (lo 2 (v >>> (4 &&& 31)))))) (60 * h0 + 15)) + 1)) (60 * h0 + 59)) + 1)) (60 * h0 + 4)) + 1)))) (60 * h0)
      (1, (me, rov89, pg, os, ob, od, on)) : Int32 × (Nat → Int32) × (Nat → Int32) × (Nat → Int32) × (Nat → Bool) × (Nat → Int32) × (Nat → Int32) × (Nat → Int32)) := by
  unfold F_M_instruct
  rw [hop]
  rw [if_neg (show ¬ (nI 9 : Int32) = 0 by decide)]
  rw [if_neg (show ¬ 13 < (nI 9 : Int32) by decide)]
  rw [if_neg (show ¬ (nI 9 : Int32) = 11 by decide)]
  rw [if_neg (show ¬ (nI 9 : Int32) = 12 by decide)]
  rw [if_neg (show ¬ (nI 9 : Int32) = 7 by decide)]
  rw [if_neg (show ¬ (nI 9 : Int32) = 8 by decide)]
  rw [if_neg (show ¬ (nI 9 : Int32) = 1 by decide)]
  rw [if_neg (show ¬ (nI 9 : Int32) = 2 by decide)]
  rw [if_neg (show ¬ (nI 9 : Int32) = 3 by decide)]
  rw [if_neg (show ¬ (nI 9 : Int32) = 4 by decide)]
  rw [if_neg (show ¬ (nI 9 : Int32) = 5 by decide)]
  rw [if_neg (show ¬ (nI 9 : Int32) = 6 by decide)]
  rw [if_pos (show (nI 9 : Int32) = 9 by decide)]
theorem hw_10 (rq : Bool) : F_A_haltsOrWaits rq (nI 10) = (0, ()) := by cases rq <;> rfl
set_option maxHeartbeats 4000000 in
set_option maxRecDepth 100000 in
theorem fm_10 (me : Nat → Int32) (ro : Nat → Int32) (di : Nat → Int32) (os : Nat → Bool) (ob : Nat → Int32) (od : Nat → Int32) (on : Nat → Int32) (pg : Nat → Int32) (nu : Int32) (go : Bool) (so : Int32) (h0 : Nat) (v : Int32) (hop : lo 4 v = 10) : F_M_instruct me ro di os ob od on pg nu go so h0 v = (
    match F_M_taken ro (60 * h0) with
    | (r67, rov68) =>
      let rov74 := F_M_tick (upd (upd (upd rov68 (60 * h0 + (lo 2 (v >>> (4 &&& 31)))) r67) (60 * h0 + 59) (((upd rov68 (60 * h0 + (lo 2 (v >>> (4 &&& 31)))) r67) (60 * h0 + 59)) + 1)) (60 * h0 + 4) (nI (lo 6 (((upd (upd rov68 (60 * h0 + (lo 2 (v >>> (4 &&& 31)))) r67) (60 * h0 + 59) (((upd rov68 (60 * h0 + (lo 2 (v >>> (4 &&& 31)))) r67) (60 * h0 + 59)) + 1)) (60 * h0 + 4)) + 1)))) (60 * h0)
      (1, (me, rov74, pg, os, ob, od, on)) : Int32 × (Nat → Int32) × (Nat → Int32) × (Nat → Int32) × (Nat → Bool) × (Nat → Int32) × (Nat → Int32) × (Nat → Int32)) := by
  unfold F_M_instruct
  rw [hop]
  rw [if_neg (show ¬ (nI 10 : Int32) = 0 by decide)]
  rw [if_neg (show ¬ 13 < (nI 10 : Int32) by decide)]
  rw [if_neg (show ¬ (nI 10 : Int32) = 11 by decide)]
  rw [if_neg (show ¬ (nI 10 : Int32) = 12 by decide)]
  rw [if_neg (show ¬ (nI 10 : Int32) = 7 by decide)]
  rw [if_neg (show ¬ (nI 10 : Int32) = 8 by decide)]
  rw [if_neg (show ¬ (nI 10 : Int32) = 1 by decide)]
  rw [if_neg (show ¬ (nI 10 : Int32) = 2 by decide)]
  rw [if_neg (show ¬ (nI 10 : Int32) = 3 by decide)]
  rw [if_neg (show ¬ (nI 10 : Int32) = 4 by decide)]
  rw [if_neg (show ¬ (nI 10 : Int32) = 5 by decide)]
  rw [if_neg (show ¬ (nI 10 : Int32) = 6 by decide)]
  rw [if_neg (show ¬ (nI 10 : Int32) = 9 by decide)]
  rw [if_pos (show (nI 10 : Int32) = 10 by decide)]
theorem hw_11 (rq : Bool) : F_A_haltsOrWaits rq (nI 11) = (bI rq, ()) := by cases rq <;> rfl
set_option maxHeartbeats 4000000 in
set_option maxRecDepth 100000 in
theorem fm_11 (me : Nat → Int32) (ro : Nat → Int32) (di : Nat → Int32) (os : Nat → Bool) (ob : Nat → Int32) (od : Nat → Int32) (on : Nat → Int32) (pg : Nat → Int32) (nu : Int32) (go : Bool) (so : Int32) (h0 : Nat) (v : Int32) (hop : lo 4 v = 11) : F_M_instruct me ro di os ob od on pg nu go so h0 v = (
    if (ro (60 * h0 + 56)) = 1 then
      (0, (me, ro, pg, os, ob, od, on))
    else
      let rov31 := F_M_tick (upd (upd (upd (upd (upd ro (60 * h0 + 56) 1) (60 * h0 + 57) (nI (lo 3 (nI (lo 6 (v >>> (8 &&& 31))))))) (60 * h0 + 58) ((upd (upd ro (60 * h0 + 56) 1) (60 * h0 + 57) (nI (lo 3 (nI (lo 6 (v >>> (8 &&& 31))))))) (60 * h0 + (lo 2 (v >>> (4 &&& 31)))))) (60 * h0 + 59) (((upd (upd (upd ro (60 * h0 + 56) 1) (60 * h0 + 57) (nI (lo 3 (nI (lo 6 (v >>> (8 &&& 31))))))) (60 * h0 + 58) ((upd (upd ro (60 * h0 + 56) 1) (60 * h0 + 57) (nI (lo 3 (nI (lo 6 (v >>> (8 &&& 31))))))) (60 * h0 + (lo 2 (v >>> (4 &&& 31)))))) (60 * h0 + 59)) + 1)) (60 * h0 + 4) (nI (lo 6 (((upd (upd (upd (upd ro (60 * h0 + 56) 1) (60 * h0 + 57) (nI (lo 3 (nI (lo 6 (v >>> (8 &&& 31))))))) (60 * h0 + 58) ((upd (upd ro (60 * h0 + 56) 1) (60 * h0 + 57) (nI (lo 3 (nI (lo 6 (v >>> (8 &&& 31))))))) (60 * h0 + (lo 2 (v >>> (4 &&& 31)))))) (60 * h0 + 59) (((upd (upd (upd ro (60 * h0 + 56) 1) (60 * h0 + 57) (nI (lo 3 (nI (lo 6 (v >>> (8 &&& 31))))))) (60 * h0 + 58) ((upd (upd ro (60 * h0 + 56) 1) (60 * h0 + 57) (nI (lo 3 (nI (lo 6 (v >>> (8 &&& 31))))))) (60 * h0 + (lo 2 (v >>> (4 &&& 31)))))) (60 * h0 + 59)) + 1)) (60 * h0 + 4)) + 1)))) (60 * h0)
      (1, (me, rov31, pg, va_up os h0 true, upd ob h0 ((upd (upd (upd ro (60 * h0 + 56) 1) (60 * h0 + 57) (nI (lo 3 (nI (lo 6 (v >>> (8 &&& 31))))))) (60 * h0 + 58) ((upd (upd ro (60 * h0 + 56) 1) (60 * h0 + 57) (nI (lo 3 (nI (lo 6 (v >>> (8 &&& 31))))))) (60 * h0 + (lo 2 (v >>> (4 &&& 31)))))) (60 * h0 + 57)), upd od h0 ((upd (upd (upd ro (60 * h0 + 56) 1) (60 * h0 + 57) (nI (lo 3 (nI (lo 6 (v >>> (8 &&& 31))))))) (60 * h0 + 58) ((upd (upd ro (60 * h0 + 56) 1) (60 * h0 + 57) (nI (lo 3 (nI (lo 6 (v >>> (8 &&& 31))))))) (60 * h0 + (lo 2 (v >>> (4 &&& 31)))))) (60 * h0 + 58)), upd on h0 nu)) : Int32 × (Nat → Int32) × (Nat → Int32) × (Nat → Int32) × (Nat → Bool) × (Nat → Int32) × (Nat → Int32) × (Nat → Int32)) := by
  unfold F_M_instruct
  rw [hop]
  rw [if_neg (show ¬ (nI 11 : Int32) = 0 by decide)]
  rw [if_neg (show ¬ 13 < (nI 11 : Int32) by decide)]
  rw [if_pos (show (nI 11 : Int32) = 11 by decide)]
theorem hw_12 (rq : Bool) : F_A_haltsOrWaits rq (nI 12) = (bI rq, ()) := by cases rq <;> rfl
set_option maxHeartbeats 4000000 in
set_option maxRecDepth 100000 in
theorem fm_12 (me : Nat → Int32) (ro : Nat → Int32) (di : Nat → Int32) (os : Nat → Bool) (ob : Nat → Int32) (od : Nat → Int32) (on : Nat → Int32) (pg : Nat → Int32) (nu : Int32) (go : Bool) (so : Int32) (h0 : Nat) (v : Int32) (hop : lo 4 v = 12) : F_M_instruct me ro di os ob od on pg nu go so h0 v = (
    if (ro (60 * h0 + 56)) = 1 then
      (0, (me, ro, pg, os, ob, od, on))
    else
      let rov204 := F_M_tick (upd (upd (upd ro (60 * h0 + (lo 2 (v >>> (4 &&& 31)))) (di (lo 3 (nI (lo 6 (v >>> (8 &&& 31))))))) (60 * h0 + 59) (((upd ro (60 * h0 + (lo 2 (v >>> (4 &&& 31)))) (di (lo 3 (nI (lo 6 (v >>> (8 &&& 31))))))) (60 * h0 + 59)) + 1)) (60 * h0 + 4) (nI (lo 6 (((upd (upd ro (60 * h0 + (lo 2 (v >>> (4 &&& 31)))) (di (lo 3 (nI (lo 6 (v >>> (8 &&& 31))))))) (60 * h0 + 59) (((upd ro (60 * h0 + (lo 2 (v >>> (4 &&& 31)))) (di (lo 3 (nI (lo 6 (v >>> (8 &&& 31))))))) (60 * h0 + 59)) + 1)) (60 * h0 + 4)) + 1)))) (60 * h0)
      (1, (me, rov204, pg, os, ob, od, on)) : Int32 × (Nat → Int32) × (Nat → Int32) × (Nat → Int32) × (Nat → Bool) × (Nat → Int32) × (Nat → Int32) × (Nat → Int32)) := by
  unfold F_M_instruct
  rw [hop]
  rw [if_neg (show ¬ (nI 12 : Int32) = 0 by decide)]
  rw [if_neg (show ¬ 13 < (nI 12 : Int32) by decide)]
  rw [if_neg (show ¬ (nI 12 : Int32) = 11 by decide)]
  rw [if_pos (show (nI 12 : Int32) = 12 by decide)]
theorem hw_13 (rq : Bool) : F_A_haltsOrWaits rq (nI 13) = (0, ()) := by cases rq <;> rfl
set_option maxHeartbeats 4000000 in
set_option maxRecDepth 100000 in
theorem fm_13 (me : Nat → Int32) (ro : Nat → Int32) (di : Nat → Int32) (os : Nat → Bool) (ob : Nat → Int32) (od : Nat → Int32) (on : Nat → Int32) (pg : Nat → Int32) (nu : Int32) (go : Bool) (so : Int32) (h0 : Nat) (v : Int32) (hop : lo 4 v = 13) : F_M_instruct me ro di os ob od on pg nu go so h0 v = (
    let rov65 := F_M_tick (upd (upd (upd ro (60 * h0 + 5) (nI (lo 8 (ro (60 * h0 + (lo 2 (v >>> (4 &&& 31))))) + 1))) (60 * h0 + 59) (((upd ro (60 * h0 + 5) (nI (lo 8 (ro (60 * h0 + (lo 2 (v >>> (4 &&& 31))))) + 1))) (60 * h0 + 59)) + 1)) (60 * h0 + 4) (nI (lo 6 (((upd (upd ro (60 * h0 + 5) (nI (lo 8 (ro (60 * h0 + (lo 2 (v >>> (4 &&& 31))))) + 1))) (60 * h0 + 59) (((upd ro (60 * h0 + 5) (nI (lo 8 (ro (60 * h0 + (lo 2 (v >>> (4 &&& 31))))) + 1))) (60 * h0 + 59)) + 1)) (60 * h0 + 4)) + 1)))) (60 * h0)
    (1, (me, rov65, pg, os, ob, od, on)) : Int32 × (Nat → Int32) × (Nat → Int32) × (Nat → Int32) × (Nat → Bool) × (Nat → Int32) × (Nat → Int32) × (Nat → Int32)) := by
  unfold F_M_instruct
  rw [hop]
  rw [if_neg (show ¬ (nI 13 : Int32) = 0 by decide)]
  rw [if_neg (show ¬ 13 < (nI 13 : Int32) by decide)]
  rw [if_neg (show ¬ (nI 13 : Int32) = 11 by decide)]
  rw [if_neg (show ¬ (nI 13 : Int32) = 12 by decide)]
  rw [if_neg (show ¬ (nI 13 : Int32) = 7 by decide)]
  rw [if_neg (show ¬ (nI 13 : Int32) = 8 by decide)]
  rw [if_neg (show ¬ (nI 13 : Int32) = 1 by decide)]
  rw [if_neg (show ¬ (nI 13 : Int32) = 2 by decide)]
  rw [if_neg (show ¬ (nI 13 : Int32) = 3 by decide)]
  rw [if_neg (show ¬ (nI 13 : Int32) = 4 by decide)]
  rw [if_neg (show ¬ (nI 13 : Int32) = 5 by decide)]
  rw [if_neg (show ¬ (nI 13 : Int32) = 6 by decide)]
  rw [if_neg (show ¬ (nI 13 : Int32) = 9 by decide)]
  rw [if_neg (show ¬ (nI 13 : Int32) = 10 by decide)]
  rw [if_pos (show (nI 13 : Int32) = 13 by decide)]
theorem hw_14 (rq : Bool) : F_A_haltsOrWaits rq (nI 14) = (1, ()) := by cases rq <;> rfl
set_option maxHeartbeats 4000000 in
set_option maxRecDepth 100000 in
theorem fm_14 (me : Nat → Int32) (ro : Nat → Int32) (di : Nat → Int32) (os : Nat → Bool) (ob : Nat → Int32) (od : Nat → Int32) (on : Nat → Int32) (pg : Nat → Int32) (nu : Int32) (go : Bool) (so : Int32) (h0 : Nat) (v : Int32) (hop : lo 4 v = 14) : F_M_instruct me ro di os ob od on pg nu go so h0 v = (
    (0, (me, ro, pg, os, ob, od, on)) : Int32 × (Nat → Int32) × (Nat → Int32) × (Nat → Int32) × (Nat → Bool) × (Nat → Int32) × (Nat → Int32) × (Nat → Int32)) := by
  unfold F_M_instruct
  rw [hop]
  rw [if_neg (show ¬ (nI 14 : Int32) = 0 by decide)]
  rw [if_pos (show 13 < (nI 14 : Int32) by decide)]
theorem hw_15 (rq : Bool) : F_A_haltsOrWaits rq (nI 15) = (1, ()) := by cases rq <;> rfl
set_option maxHeartbeats 4000000 in
set_option maxRecDepth 100000 in
theorem fm_15 (me : Nat → Int32) (ro : Nat → Int32) (di : Nat → Int32) (os : Nat → Bool) (ob : Nat → Int32) (od : Nat → Int32) (on : Nat → Int32) (pg : Nat → Int32) (nu : Int32) (go : Bool) (so : Int32) (h0 : Nat) (v : Int32) (hop : lo 4 v = 15) : F_M_instruct me ro di os ob od on pg nu go so h0 v = (
    (0, (me, ro, pg, os, ob, od, on)) : Int32 × (Nat → Int32) × (Nat → Int32) × (Nat → Int32) × (Nat → Bool) × (Nat → Int32) × (Nat → Int32) × (Nat → Int32)) := by
  unfold F_M_instruct
  rw [hop]
  rw [if_neg (show ¬ (nI 15 : Int32) = 0 by decide)]
  rw [if_pos (show 13 < (nI 15 : Int32) by decide)]
