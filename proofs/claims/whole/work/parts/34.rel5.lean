theorem R8.stop {znC : Int32} {pk pm pp ps : Nat → Int32} {pw : Nat → Nat → Int32} {spC : Bool} {rgC ipC ouC : Nat → Nat → Int32} {ctC tiC niC noC rtC : Nat → Int32} {rqC : Nat → Bool} {rbC rwdC : Nat → Int32} {ho : Nat → Bool} {go : Bool} {la so pn : Int32} {ki mo po sr ld : Nat → Int32} {spD : Bool} {rgD ipD ouD : Nat → Nat → Int32} {ctD tiD niD noD rtD : Nat → Int32} {rqD : Nat → Bool} {rbD rwdD : Nat → Int32} {ho2 : Nat → Bool} {so2 : Int32} (h : R8 znC pk pm pp ps pw spC rgC ipC ouC ctC tiC niC noC rtC rqC rbC rwdC ho go la so pn ki mo po sr ld) : R8 znC pk pm pp ps pw spD rgD ipD ouD ctD tiD niD noD rtD rqD rbD rwdD ho2 false la so2 pn ki mo po sr ld := by
  refine ⟨h.1, h.2.1, fun j hj => ?_⟩
  obtain ⟨a1, a2, a3, a4, a5, a6, a7, a8, a9, a10⟩ := h.2.2 j hj
  exact ⟨a1, a2, a3, a4, a5, a6, a7, a8, a9, fun _ w => absurd w (by decide)⟩
theorem R5.mk {taD reD ho2 : Nat → Bool} {go2 : Bool} {so : Int32} {tp2 rd2 : Bool} (d1 : taD (tN so) = false) (d2 : reD (tN so) = false) (d3 : taD (1 - tN so) = tp2) (d4 : reD (1 - tN so) = rd2) (c1 : ¬ go2 = true → tp2 = false) (c2 : rd2 = true → tp2 = true) (c3 : go2 = true → ho2 (1 - tN so) = false) (c4 : go2 = true → ho2 (tN so) = false → rd2 = true) : R5 taD reD ho2 go2 so tp2 rd2 :=
  ⟨d1, d2, d3.symm, d4.symm, fun w => d3.trans (c1 w), fun w => d3.trans (c2 (d4.symm.trans w)), c3, fun w1 w2 => d4.trans (c4 w1 w2)⟩
theorem R5.stop {taC reC ho : Nat → Bool} {go : Bool} {so : Int32} {tp rd : Bool} {ho2 : Nat → Bool} (h : R5 taC reC ho go so tp rd) (nso : isN so 2) : R5 (va_up taC (1 - tN so) false) (va_up reC (1 - tN so) false) ho2 false so false false := by
  have hb := nso.2
  have hne : tN so ≠ 1 - tN so := by omega
  exact R5.mk ((va_up_ne _ _ hne).trans h.1) ((va_up_ne _ _ hne).trans h.2.1) (va_up_self _ _ _) (va_up_self _ _ _) (fun _ => rfl) (fun w => absurd w (by decide)) (fun w => absurd w (by decide)) (fun w => absurd w (by decide))
set_option maxHeartbeats 4000000 in
set_option maxRecDepth 100000 in
theorem S_abort {n : Nat} {meC : Nat → Nat → Int32} {rgC : Nat → Nat → Int32} {ipC : Nat → Nat → Int32} {ouC : Nat → Nat → Int32} {hsC : Nat → Nat → Int32} {ctC : Nat → Int32} {tiC : Nat → Int32} {niC : Nat → Int32} {noC : Nat → Int32} {rtC : Nat → Int32} {rbC : Nat → Int32} {rwdC : Nat → Int32} {b1C : Nat → Int32} {w1C : Nat → Int32} {n1C : Nat → Int32} {rqC : Nat → Bool} {huC : Nat → Bool} {hdC : Nat → Bool} {taC : Nat → Bool} {reC : Nat → Bool} {hoC : Nat → Bool} {imC : Nat → Int32} {blC : Nat → Int32} {sgC : Nat → Int32} {srC : Nat → Int32} {wnC : Int32} {nuC : Int32} {mnC : Int32} {scC : Int32} {stC : Int32} {seC : Int32} {fpC : Int32} {znC : Int32} {goC : Bool} {spC : Bool} {pk : Nat → Int32} {pm : Nat → Int32} {pp : Nat → Int32} {ps : Nat → Int32} {pw : Nat → Nat → Int32} {im : Nat → Int32} {me : Nat → Int32} {ro : Nat → Int32} {di : Nat → Int32} {ob : Nat → Int32} {od : Nat → Int32} {on : Nat → Int32} {pg : Nat → Int32} {tm : Nat → Int32} {ts : Nat → Int32} {tr : Nat → Int32} {ki : Nat → Int32} {mo : Nat → Int32} {po : Nat → Int32} {sr : Nat → Int32} {ld : Nat → Int32} {up : Nat → Bool} {ho : Nat → Bool} {os : Nat → Bool} {st : Bool} {go : Bool} {tp : Bool} {rd : Bool} {ow : Int32} {nu : Int32} {la : Int32} {so : Int32} {se : Int32} {sl : Int32} {sp : Int32} {pn : Int32} {gov : Bool} {nuv : Int32} {taTv : Bool} {reTv : Bool} {hoSv : Bool} {b1Sv : Int32} {w1Sv : Int32} {n1Sv : Int32} {osw : Nat → Bool} {obw : Nat → Int32} {odw : Nat → Int32} {onw : Nat → Int32} {stw : Bool} {nuw : Int32} {gow : Bool} {tpw : Bool} {rdw : Bool} {r r2 : Int32}  (hR : RR n meC rgC ipC ouC hsC ctC tiC niC noC rtC rbC rwdC b1C w1C n1C rqC huC hdC taC reC hoC imC blC sgC srC wnC nuC mnC scC stC seC fpC znC goC spC pk pm pp ps pw im me ro di ob od on pg tm ts tr ki mo po sr ld up ho os st go tp rd ow nu la so se sl sp pn) (eG : F_G_abort nuC goC (hdC (tN so)) (hoC (tN so)) (b1C (tN so)) (w1C (tN so)) (n1C (tN so)) (rqC (tN so)) (rbC (tN so)) (rwdC (tN so)) (taC (1 - tN so)) (reC (1 - tN so)) = (r, gov, nuv, taTv, reTv, hoSv, b1Sv, w1Sv, n1Sv)) (eM : F_M_abort ro ho os ob od on st nu go so tp rd = (r2, osw, obw, odw, onw, stw, nuw, gow, tpw, rdw)) : r = r2 ∧ RR n meC rgC ipC ouC hsC ctC tiC niC noC rtC rbC rwdC (va_up b1C (tN so) b1Sv) (va_up w1C (tN so) w1Sv) (va_up n1C (tN so) n1Sv) rqC huC hdC (va_up taC (1 - tN so) taTv) (va_up reC (1 - tN so) reTv) (va_up hoC (tN so) hoSv) imC blC sgC srC wnC nuv mnC scC stC seC fpC znC gov spC pk pm pp ps pw im me ro di obw odw onw pg tm ts tr ki mo po sr ld up ho osw stw gow tpw rdw ow nuw la so se sl sp pn := by
  have hR0 := hR
  obtain ⟨h1, h2, h3, h4, h5, h6, h7, h8, h9, h10⟩ := hR
  have ⟨a1, a2, a3, a4, a5⟩ := h1
  have ⟨g1, g2, g3, g4, g5, g6, g7, g8, g9⟩ := h3
  unfold F_G_abort at eG
  unfold F_M_abort at eM
  have ⟨u1, u2, u3, u4, u5, u6, u7⟩ := h2 (tN so) g6.2
  by_cases hg : go = true
  · rw [if_pos (g1.trans hg)] at eG
    rw [if_pos hg] at eM
    by_cases q : ho (tN so) = true
    · rw [if_pos (u2.trans q)] at eG
      rw [if_pos q] at eM
      obtain ⟨m1, ⟨s1, s2, s3, s4, s5, s6, s7, s8⟩, m3, m4⟩ := h6 (tN so) g6.2 q
      unfold F_G_renewNumber at eG
      by_cases w : rqC (tN so) = true
      · rw [if_pos w] at eG
        rw [w] at s7
        rw [if_pos (show ro (60 * tN so + 56) = 1 from s7)] at eM
        obtain ⟨k1, k2, k3⟩ := s8 w
        cases eG
        cases eM
        exact ⟨rfl, ⟨a1, a2, a3, by rw [a4], a5⟩, R2.upd (tN so) h2 (fun k hk => ⟨rfl, rfl, va_up_ne _ _ hk, va_up_ne _ _ hk, va_up_ne _ _ hk, va_up_ne _ _ hk, rfl, rfl, va_up_ne _ _ hk, pk_un hk, pk_un hk, pk_un hk⟩) ⟨u1, u2, (va_up_self _ _ _).trans (va_up_self _ _ _).symm, (va_up_self _ _ _).trans (k1.trans pk_us.symm), (va_up_self _ _ _).trans (k2.trans pk_us.symm), (va_up_self _ _ _).trans ((by rw [a4] : nuC + 1 = nu + 1).trans pk_us.symm), by rw [pk_us, ← (show rbC (tN so) = ro (60 * tN so + 57) from k1)]; exact k3⟩, ⟨rfl, g2, g3, g4, g5, g6, rfl, g8, g9⟩, ⟨h4.1, h4.2.1, fun w => absurd w (by decide)⟩, h5.stop g6, h6, fun w => absurd ((va_up_self _ _ _).symm.trans w) (by decide), h8.stop, h9, h10⟩
      · rw [if_neg w] at eG
        rw [bo w] at s7
        rw [if_neg (fun z => absurd (s7.symm.trans z) (by decide))] at eM
        cases eG
        cases eM
        refine ⟨rfl, ?_⟩
        simp only [up_same]
        exact ⟨⟨a1, a2, a3, by rw [a4], a5⟩, h2, ⟨rfl, g2, g3, g4, g5, g6, rfl, g8, g9⟩, ⟨h4.1, h4.2.1, fun w => absurd w (by decide)⟩, h5.stop g6, h6, fun w => absurd ((va_up_self _ _ _).symm.trans w) (by decide), h8.stop, h9, h10⟩
    · rw [if_neg (fun z => q (u2.symm.trans z))] at eG
      rw [if_neg q] at eM
      cases eG
      cases eM
      refine ⟨rfl, ?_⟩
      simp only [up_same]
      exact ⟨h1, h2, ⟨rfl, g2, g3, g4, g5, g6, rfl, g8, g9⟩, ⟨h4.1, h4.2.1, fun w => absurd w (by decide)⟩, h5.stop g6, h6, fun w => absurd ((va_up_self _ _ _).symm.trans w) (by decide), h8.stop, h9, h10⟩
  · rw [if_neg (fun z => hg (g1.symm.trans z))] at eG
    rw [if_neg hg] at eM
    cases eG
    cases eM
    refine ⟨rfl, ?_⟩
    simp only [up_same]
    exact hR0
set_option maxHeartbeats 4000000 in
set_option maxRecDepth 100000 in
theorem S_handOver {n : Nat} {meC : Nat → Nat → Int32} {rgC : Nat → Nat → Int32} {ipC : Nat → Nat → Int32} {ouC : Nat → Nat → Int32} {hsC : Nat → Nat → Int32} {ctC : Nat → Int32} {tiC : Nat → Int32} {niC : Nat → Int32} {noC : Nat → Int32} {rtC : Nat → Int32} {rbC : Nat → Int32} {rwdC : Nat → Int32} {b1C : Nat → Int32} {w1C : Nat → Int32} {n1C : Nat → Int32} {rqC : Nat → Bool} {huC : Nat → Bool} {hdC : Nat → Bool} {taC : Nat → Bool} {reC : Nat → Bool} {hoC : Nat → Bool} {imC : Nat → Int32} {blC : Nat → Int32} {sgC : Nat → Int32} {srC : Nat → Int32} {wnC : Int32} {nuC : Int32} {mnC : Int32} {scC : Int32} {stC : Int32} {seC : Int32} {fpC : Int32} {znC : Int32} {goC : Bool} {spC : Bool} {pk : Nat → Int32} {pm : Nat → Int32} {pp : Nat → Int32} {ps : Nat → Int32} {pw : Nat → Nat → Int32} {im : Nat → Int32} {me : Nat → Int32} {ro : Nat → Int32} {di : Nat → Int32} {ob : Nat → Int32} {od : Nat → Int32} {on : Nat → Int32} {pg : Nat → Int32} {tm : Nat → Int32} {ts : Nat → Int32} {tr : Nat → Int32} {ki : Nat → Int32} {mo : Nat → Int32} {po : Nat → Int32} {sr : Nat → Int32} {ld : Nat → Int32} {up : Nat → Bool} {ho : Nat → Bool} {os : Nat → Bool} {st : Bool} {go : Bool} {tp : Bool} {rd : Bool} {ow : Int32} {nu : Int32} {la : Int32} {so : Int32} {se : Int32} {sl : Int32} {sp : Int32} {pn : Int32} {gov : Bool} {wnv : Int32} {nuv : Int32} {hdSv : Bool} {hdTv : Bool} {taTv : Bool} {reTv : Bool} {hoTv : Bool} {b1Tv : Int32} {w1Tv : Int32} {n1Tv : Int32} {mew : Nat → Int32} {row : Nat → Int32} {how : Nat → Bool} {osw : Nat → Bool} {obw : Nat → Int32} {odw : Nat → Int32} {onw : Nat → Int32} {stw : Bool} {oww : Int32} {nuw : Int32} {gow : Bool} {tpw : Bool} {rdw : Bool}  (hR : RR n meC rgC ipC ouC hsC ctC tiC niC noC rtC rbC rwdC b1C w1C n1C rqC huC hdC taC reC hoC imC blC sgC srC wnC nuC mnC scC stC seC fpC znC goC spC pk pm pp ps pw im me ro di ob od on pg tm ts tr ki mo po sr ld up ho os st go tp rd ow nu la so se sl sp pn) (ht : taC (1 - tN so) = true) (hr : reC (1 - tN so) = true) (eG : F_G_handOver nuC scC (hoC (1 - tN so)) (b1C (1 - tN so)) (w1C (1 - tN so)) (n1C (1 - tN so)) (rqC (1 - tN so)) (rbC (1 - tN so)) (rwdC (1 - tN so)) = (gov, wnv, nuv, hdSv, hdTv, taTv, reTv, hoTv, b1Tv, w1Tv, n1Tv)) (eM : F_M_handOver me ro ho os ob od on tm tr nu so = (mew, row, how, osw, obw, odw, onw, stw, oww, nuw, gow, tpw, rdw)) : RR n meC rgC ipC ouC hsC ctC tiC niC noC rtC rbC rwdC (va_up b1C (1 - tN so) b1Tv) (va_up w1C (1 - tN so) w1Tv) (va_up n1C (1 - tN so) n1Tv) rqC huC (va_up (va_up hdC (tN so) hdSv) (1 - tN so) hdTv) (va_up taC (1 - tN so) taTv) (va_up reC (1 - tN so) reTv) (va_up hoC (1 - tN so) hoTv) imC blC sgC srC wnv nuv mnC scC stC seC fpC znC gov spC pk pm pp ps pw im mew row di obw odw onw pg tm ts tr ki mo po sr ld up how osw stw gow tpw rdw oww nuw la so se sl sp pn := by
  have hR0 := hR
  obtain ⟨h1, h2, h3, h4, h5, h6, h7, h8, h9, h10⟩ := hR
  have ⟨a1, a2, a3, a4, a5⟩ := h1
  have ⟨g1, g2, g3, g4, g5, g6, g7, g8, g9⟩ := h3
  unfold F_G_handOver at eG
  unfold F_M_handOver at eM
  have hb := g6.2
  have ⟨w1, w2, w3, w4, w5, w6, w7⟩ := h2 (tN so) g6.2
  have ⟨u1, u2, u3, u4, u5, u6, u7⟩ := h2 (1 - tN so) (by omega)
  obtain ⟨t1, t2, t3⟩ := h7 ht
  have t4 := t3 hr
  obtain ⟨⟨s1, s2, s3, s4, s5, s6, s7, s8⟩, m3, m4⟩ := t4
  have n9 := h9 (1 - tN so) (by omega)
  have e56 : va_cpy tr ro 0 (60 * (1 - tN so)) 60 (60 * (1 - tN so) + 56) = tr 56 := cpy_a0 (by decide)
  have e57 : va_cpy tr ro 0 (60 * (1 - tN so)) 60 (60 * (1 - tN so) + 57) = tr 57 := cpy_a0 (by decide)
  have e58 : va_cpy tr ro 0 (60 * (1 - tN so)) 60 (60 * (1 - tN so) + 58) = tr 58 := cpy_a0 (by decide)
  rw [e56, e57, e58] at eM
  have hho : ∀ k, k ≠ 1 - tN so → va_up (va_up ho (tN so) false) (1 - tN so) true k = true → ho k = true ∧ k ≠ tN so := fun k hk w => by
    rw [va_up_ne _ _ hk] at w
    by_cases e : k = tN so
    · rw [e, va_up_self] at w
      exact absurd w (by decide)
    · rw [va_up_ne _ _ e] at w
      exact ⟨w, e⟩
  have h10n : R10 (va_up (va_up ho (tN so) false) (1 - tN so) true) := R10.one (1 - tN so) (fun k hk w => by have := (hho k hk w).2; omega)
  have h6n : R6 meC rgC ipC ouC ctC tiC niC noC rtC rqC rbC rwdC (va_cpy tm me 0 (64 * (1 - tN so)) 64) (va_cpy tr ro 0 (60 * (1 - tN so)) 60) (va_up (va_up ho (tN so) false) (1 - tN so) true) := by
    refine R6.upd (1 - tN so) h6 (fun k hk => ⟨rfl, rfl, rfl, rfl, rfl, rfl, rfl, rfl, rfl, rfl, rfl, rfl⟩) (fun k j hk hj => pk_cpy_out (by omega)) (fun k j hk hj => pk_cpy_out (by omega)) h9 (fun k hk w => (hho k hk w).1) (fun _ => ⟨fun j hj => ?_, ?_⟩)
    · rw [cpy_a0 hj]
      exact t1 j hj
    · exact MX.frame (t3 hr) n9.2.1 n9.2.2 (fun j hj => cpy_a0 hj)
  unfold F_G_renewNumber at eG
  by_cases w : rqC (1 - tN so) = true
  · rw [if_pos w] at eG
    rw [w] at s7
    rw [if_pos (show tr 56 = 1 from s7)] at eM
    obtain ⟨k1, k2, k3⟩ := s8 w
    cases eG
    cases eM
    refine ⟨⟨a1, a2, by rw [g3], by rw [a4], Or.inr (isN_nI (by omega) (by decide))⟩, ?_, ⟨rfl, g2, g3, g4, g5, g6, rfl, g8, g9⟩, ⟨h4.1, h4.2.1, fun w => absurd w (by decide)⟩, h5.stop g6, h6n, fun w => absurd ((va_up_self _ _ _).symm.trans w) (by decide), h8.stop, h9, h10n⟩
    exact R2.upd (1 - tN so) (R2.upd (tN so) h2 (fun k hk => ⟨rfl, va_up_ne _ _ hk, rfl, rfl, rfl, rfl, rfl, va_up_ne _ _ hk, rfl, rfl, rfl, rfl⟩) ⟨w1, (va_up_self _ _ _).trans (va_up_self _ _ _).symm, w3, w4, w5, w6, w7⟩) (fun k hk => ⟨rfl, va_up_ne _ _ hk, va_up_ne _ _ hk, va_up_ne _ _ hk, va_up_ne _ _ hk, va_up_ne _ _ hk, rfl, va_up_ne _ _ hk, va_up_ne _ _ hk, pk_un hk, pk_un hk, pk_un hk⟩) ⟨u1, (va_up_self _ _ _).trans (va_up_self _ _ _).symm, (va_up_self _ _ _).trans (va_up_self _ _ _).symm, (va_up_self _ _ _).trans (k1.trans pk_us.symm), (va_up_self _ _ _).trans (k2.trans pk_us.symm), (va_up_self _ _ _).trans ((by rw [a4] : nuC + 1 = nu + 1).trans pk_us.symm), by rw [pk_us]; exact k1 ▸ k3⟩
  · rw [if_neg w] at eG
    rw [bo w] at s7
    rw [if_neg (fun z => absurd (s7.symm.trans z) (by decide))] at eM
    cases eG
    cases eM
    simp only [up_same]
    refine ⟨⟨a1, a2, by rw [g3], by rw [a4], Or.inr (isN_nI (by omega) (by decide))⟩, ?_, ⟨rfl, g2, g3, g4, g5, g6, rfl, g8, g9⟩, ⟨h4.1, h4.2.1, fun w => absurd w (by decide)⟩, h5.stop g6, h6n, fun w => absurd ((va_up_self _ _ _).symm.trans w) (by decide), h8.stop, h9, h10n⟩
    exact R2.upd (1 - tN so) (R2.upd (tN so) h2 (fun k hk => ⟨rfl, va_up_ne _ _ hk, rfl, rfl, rfl, rfl, rfl, va_up_ne _ _ hk, rfl, rfl, rfl, rfl⟩) ⟨w1, (va_up_self _ _ _).trans (va_up_self _ _ _).symm, w3, w4, w5, w6, w7⟩) (fun k hk => ⟨rfl, va_up_ne _ _ hk, rfl, rfl, rfl, rfl, rfl, va_up_ne _ _ hk, rfl, rfl, rfl, rfl⟩) ⟨u1, (va_up_self _ _ _).trans (va_up_self _ _ _).symm, u3, u4, u5, u6, u7⟩
set_option maxHeartbeats 4000000 in
set_option maxRecDepth 100000 in
theorem S_takeOver {n : Nat} {meC : Nat → Nat → Int32} {rgC : Nat → Nat → Int32} {ipC : Nat → Nat → Int32} {ouC : Nat → Nat → Int32} {hsC : Nat → Nat → Int32} {ctC : Nat → Int32} {tiC : Nat → Int32} {niC : Nat → Int32} {noC : Nat → Int32} {rtC : Nat → Int32} {rbC : Nat → Int32} {rwdC : Nat → Int32} {b1C : Nat → Int32} {w1C : Nat → Int32} {n1C : Nat → Int32} {rqC : Nat → Bool} {huC : Nat → Bool} {hdC : Nat → Bool} {taC : Nat → Bool} {reC : Nat → Bool} {hoC : Nat → Bool} {imC : Nat → Int32} {blC : Nat → Int32} {sgC : Nat → Int32} {srC : Nat → Int32} {wnC : Int32} {nuC : Int32} {mnC : Int32} {scC : Int32} {stC : Int32} {seC : Int32} {fpC : Int32} {znC : Int32} {goC : Bool} {spC : Bool} {pk : Nat → Int32} {pm : Nat → Int32} {pp : Nat → Int32} {ps : Nat → Int32} {pw : Nat → Nat → Int32} {im : Nat → Int32} {me : Nat → Int32} {ro : Nat → Int32} {di : Nat → Int32} {ob : Nat → Int32} {od : Nat → Int32} {on : Nat → Int32} {pg : Nat → Int32} {tm : Nat → Int32} {ts : Nat → Int32} {tr : Nat → Int32} {ki : Nat → Int32} {mo : Nat → Int32} {po : Nat → Int32} {sr : Nat → Int32} {ld : Nat → Int32} {up : Nat → Bool} {ho : Nat → Bool} {os : Nat → Bool} {st : Bool} {go : Bool} {tp : Bool} {rd : Bool} {ow : Int32} {nu : Int32} {la : Int32} {so : Int32} {se : Int32} {sl : Int32} {sp : Int32} {pn : Int32} {gov : Bool} {wnv : Int32} {nuv : Int32} {hdSv : Bool} {hdTv : Bool} {taTv : Bool} {reTv : Bool} {hoTv : Bool} {b1Tv : Int32} {w1Tv : Int32} {n1Tv : Int32} {mew : Nat → Int32} {row : Nat → Int32} {how : Nat → Bool} {osw : Nat → Bool} {obw : Nat → Int32} {odw : Nat → Int32} {onw : Nat → Int32} {stw : Bool} {oww : Int32} {nuw : Int32} {gow : Bool} {tpw : Bool} {rdw : Bool} {r r2 : Int32}  (hR : RR n meC rgC ipC ouC hsC ctC tiC niC noC rtC rbC rwdC b1C w1C n1C rqC huC hdC taC reC hoC imC blC sgC srC wnC nuC mnC scC stC seC fpC znC goC spC pk pm pp ps pw im me ro di ob od on pg tm ts tr ki mo po sr ld up ho os st go tp rd ow nu la so se sl sp pn) (eG : F_G_takeOver wnC nuC goC scC (hdC (tN so)) (hdC (1 - tN so)) (taC (1 - tN so)) (reC (1 - tN so)) (hoC (1 - tN so)) (b1C (1 - tN so)) (w1C (1 - tN so)) (n1C (1 - tN so)) (rqC (1 - tN so)) (rbC (1 - tN so)) (rwdC (1 - tN so)) = (r, gov, wnv, nuv, hdSv, hdTv, taTv, reTv, hoTv, b1Tv, w1Tv, n1Tv)) (eM : F_M_takeOver me ro ho os ob od on tm tr st ow nu go so tp rd = (r2, mew, row, how, osw, obw, odw, onw, stw, oww, nuw, gow, tpw, rdw)) : r = r2 ∧ RR n meC rgC ipC ouC hsC ctC tiC niC noC rtC rbC rwdC (va_up b1C (1 - tN so) b1Tv) (va_up w1C (1 - tN so) w1Tv) (va_up n1C (1 - tN so) n1Tv) rqC huC (va_up (va_up hdC (tN so) hdSv) (1 - tN so) hdTv) (va_up taC (1 - tN so) taTv) (va_up reC (1 - tN so) reTv) (va_up hoC (1 - tN so) hoTv) imC blC sgC srC wnv nuv mnC scC stC seC fpC znC gov spC pk pm pp ps pw im mew row di obw odw onw pg tm ts tr ki mo po sr ld up how osw stw gow tpw rdw oww nuw la so se sl sp pn := by
  have hR0 := hR
  obtain ⟨h1, h2, h3, h4, h5, h6, h7, h8, h9, h10⟩ := hR
  have ⟨a1, a2, a3, a4, a5⟩ := h1
  have ⟨g1, g2, g3, g4, g5, g6, g7, g8, g9⟩ := h3
  unfold F_G_takeOver at eG
  unfold F_M_takeOver at eM
  have ⟨u1, u2, u3, u4, u5, u6, u7⟩ := h2 (tN so) g6.2
  by_cases hg : go = true
  · rw [if_pos (g1.trans hg)] at eG
    rw [if_pos hg] at eM
    by_cases q : ho (tN so) = true
    · rw [if_pos (u2.trans q)] at eG
      rw [if_pos q] at eM
      cases eG
      cases eM
      refine ⟨rfl, ?_⟩
      simp only [up_same]
      exact hR0
    · rw [if_neg (fun z => q (u2.symm.trans z))] at eG
      rw [if_neg q] at eM
      have hrd : rd = reC (1 - tN so) := h5.2.2.2.1
      by_cases w : rd = true
      · rw [if_pos (hrd.symm.trans w)] at eG
        rw [if_pos w] at eM
        rcases hG : F_G_handOver nuC scC (hoC (1 - tN so)) (b1C (1 - tN so)) (w1C (1 - tN so)) (n1C (1 - tN so)) (rqC (1 - tN so)) (rbC (1 - tN so)) (rwdC (1 - tN so)) with ⟨v1, v2, v3, v4, v5, v6, v7, v8, v9, v10, v11⟩
        rcases hM : F_M_handOver me ro ho os ob od on tm tr nu so with ⟨x1, x2, x3, x4, x5, x6, x7, x8, x9, x10, x11, x12, x13⟩
        rw [hG] at eG
        rw [hM] at eM
        cases eG
        cases eM
        exact ⟨rfl, S_handOver hR0 (h5.2.2.2.2.2.1 (hrd.symm.trans w)) (hrd.symm.trans w) hG hM⟩
      · rw [if_neg (fun z => w (hrd.trans z))] at eG
        rw [if_neg w] at eM
        cases eG
        cases eM
        refine ⟨rfl, ?_⟩
        simp only [up_same]
        exact hR0
  · rw [if_neg (fun z => hg (g1.symm.trans z))] at eG
    rw [if_neg hg] at eM
    cases eG
    cases eM
    refine ⟨rfl, ?_⟩
    simp only [up_same]
    exact hR0
theorem R7.keep2 {meC hsC : Nat → Nat → Int32} {rgC ipC ouC : Nat → Nat → Int32} {ctC tiC niC noC rtC : Nat → Int32} {rqC : Nat → Bool} {rbC rwdC : Nat → Int32} {taC reC taD reD : Nat → Bool} {so : Int32} {tm ts tr : Nat → Int32} (h : R7 meC hsC rgC ipC ouC ctC tiC niC noC rtC rqC rbC rwdC taC reC so tm ts tr) (E : taD (1 - tN so) = true → taC (1 - tN so) = true) (F : reD (1 - tN so) = true → reC (1 - tN so) = true) : R7 meC hsC rgC ipC ouC ctC tiC niC noC rtC rqC rbC rwdC taD reD so tm ts tr :=
  fun w => ⟨(h (E w)).1, (h (E w)).2.1, fun q => (h (E w)).2.2 (F q)⟩
set_option maxHeartbeats 4000000 in
set_option maxRecDepth 100000 in
theorem S_crash {n : Nat} {meC : Nat → Nat → Int32} {rgC : Nat → Nat → Int32} {ipC : Nat → Nat → Int32} {ouC : Nat → Nat → Int32} {hsC : Nat → Nat → Int32} {ctC : Nat → Int32} {tiC : Nat → Int32} {niC : Nat → Int32} {noC : Nat → Int32} {rtC : Nat → Int32} {rbC : Nat → Int32} {rwdC : Nat → Int32} {b1C : Nat → Int32} {w1C : Nat → Int32} {n1C : Nat → Int32} {rqC : Nat → Bool} {huC : Nat → Bool} {hdC : Nat → Bool} {taC : Nat → Bool} {reC : Nat → Bool} {hoC : Nat → Bool} {imC : Nat → Int32} {blC : Nat → Int32} {sgC : Nat → Int32} {srC : Nat → Int32} {wnC : Int32} {nuC : Int32} {mnC : Int32} {scC : Int32} {stC : Int32} {seC : Int32} {fpC : Int32} {znC : Int32} {goC : Bool} {spC : Bool} {pk : Nat → Int32} {pm : Nat → Int32} {pp : Nat → Int32} {ps : Nat → Int32} {pw : Nat → Nat → Int32} {im : Nat → Int32} {me : Nat → Int32} {ro : Nat → Int32} {di : Nat → Int32} {ob : Nat → Int32} {od : Nat → Int32} {on : Nat → Int32} {pg : Nat → Int32} {tm : Nat → Int32} {ts : Nat → Int32} {tr : Nat → Int32} {ki : Nat → Int32} {mo : Nat → Int32} {po : Nat → Int32} {sr : Nat → Int32} {ld : Nat → Int32} {up : Nat → Bool} {ho : Nat → Bool} {os : Nat → Bool} {st : Bool} {go : Bool} {tp : Bool} {rd : Bool} {ow : Int32} {nu : Int32} {la : Int32} {so : Int32} {se : Int32} {sl : Int32} {sp : Int32} {pn : Int32} {gov : Bool} {huAv : Bool} {hdAv : Bool} {hoAv : Bool} {taAv : Bool} {reAv : Bool} {taBv : Bool} {reBv : Bool} {upw : Nat → Bool} {how : Nat → Bool} {osw : Nat → Bool} {stw : Bool} {gow : Bool} {tpw : Bool} {rdw : Bool} {r r2 : Int32} {h : Nat} {host : Int32}  (hR : RR n meC rgC ipC ouC hsC ctC tiC niC noC rtC rbC rwdC b1C w1C n1C rqC huC hdC taC reC hoC imC blC sgC srC wnC nuC mnC scC stC seC fpC znC goC spC pk pm pp ps pw im me ro di ob od on pg tm ts tr ki mo po sr ld up ho os st go tp rd ow nu la so se sl sp pn) (hlt : h < 2) (hh : isN host 2 → tN host = h) (eG : F_G_crash goC scC (huC h) (hdC h) (taC h) (reC h) (hoC h) (hdC (1 - h)) (taC (1 - h)) (reC (1 - h)) host = (r, gov, huAv, hdAv, hoAv, taAv, reAv, taBv, reBv)) (eM : F_M_crash up ho os st go so tp rd host = (r2, upw, how, osw, stw, gow, tpw, rdw)) : r = r2 ∧ RR n meC rgC ipC ouC hsC ctC tiC niC noC rtC rbC rwdC b1C w1C n1C rqC (va_up huC h huAv) (va_up hdC h hdAv) (va_up (va_up taC h taAv) (1 - h) taBv) (va_up (va_up reC h reAv) (1 - h) reBv) (va_up hoC h hoAv) imC blC sgC srC wnC nuC mnC scC stC seC fpC znC gov spC pk pm pp ps pw im me ro di ob od on pg tm ts tr ki mo po sr ld upw how osw stw gow tpw rdw ow nu la so se sl sp pn := by
  have hR0 := hR
  obtain ⟨h1, h2, h3, h4, h5, h6, h7, h8, h9, h10⟩ := hR
  have ⟨a1, a2, a3, a4, a5⟩ := h1
  have ⟨g1, g2, g3, g4, g5, g6, g7, g8, g9⟩ := h3
  unfold F_G_crash at eG
  unfold F_M_crash at eM
  rcases host_of host with ⟨hn, hb, hc⟩ | ⟨hn, hb, hc⟩
  · rw [hb] at eG
    rw [hc] at eM
    cases eG
    cases eM
    refine ⟨rfl, ?_⟩
    simp only [up_same]
    exact hR0
  · rw [hb] at eG
    rw [hc] at eM
    obtain rfl := hh hn
    dsimp only at eG eM
    rw [if_neg one_ne] at eG eM
    have ⟨u1, u2, u3, u4, u5, u6, u7⟩ := h2 (tN host) hlt
    have hb := g6.2
    have htp : tp = taC (1 - tN so) := h5.2.2.1
    have hrd : rd = reC (1 - tN so) := h5.2.2.2.1
    by_cases q1 : up (tN host) = true
    · rw [if_pos (u1.trans q1)] at eG
      rw [if_pos q1] at eM
      have hR2 : R2 (va_up huC (tN host) false) (va_up hdC (tN host) false) (va_up hoC (tN host) false) b1C w1C n1C (va_up up (tN host) false) (va_up ho (tN host) false) (va_up os (tN host) false) ob od on := R2.upd (tN host) h2 (fun k hk => ⟨va_up_ne _ _ hk, va_up_ne _ _ hk, va_up_ne _ _ hk, rfl, rfl, rfl, va_up_ne _ _ hk, va_up_ne _ _ hk, va_up_ne _ _ hk, rfl, rfl, rfl⟩) ⟨(va_up_self _ _ _).trans (va_up_self _ _ _).symm, (va_up_self _ _ _).trans (va_up_self _ _ _).symm, (va_up_self _ _ _).trans (va_up_self _ _ _).symm, u4, u5, u6, u7⟩
      have hR6 : R6 meC rgC ipC ouC ctC tiC niC noC rtC rqC rbC rwdC me ro (va_up ho (tN host) false) := R6.upd (tN host) h6 (fun k hk => ⟨rfl, rfl, rfl, rfl, rfl, rfl, rfl, rfl, rfl, rfl, rfl, rfl⟩) (fun k j hk hj => rfl) (fun k j hk hj => rfl) h9 (fun k hk w => by rw [va_up_ne _ _ hk] at w; exact w) (fun w => absurd ((va_up_self _ _ _).symm.trans w) (by decide))
      have hof : ∀ k, va_up ho (tN host) false k = true → ho k = true := fun k w => by
        by_cases e : k = tN host
        · rw [e, va_up_self] at w
          exact absurd w (by decide)
        · rw [va_up_ne _ _ e] at w
          exact w
      have hoF : ∀ k, ho k = false → va_up ho (tN host) false k = false := fun k w => by
        by_cases e : k = tN host
        · rw [e, va_up_self]
        · rw [va_up_ne _ _ e]
          exact w
      have hR10 : R10 (va_up ho (tN host) false) := h10.sub hof
      have hc1 : ¬ go = true → tp = false := fun w => htp.trans (h5.2.2.2.2.1 w)
      have hc2 : rd = true → tp = true := fun w => htp.trans (h5.2.2.2.2.2.1 (hrd.symm.trans w))
      rw [g3] at eG
      by_cases e : tN so = tN host
      · rw [if_pos e] at eG
        have ef : (1 - tN host) = 1 - tN so := by rw [e]
        rw [ef] at eG ⊢
        have hS : va_up ho (tN host) false (tN so) = false := by rw [e, va_up_self]
        rw [hS, if_neg (by decide : ¬ false = true), if_pos (by rw [e] : nI (tN host) = nI (tN so))] at eM
        have hne : 1 - tN so ≠ tN host := by omega
        have hne2 : tN so ≠ 1 - tN so := by omega
        by_cases hg : go = true
        · rw [if_pos (g1.trans hg), if_neg (by decide)] at eG
          rw [if_pos hg] at eM
          by_cases w : rd = true
          · rw [if_pos (hrd.symm.trans w)] at eG
            rw [if_pos w] at eM
            cases eG
            cases eM
            have k3 : va_up (va_up taC (tN host) false) (1 - tN so) (taC (1 - tN so)) (1 - tN so) = tp := (va_up_self _ _ _).trans htp.symm
            have k4 : va_up (va_up reC (tN host) false) (1 - tN so) (reC (1 - tN so)) (1 - tN so) = rd := (va_up_self _ _ _).trans hrd.symm
            refine ⟨rfl, h1, hR2, h3, h4, R5.mk ?_ ?_ k3 k4 hc1 hc2 (fun w => hoF _ (h5.2.2.2.2.2.2.1 w)) (fun _ _ => w), hR6, h7.keep2 (fun z => (va_up_self _ _ _).symm.trans z) (fun z => (va_up_self _ _ _).symm.trans z), R8.keep h8 (fun _ _ z => absurd (hS.symm.trans z) (by decide)), h9, hR10⟩
            · rw [va_up_ne _ _ hne2, e, va_up_self]
            · rw [va_up_ne _ _ hne2, e, va_up_self]
          · rw [if_neg (fun z => w (hrd.trans z))] at eG
            rw [if_neg w] at eM
            cases eG
            cases eM
            refine ⟨rfl, h1, hR2, ⟨rfl, g2, g3, g4, g5, g6, rfl, g8, g9⟩, ⟨h4.1, h4.2.1, fun w => absurd w (by decide)⟩, R5.mk ?_ ?_ (va_up_self _ _ _) (va_up_self _ _ _) (fun _ => rfl) (fun z => z) (fun z => absurd z (by decide)) (fun z => absurd z (by decide)), hR6, fun z => absurd ((va_up_self _ _ _).symm.trans z) (by decide), h8.stop, h9, hR10⟩
            · rw [va_up_ne _ _ hne2, e, va_up_self]
            · rw [va_up_ne _ _ hne2, e, va_up_self]
        · rw [if_neg (fun z => hg (g1.symm.trans z))] at eG
          rw [if_neg hg] at eM
          cases eG
          cases eM
          have k3 : va_up (va_up taC (tN host) false) (1 - tN so) (taC (1 - tN so)) (1 - tN so) = tp := (va_up_self _ _ _).trans htp.symm
          have k4 : va_up (va_up reC (tN host) false) (1 - tN so) (reC (1 - tN so)) (1 - tN so) = rd := (va_up_self _ _ _).trans hrd.symm
          refine ⟨rfl, h1, hR2, h3, h4, R5.mk ?_ ?_ k3 k4 hc1 hc2 (fun w => absurd w hg) (fun w => absurd w hg), hR6, h7.keep2 (fun z => (va_up_self _ _ _).symm.trans z) (fun z => (va_up_self _ _ _).symm.trans z), R8.keep h8 (fun w => absurd w hg), h9, hR10⟩
          · rw [va_up_ne _ _ hne2, e, va_up_self]
          · rw [va_up_ne _ _ hne2, e, va_up_self]
      · rw [if_neg e] at eG
        have hne : tN so ≠ tN host := e
        have eT : 1 - tN so = tN host := by omega
        have eB : 1 - tN host = tN so := by omega
        have hS : va_up ho (tN host) false (tN so) = ho (tN so) := va_up_ne _ _ e
        have hni : ¬ nI (tN host) = nI (tN so) := fun z => e (by
          have := congrArg tN z
          rw [tN_nI (by omega), tN_nI (by omega)] at this
          exact this.symm)
        rw [eB] at eG ⊢
        rw [hS, if_neg hni, if_neg (by decide : ¬ false = true)] at eM
        have uS := (h2 (tN so) g6.2).2.1
        have k1 : va_up (va_up taC (tN host) false) (tN so) (taC (tN so)) (tN so) = false := (va_up_self _ _ _).trans h5.1
        have k2 : va_up (va_up reC (tN host) false) (tN so) (reC (tN so)) (tN so) = false := (va_up_self _ _ _).trans h5.2.1
        have k3 : va_up (va_up taC (tN host) false) (tN so) (taC (tN so)) (1 - tN so) = false := by
          rw [va_up_ne _ _ (by omega), eT, va_up_self]
        have k4 : va_up (va_up reC (tN host) false) (tN so) (reC (tN so)) (1 - tN so) = false := by
          rw [va_up_ne _ _ (by omega), eT, va_up_self]
        by_cases hg : go = true
        · rw [if_pos (g1.trans hg)] at eG
          rw [if_pos hg] at eM
          by_cases w : ho (tN so) = true
          · rw [if_pos (uS.trans w)] at eG
            rw [if_pos w] at eM
            cases eG
            cases eM
            exact ⟨rfl, h1, hR2, h3, h4, R5.mk k1 k2 k3 k4 (fun _ => rfl) (fun z => z) (fun z => hoF _ (h5.2.2.2.2.2.2.1 z)) (fun _ z => absurd (z.symm.trans (hS.trans w)) (by decide)), hR6, fun z => absurd (k3.symm.trans z) (by decide), R8.keep h8 (fun _ _ z => ⟨w, ⟨rfl, rfl, rfl, rfl, rfl, rfl, rfl, rfl, rfl, rfl, rfl⟩⟩), h9, hR10⟩
          · rw [if_neg (fun z => w (uS.symm.trans z)), if_neg (by decide)] at eG
            rw [if_neg w] at eM
            cases eG
            cases eM
            exact ⟨rfl, h1, hR2, ⟨rfl, g2, g3, g4, g5, g6, rfl, g8, g9⟩, ⟨h4.1, h4.2.1, fun w => absurd w (by decide)⟩, R5.mk k1 k2 k3 k4 (fun _ => rfl) (fun z => z) (fun z => absurd z (by decide)) (fun z => absurd z (by decide)), hR6, fun z => absurd (k3.symm.trans z) (by decide), h8.stop, h9, hR10⟩
        · rw [if_neg (fun z => hg (g1.symm.trans z))] at eG
          rw [if_neg hg] at eM
          cases eG
          cases eM
          have p0 := hc1 hg
          have r0 : rd = false := by
            cases y : rd with
            | false => rfl
            | true => exact absurd ((hc2 y).symm.trans p0) (by decide)
          exact ⟨rfl, h1, hR2, h3, h4, R5.mk k1 k2 (k3.trans p0.symm) (k4.trans r0.symm) hc1 hc2 (fun z => absurd z hg) (fun z => absurd z hg), hR6, fun z => absurd (k3.symm.trans z) (by decide), R8.keep h8 (fun z => absurd z hg), h9, hR10⟩
    · rw [if_neg (fun z => q1 (u1.symm.trans z))] at eG
      rw [if_neg q1] at eM
      cases eG
      cases eM
      refine ⟨rfl, ?_⟩
      simp only [up_same]
      exact hR0
set_option maxHeartbeats 4000000 in
set_option maxRecDepth 100000 in
theorem S_move {n : Nat} {meC : Nat → Nat → Int32} {rgC : Nat → Nat → Int32} {ipC : Nat → Nat → Int32} {ouC : Nat → Nat → Int32} {hsC : Nat → Nat → Int32} {ctC : Nat → Int32} {tiC : Nat → Int32} {niC : Nat → Int32} {noC : Nat → Int32} {rtC : Nat → Int32} {rbC : Nat → Int32} {rwdC : Nat → Int32} {b1C : Nat → Int32} {w1C : Nat → Int32} {n1C : Nat → Int32} {rqC : Nat → Bool} {huC : Nat → Bool} {hdC : Nat → Bool} {taC : Nat → Bool} {reC : Nat → Bool} {hoC : Nat → Bool} {imC : Nat → Int32} {blC : Nat → Int32} {sgC : Nat → Int32} {srC : Nat → Int32} {wnC : Int32} {nuC : Int32} {mnC : Int32} {scC : Int32} {stC : Int32} {seC : Int32} {fpC : Int32} {znC : Int32} {goC : Bool} {spC : Bool} {pk : Nat → Int32} {pm : Nat → Int32} {pp : Nat → Int32} {ps : Nat → Int32} {pw : Nat → Nat → Int32} {im : Nat → Int32} {me : Nat → Int32} {ro : Nat → Int32} {di : Nat → Int32} {ob : Nat → Int32} {od : Nat → Int32} {on : Nat → Int32} {pg : Nat → Int32} {tm : Nat → Int32} {ts : Nat → Int32} {tr : Nat → Int32} {ki : Nat → Int32} {mo : Nat → Int32} {po : Nat → Int32} {sr : Nat → Int32} {ld : Nat → Int32} {up : Nat → Bool} {ho : Nat → Bool} {os : Nat → Bool} {st : Bool} {go : Bool} {tp : Bool} {rd : Bool} {ow : Int32} {nu : Int32} {la : Int32} {so : Int32} {se : Int32} {sl : Int32} {sp : Int32} {pn : Int32} {sgv : Nat → Int32} {gov : Bool} {spv : Bool} {mnv : Int32} {scv : Int32} {stv : Int32} {sev : Int32} {fpv : Int32} {meBv : Nat → Int32} {rgBv : Nat → Int32} {ctBv : Int32} {tiBv : Int32} {niBv : Int32} {noBv : Int32} {rtBv : Int32} {rqBv : Bool} {hsBv : Nat → Int32} {taBv : Bool} {pgw : Nat → Int32} {tmw : Nat → Int32} {tsw : Nat → Int32} {gow : Bool} {law : Int32} {sow : Int32} {sew : Int32} {slw : Int32} {spw : Int32} {tpw : Bool} {rdw : Bool} {r r2 : Int32} {h : Nat} (hR : RR n meC rgC ipC ouC hsC ctC tiC niC noC rtC rbC rwdC b1C w1C n1C rqC huC hdC taC reC hoC imC blC sgC srC wnC nuC mnC scC stC seC fpC znC goC spC pk pm pp ps pw im me ro di ob od on pg tm ts tr ki mo po sr ld up ho os st go tp rd ow nu la so se sl sp pn) (hlt : h < 2) (hh : isN ow 2 → tN ow = h) (hn : n < 100000) (eG : F_G_move wnC goC spC mnC scC stC seC fpC sgC (huC h) (hdC h) (huC (1 - h)) (taC (1 - h)) (hsC (1 - h)) (ctC (1 - h)) (tiC (1 - h)) (niC (1 - h)) (noC (1 - h)) (rtC (1 - h)) (rqC (1 - h)) (meC (1 - h)) (rgC (1 - h)) = (r, sgv, gov, spv, mnv, scv, stv, sev, fpv, meBv, rgBv, ctBv, tiBv, niBv, noBv, rtBv, rqBv, hsBv, taBv)) (eM : F_M_move up ho pg tm ts st ow go la so se sl sp tp rd = (r2, pgw, tmw, tsw, gow, law, sow, sew, slw, spw, tpw, rdw)) : r = r2 ∧ RR (n + 1) (va_up meC (1 - h) meBv) (va_up rgC (1 - h) rgBv) ipC ouC (va_up hsC (1 - h) hsBv) (va_up ctC (1 - h) ctBv) (va_up tiC (1 - h) tiBv) (va_up niC (1 - h) niBv) (va_up noC (1 - h) noBv) (va_up rtC (1 - h) rtBv) rbC rwdC b1C w1C n1C (va_up rqC (1 - h) rqBv) huC hdC (va_up taC (1 - h) taBv) reC hoC imC blC sgv srC wnC nuC mnv scv stv sev fpv znC gov spv pk pm pp ps pw im me ro di ob od on pgw tmw tsw tr ki mo po sr ld up ho os st gow tpw rdw ow nu law sow sew slw spw pn := by
  have hR0 := hR
  obtain ⟨h1, h2, h3, h4, h5, h6, h7, h8, h9, h10⟩ := hR
  have ⟨a1, a2, a3, a4, a5⟩ := h1
  have ⟨g1, g2, g3, g4, g5, g6, g7, g8, g9⟩ := h3
  unfold F_G_move at eG
  unfold F_M_move at eM
  rw [a3] at eG
  by_cases hg : go = true
  · rw [if_pos (g1.trans hg)] at eG
    rw [if_pos hg] at eM
    cases eG
    cases eM
    refine ⟨rfl, ?_⟩
    simp only [up_same]
    exact hR0.mono (by omega)
  · rw [if_neg (fun z => hg (g1.symm.trans z))] at eG
    rw [if_neg hg] at eM
    rcases a5 with q | hw
    · rw [if_pos q] at eG eM
      cases eG
      cases eM
      refine ⟨rfl, ?_⟩
      simp only [up_same]
      exact hR0.mono (by omega)
    · obtain rfl := hh hw
      have ⟨u1, u2, u3, u4, u5, u6, u7⟩ := h2 (tN ow) hlt
      have ⟨v1, v2, v3, v4, v5, v6, v7⟩ := h2 (1 - tN ow) (by omega)
      rw [if_neg (isN_ne hw (by decide)).2, runs_eq (st := st) rfl u1 u2 (by rw [g1]; exact g7)] at eG
      rw [if_neg (isN_ne hw (by decide)).2] at eM
      rcases hr : F_M_runs up ho st ow (tN ow) with ⟨q, u⟩
      rw [hr] at eG eM
      dsimp only at eG eM
      by_cases q0 : q = 0
      · rw [if_pos q0] at eG eM
        cases eG
        cases eM
        refine ⟨rfl, ?_⟩
        simp only [up_same]
        exact hR0.mono (by omega)
      · rw [if_neg q0] at eG eM
        by_cases z : up (1 - tN ow) = true
        · rw [if_pos (v1.trans z)] at eG
          rw [if_pos z] at eM
          cases eG
          cases eM
          have hho := runs_ho hr q0
          have hoB := h10.other hlt hho
          have g8b := g8.2
          have en : la + 1 = nI (tN la + 1) := by rw [g8.1, tN_nI (by omega)]; exact nI_1 _
          have et : tN (nI (tN ow)) = tN ow := tN_nI (by omega)
          have ta0 : ∀ k, k < 2 → taC k = false := fun k hk => by
            by_cases e : k = tN so
            · rw [e]
              exact h5.1
            · have : k = 1 - tN so := by have := g6.2; omega
              rw [this]
              exact h5.2.2.2.2.1 hg
          have re0 : ∀ k, k < 2 → reC k = false := fun k hk => by
            cases y : reC k with
            | false => rfl
            | true =>
              by_cases e : k = tN so
              · rw [e, h5.2.1] at y
                exact absurd y (by decide)
              · have : k = 1 - tN so := by have := g6.2; omega
                rw [this] at y
                have := h5.2.2.2.2.2.1 y
                rw [ta0 _ (by omega)] at this
                exact absurd this (by decide)
          refine ⟨by rw [g2], h1, h2, ⟨rfl, by rw [g2], rfl, rfl, rfl, isN_nI hlt (by decide), by rw [g7, bo hg]; rfl, by rw [en]; exact isN_nI (by omega) (by omega), ⟨rfl, Nat.succ_pos _⟩⟩, ⟨⟨rfl, by decide⟩, ⟨rfl, by decide⟩, fun _ => ⟨by decide, fun p hp => Or.inl ⟨cpy_00 hp, cpy_00 hp⟩⟩⟩, R5.mk ?_ ?_ ?_ ?_ (fun w => absurd rfl w) (fun w => absurd w (by decide)) (fun _ => by rw [et]; exact hoB) (fun _ w => by rw [et, hho] at w; exact absurd w (by decide)), ?_, ?_, ?_, fun k hk => ?_, h10⟩
          · rw [et, va_up_ne _ _ (by omega)]
            exact ta0 _ hlt
          · rw [et]
            exact re0 _ hlt
          · rw [et, va_up_self]
          · rw [et]
            exact re0 _ (by omega)
          · exact R6.upd (1 - tN ow) h6 (fun k hk => ⟨va_up_ne _ _ hk, va_up_ne _ _ hk, rfl, rfl, va_up_ne _ _ hk, va_up_ne _ _ hk, va_up_ne _ _ hk, va_up_ne _ _ hk, va_up_ne _ _ hk, va_up_ne _ _ hk, rfl, rfl⟩) (fun k j hk hj => rfl) (fun k j hk hj => rfl) h9 (fun k hk w => w) (fun w => by rw [hoB] at w; exact absurd w (by decide))
          · intro w
            rw [et]
            refine ⟨fun j hj => ?_, fun p hp => ?_, fun y => ?_⟩
            · rw [va_up_self, cpy_00 hj, cpy_00 hj]
            · rw [va_up_self, cpy_00 hp, cpy_00 hp]
            · rw [re0 _ (by omega)] at y
              exact absurd y (by decide)
          · refine ⟨h8.1, h8.2.1, fun j hj => ?_⟩
            obtain ⟨b1, b2, b3, b4, b5, b6, b7, b8, b9, b10⟩ := h8.2.2 j hj
            have b6b := b6.2
            refine ⟨b1, b2, b3, b4, b5, ⟨b6.1, by rw [en, tN_nI (by omega)]; omega⟩, b7, b8, b9, fun _ _ y => ?_⟩
            rw [y, en, tN_nI (by omega)] at b6b
            omega
          · by_cases w : k = 1 - tN ow
            · rw [w, va_up_self, va_up_self, va_up_self]
              exact ⟨⟨rfl, by decide⟩, ⟨rfl, by decide⟩, ⟨rfl, by decide⟩⟩
            · rw [va_up_ne _ _ w, va_up_ne _ _ w, va_up_ne _ _ w]
              exact h9 k hk
        · rw [if_neg (fun y => z (v1.symm.trans y))] at eG
          rw [if_neg z] at eM
          cases eG
          cases eM
          refine ⟨rfl, ?_⟩
          simp only [up_same]
          exact hR0.mono (by omega)
