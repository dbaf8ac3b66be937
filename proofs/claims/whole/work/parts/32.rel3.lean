/-- all of it -/
def RR (n : Nat) (meC : Nat → Nat → Int32) (rgC : Nat → Nat → Int32) (ipC : Nat → Nat → Int32) (ouC : Nat → Nat → Int32) (hsC : Nat → Nat → Int32) (ctC : Nat → Int32) (tiC : Nat → Int32) (niC : Nat → Int32) (noC : Nat → Int32) (rtC : Nat → Int32) (rbC : Nat → Int32) (rwdC : Nat → Int32) (b1C : Nat → Int32) (w1C : Nat → Int32) (n1C : Nat → Int32) (rqC : Nat → Bool) (huC : Nat → Bool) (hdC : Nat → Bool) (taC : Nat → Bool) (reC : Nat → Bool) (hoC : Nat → Bool) (imC : Nat → Int32) (blC : Nat → Int32) (sgC : Nat → Int32) (srC : Nat → Int32) (wnC : Int32) (nuC : Int32) (mnC : Int32) (scC : Int32) (stC : Int32) (seC : Int32) (fpC : Int32) (znC : Int32) (goC : Bool) (spC : Bool) (pk : Nat → Int32) (pm : Nat → Int32) (pp : Nat → Int32) (ps : Nat → Int32) (pw : Nat → Nat → Int32) (im : Nat → Int32) (me : Nat → Int32) (ro : Nat → Int32) (di : Nat → Int32) (ob : Nat → Int32) (od : Nat → Int32) (on : Nat → Int32) (pg : Nat → Int32) (tm : Nat → Int32) (ts : Nat → Int32) (tr : Nat → Int32) (ki : Nat → Int32) (mo : Nat → Int32) (po : Nat → Int32) (sr : Nat → Int32) (ld : Nat → Int32) (up : Nat → Bool) (ho : Nat → Bool) (os : Nat → Bool) (st : Bool) (go : Bool) (tp : Bool) (rd : Bool) (ow : Int32) (nu : Int32) (la : Int32) (so : Int32) (se : Int32) (sl : Int32) (sp : Int32) (pn : Int32) : Prop :=
  R1 imC blC wnC nuC im di ow nu ∧ R2 huC hdC hoC b1C w1C n1C up ho os ob od on ∧ R3 n goC spC mnC scC stC seC st go la so se sp ∧ R4 sgC srC fpC pg go sl ∧ R5 taC reC ho go so tp rd ∧ R6 meC rgC ipC ouC ctC tiC niC noC rtC rqC rbC rwdC me ro ho ∧ R7 meC hsC rgC ipC ouC ctC tiC niC noC rtC rqC rbC rwdC taC reC so tm ts tr ∧ R8 znC pk pm pp ps pw spC rgC ipC ouC ctC tiC niC noC rtC rqC rbC rwdC ho go la so pn ki mo po sr ld ∧ R9 ctC niC noC  ∧ R10  ho
theorem RR.mono {n n2 : Nat} {meC : Nat → Nat → Int32} {rgC : Nat → Nat → Int32} {ipC : Nat → Nat → Int32} {ouC : Nat → Nat → Int32} {hsC : Nat → Nat → Int32} {ctC : Nat → Int32} {tiC : Nat → Int32} {niC : Nat → Int32} {noC : Nat → Int32} {rtC : Nat → Int32} {rbC : Nat → Int32} {rwdC : Nat → Int32} {b1C : Nat → Int32} {w1C : Nat → Int32} {n1C : Nat → Int32} {rqC : Nat → Bool} {huC : Nat → Bool} {hdC : Nat → Bool} {taC : Nat → Bool} {reC : Nat → Bool} {hoC : Nat → Bool} {imC : Nat → Int32} {blC : Nat → Int32} {sgC : Nat → Int32} {srC : Nat → Int32} {wnC : Int32} {nuC : Int32} {mnC : Int32} {scC : Int32} {stC : Int32} {seC : Int32} {fpC : Int32} {znC : Int32} {goC : Bool} {spC : Bool} {pk : Nat → Int32} {pm : Nat → Int32} {pp : Nat → Int32} {ps : Nat → Int32} {pw : Nat → Nat → Int32} {im : Nat → Int32} {me : Nat → Int32} {ro : Nat → Int32} {di : Nat → Int32} {ob : Nat → Int32} {od : Nat → Int32} {on : Nat → Int32} {pg : Nat → Int32} {tm : Nat → Int32} {ts : Nat → Int32} {tr : Nat → Int32} {ki : Nat → Int32} {mo : Nat → Int32} {po : Nat → Int32} {sr : Nat → Int32} {ld : Nat → Int32} {up : Nat → Bool} {ho : Nat → Bool} {os : Nat → Bool} {st : Bool} {go : Bool} {tp : Bool} {rd : Bool} {ow : Int32} {nu : Int32} {la : Int32} {so : Int32} {se : Int32} {sl : Int32} {sp : Int32} {pn : Int32} (h : RR n meC rgC ipC ouC hsC ctC tiC niC noC rtC rbC rwdC b1C w1C n1C rqC huC hdC taC reC hoC imC blC sgC srC wnC nuC mnC scC stC seC fpC znC goC spC pk pm pp ps pw im me ro di ob od on pg tm ts tr ki mo po sr ld up ho os st go tp rd ow nu la so se sl sp pn) (hn : n ≤ n2) : RR n2 meC rgC ipC ouC hsC ctC tiC niC noC rtC rbC rwdC b1C w1C n1C rqC huC hdC taC reC hoC imC blC sgC srC wnC nuC mnC scC stC seC fpC znC goC spC pk pm pp ps pw im me ro di ob od on pg tm ts tr ki mo po sr ld up ho os st go tp rd ow nu la so se sl sp pn := by
  obtain ⟨h1, h2, ⟨a1, a2, a3, a4, a5, a6, a7, a8, a9⟩, h4, h5, h6, h7, h8, h9, h10⟩ := h
  exact ⟨h1, h2, ⟨a1, a2, a3, a4, a5, a6, a7, ⟨a8.1, by have := a8.2; omega⟩, ⟨a9.1, by have := a9.2; omega⟩⟩, h4, h5, h6, h7, h8, h9, h10⟩
theorem runs_eq {wn ow : Int32} {go sp st hu hd : Bool} {up ho : Nat → Bool} {h : Nat} (h1 : wn = ow) (h2 : hu = up h) (h3 : hd = ho h) (h4 : st = (go && sp)) : F_G_runsGuest wn go sp hu hd h = F_M_runs up ho st ow h := by
  subst h1
  subst h2
  subst h3
  subst h4
  unfold F_G_runsGuest F_M_runs F_G_holdsStopped
  by_cases a : up h = true
  · rw [if_pos a, if_pos a]
    by_cases b : ho h = true
    · rw [if_pos b, if_pos b]
      by_cases c : wn = nI h
      · rw [if_pos c, if_pos c, if_pos b]
        cases go <;> cases sp <;> rfl
      · rw [if_neg c, if_neg c]
        first | rfl | (split <;> rfl)
    · rw [if_neg b, if_neg b]
  · rw [if_neg a, if_neg a]
theorem runs_not {up ho : Nat → Bool} {st : Bool} {ow r : Int32} {h : Nat} {u : Unit} (e : F_M_runs up ho st ow h = (r, u)) (hr : ¬ r = 0) : st = false ∧ up h = true ∧ ow = nI h := by
  unfold F_M_runs at e
  by_cases a : up h = true
  · rw [if_pos a] at e
    by_cases b : ho h = true
    · rw [if_pos b] at e
      by_cases c : ow = nI h
      · rw [if_pos c] at e
        by_cases d : st = true
        · rw [if_pos d] at e
          cases e
          exact absurd rfl hr
        · exact ⟨bo d, a, c⟩
      · rw [if_neg c] at e
        cases e
        exact absurd rfl hr
    · rw [if_neg b] at e
      cases e
      exact absurd rfl hr
  · rw [if_neg a] at e
    cases e
    exact absurd rfl hr
theorem R6.upd {meC meD : Nat → Nat → Int32} {rgC ipC ouC : Nat → Nat → Int32} {ctC tiC niC noC rtC : Nat → Int32} {rqC : Nat → Bool} {rbC rwdC : Nat → Int32} {rgD ipD ouD : Nat → Nat → Int32} {ctD tiD niD noD rtD : Nat → Int32} {rqD : Nat → Bool} {rbD rwdD : Nat → Int32} {me ro me2 ro2 : Nat → Int32} {ho ho2 : Nat → Bool} (a : Nat) (h : R6 meC rgC ipC ouC ctC tiC niC noC rtC rqC rbC rwdC me ro ho) (E : ∀ k, k ≠ a → meD k = meC k ∧ rgD k = rgC k ∧ ipD k = ipC k ∧ ouD k = ouC k ∧ ctD k = ctC k ∧ tiD k = tiC k ∧ niD k = niC k ∧ noD k = noC k ∧ rtD k = rtC k ∧ rqD k = rqC k ∧ rbD k = rbC k ∧ rwdD k = rwdC k) (hm : ∀ k j, k ≠ a → j < 64 → me2 (64 * k + j) = me (64 * k + j)) (hr : ∀ k j, k ≠ a → j < 60 → ro2 (60 * k + j) = ro (60 * k + j)) (hb : R9 ctC niC noC) (hh : ∀ k, k ≠ a → ho2 k = true → ho k = true) (hn : ho2 a = true → (∀ j, j < 64 → meD a j = me2 (64 * a + j)) ∧ MX rgD ipD ouD ctD tiD niD noD rtD rqD rbD rwdD a (fun k => ro2 (60 * a + k))) : R6 meD rgD ipD ouD ctD tiD niD noD rtD rqD rbD rwdD me2 ro2 ho2 := by
  intro k hk hq
  by_cases e : k = a
  · subst e
    exact hn hq
  · obtain ⟨h1, h2, h3, h4⟩ := h k hk (hh k e hq)
    obtain ⟨g0, g1, g2, g3, g4, g5, g6, g7, g8, g9, g10, g11⟩ := E k e
    obtain ⟨n1, n2, n3⟩ := hb k hk
    refine ⟨fun j hj => ?_, ?_, ?_, ?_⟩
    · rw [g0, hm k j e hj]
      exact h1 j hj
    · rw [g1, g2, g3, g5, g6, g7, g9, g10, g11]
      exact MS0.frame h2 n2 n3 (fun j hj _ => hr k j e (by omega))
    · rw [g4]
      exact h3.trans (hr k 4 e (by omega)).symm
    · rw [g8]
      exact h4.trans (hr k 59 e (by omega)).symm
theorem MX.at {rgC ipC ouC : Nat → Nat → Int32} {ctC tiC niC noC rtC : Nat → Int32} {rqC : Nat → Bool} {rbC rwdC : Nat → Int32} {rgD ipD ouD : Nat → Nat → Int32} {ctD tiD niD noD rtD : Nat → Int32} {rqD : Nat → Bool} {rbD rwdD : Nat → Int32} {k : Nat} {q : Nat → Int32} (h : MX rgC ipC ouC ctC tiC niC noC rtC rqC rbC rwdC k q) (E : rgD k = rgC k ∧ ipD k = ipC k ∧ ouD k = ouC k ∧ ctD k = ctC k ∧ tiD k = tiC k ∧ niD k = niC k ∧ noD k = noC k ∧ rtD k = rtC k ∧ rqD k = rqC k ∧ rbD k = rbC k ∧ rwdD k = rwdC k) : MX rgD ipD ouD ctD tiD niD noD rtD rqD rbD rwdD k q := by
  obtain ⟨g1, g2, g3, g4, g5, g6, g7, g8, g9, g10, g11⟩ := E
  unfold MX
  rw [g1, g2, g3, g4, g5, g6, g7, g8, g9, g10, g11]
  exact h
theorem R7.keep {meC hsC meD hsD : Nat → Nat → Int32} {rgC ipC ouC : Nat → Nat → Int32} {ctC tiC niC noC rtC : Nat → Int32} {rqC : Nat → Bool} {rbC rwdC : Nat → Int32} {rgD ipD ouD : Nat → Nat → Int32} {ctD tiD niD noD rtD : Nat → Int32} {rqD : Nat → Bool} {rbD rwdD : Nat → Int32} {taC reC : Nat → Bool} {so : Int32} {tm ts tr : Nat → Int32} (h : R7 meC hsC rgC ipC ouC ctC tiC niC noC rtC rqC rbC rwdC taC reC so tm ts tr) (E : taC (1 - tN so) = true → meD (1 - tN so) = meC (1 - tN so) ∧ hsD (1 - tN so) = hsC (1 - tN so) ∧ (rgD (1 - tN so) = rgC (1 - tN so) ∧ ipD (1 - tN so) = ipC (1 - tN so) ∧ ouD (1 - tN so) = ouC (1 - tN so) ∧ ctD (1 - tN so) = ctC (1 - tN so) ∧ tiD (1 - tN so) = tiC (1 - tN so) ∧ niD (1 - tN so) = niC (1 - tN so) ∧ noD (1 - tN so) = noC (1 - tN so) ∧ rtD (1 - tN so) = rtC (1 - tN so) ∧ rqD (1 - tN so) = rqC (1 - tN so) ∧ rbD (1 - tN so) = rbC (1 - tN so) ∧ rwdD (1 - tN so) = rwdC (1 - tN so))) : R7 meD hsD rgD ipD ouD ctD tiD niD noD rtD rqD rbD rwdD taC reC so tm ts tr := by
  intro ht
  obtain ⟨e1, e2, e3⟩ := E ht
  obtain ⟨h1, h2, h3⟩ := h ht
  rw [e1, e2]
  exact ⟨h1, h2, fun q => (h3 q).at e3⟩
theorem R8.keep {znC : Int32} {pk pm pp ps : Nat → Int32} {pw : Nat → Nat → Int32} {spC : Bool} {rgC ipC ouC : Nat → Nat → Int32} {ctC tiC niC noC rtC : Nat → Int32} {rqC : Nat → Bool} {rbC rwdC : Nat → Int32} {rgD ipD ouD : Nat → Nat → Int32} {ctD tiD niD noD rtD : Nat → Int32} {rqD : Nat → Bool} {rbD rwdD : Nat → Int32} {ho ho2 : Nat → Bool} {go : Bool} {la so pn : Int32} {ki mo po sr ld : Nat → Int32} (h : R8 znC pk pm pp ps pw spC rgC ipC ouC ctC tiC niC noC rtC rqC rbC rwdC ho go la so pn ki mo po sr ld) (E : go = true → spC = true → ho2 (tN so) = true → ho (tN so) = true ∧ (rgD (tN so) = rgC (tN so) ∧ ipD (tN so) = ipC (tN so) ∧ ouD (tN so) = ouC (tN so) ∧ ctD (tN so) = ctC (tN so) ∧ tiD (tN so) = tiC (tN so) ∧ niD (tN so) = niC (tN so) ∧ noD (tN so) = noC (tN so) ∧ rtD (tN so) = rtC (tN so) ∧ rqD (tN so) = rqC (tN so) ∧ rbD (tN so) = rbC (tN so) ∧ rwdD (tN so) = rwdC (tN so))) : R8 znC pk pm pp ps pw spC rgD ipD ouD ctD tiD niD noD rtD rqD rbD rwdD ho2 go la so pn ki mo po sr ld := by
  refine ⟨h.1, h.2.1, fun j hj => ?_⟩
  obtain ⟨a1, a2, a3, a4, a5, a6, a7, a8, a9, a10⟩ := h.2.2 j hj
  refine ⟨a1, a2, a3, a4, a5, a6, a7, a8, a9, fun k2 hg hm => ?_⟩
  obtain ⟨b1, b2⟩ := a10 k2 hg hm
  refine ⟨b1, fun hq => ?_⟩
  obtain ⟨c1, c2⟩ := E hg b1 hq
  exact (b2 c1).at c2
set_option maxHeartbeats 4000000 in
set_option maxRecDepth 100000 in
theorem S_input {n : Nat} {meC : Nat → Nat → Int32} {rgC : Nat → Nat → Int32} {ipC : Nat → Nat → Int32} {ouC : Nat → Nat → Int32} {hsC : Nat → Nat → Int32} {ctC : Nat → Int32} {tiC : Nat → Int32} {niC : Nat → Int32} {noC : Nat → Int32} {rtC : Nat → Int32} {rbC : Nat → Int32} {rwdC : Nat → Int32} {b1C : Nat → Int32} {w1C : Nat → Int32} {n1C : Nat → Int32} {rqC : Nat → Bool} {huC : Nat → Bool} {hdC : Nat → Bool} {taC : Nat → Bool} {reC : Nat → Bool} {hoC : Nat → Bool} {imC : Nat → Int32} {blC : Nat → Int32} {sgC : Nat → Int32} {srC : Nat → Int32} {wnC : Int32} {nuC : Int32} {mnC : Int32} {scC : Int32} {stC : Int32} {seC : Int32} {fpC : Int32} {znC : Int32} {goC : Bool} {spC : Bool} {pk : Nat → Int32} {pm : Nat → Int32} {pp : Nat → Int32} {ps : Nat → Int32} {pw : Nat → Nat → Int32} {im : Nat → Int32} {me : Nat → Int32} {ro : Nat → Int32} {di : Nat → Int32} {ob : Nat → Int32} {od : Nat → Int32} {on : Nat → Int32} {pg : Nat → Int32} {tm : Nat → Int32} {ts : Nat → Int32} {tr : Nat → Int32} {ki : Nat → Int32} {mo : Nat → Int32} {po : Nat → Int32} {sr : Nat → Int32} {ld : Nat → Int32} {up : Nat → Bool} {ho : Nat → Bool} {os : Nat → Bool} {st : Bool} {go : Bool} {tp : Bool} {rd : Bool} {ow : Int32} {nu : Int32} {la : Int32} {so : Int32} {se : Int32} {sl : Int32} {sp : Int32} {pn : Int32} {ipAv : Nat → Int32} {niAv : Int32} {row : Nat → Int32} {r r2 : Int32} {h : Nat} {host : Int32} {x : Int32} (hR : RR n meC rgC ipC ouC hsC ctC tiC niC noC rtC rbC rwdC b1C w1C n1C rqC huC hdC taC reC hoC imC blC sgC srC wnC nuC mnC scC stC seC fpC znC goC spC pk pm pp ps pw im me ro di ob od on pg tm ts tr ki mo po sr ld up ho os st go tp rd ow nu la so se sl sp pn) (hlt : h < 2) (hh : isN host 2 → tN host = h) (eG : F_G_input wnC goC spC (huC h) (hdC h) (niC h) (ipC h) host x = (r, ipAv, niAv)) (eM : F_M_input ro up ho st ow host x = (r2, row)) : r = r2 ∧ RR n meC rgC (va_up ipC h ipAv) ouC hsC ctC tiC (va_up niC h niAv) noC rtC rbC rwdC b1C w1C n1C rqC huC hdC taC reC hoC imC blC sgC srC wnC nuC mnC scC stC seC fpC znC goC spC pk pm pp ps pw im me row di ob od on pg tm ts tr ki mo po sr ld up ho os st go tp rd ow nu la so se sl sp pn := by
  obtain ⟨h1, h2, h3, h4, h5, h6, h7, h8, h9, h10⟩ := hR
  obtain ⟨a1, a2, a3, a4, a5⟩ := h1
  obtain ⟨g1, g2, g3, g4, g5, g6, g7, g8, g9⟩ := h3
  obtain ⟨u1, u2, u3, u4, u5, u6, u7⟩ := h2 h hlt
  obtain ⟨n1, n2, n3⟩ := h9 h hlt
  unfold F_G_input at eG
  unfold F_M_input at eM
  rcases host_of host with ⟨hn, hb, hc⟩ | ⟨hn, hb, hc⟩
  · rw [hb] at eG
    rw [hc] at eM
    cases eG
    cases eM
    rw [up_same, up_same]
    exact ⟨rfl, ⟨a1, a2, a3, a4, a5⟩, h2, ⟨g1, g2, g3, g4, g5, g6, g7, g8, g9⟩, h4, h5, h6, h7, h8, h9, h10⟩
  · rw [hb] at eG
    rw [hc] at eM
    obtain rfl := hh hn
    dsimp only at eG eM
    rw [if_neg one_ne, runs_eq (st := st) a3 u1 u2 (by rw [g1]; exact g7)] at eG
    rw [if_neg one_ne] at eM
    rcases hr : F_M_runs up ho st ow (tN host) with ⟨q, u⟩
    rw [hr] at eG eM
    dsimp only at eG eM
    by_cases q0 : q = 0
    · rw [if_pos q0] at eG eM
      cases eG
      cases eM
      rw [up_same, up_same]
      exact ⟨rfl, ⟨a1, a2, a3, a4, a5⟩, h2, ⟨g1, g2, g3, g4, g5, g6, g7, g8, g9⟩, h4, h5, h6, h7, h8, h9, h10⟩
    · rw [if_neg q0] at eG eM
      have hho := runs_ho hr q0
      obtain ⟨hst, -, -⟩ := runs_not hr q0
      obtain ⟨m1, m2, m3, m4⟩ := h6 (tN host) hlt hho
      have e6 : niC (tN host) = ro (60 * tN host + 6) := m2.2.2.1
      have n2b := n2.2
      have n3b := n3.2
      rw [← e6] at eM
      by_cases q8 : nI (tN (niC (tN host))) = 8
      · rw [if_pos q8] at eG eM
        cases eG
        cases eM
        rw [up_same, up_same]
        exact ⟨rfl, ⟨a1, a2, a3, a4, a5⟩, h2, ⟨g1, g2, g3, g4, g5, g6, g7, g8, g9⟩, h4, h5, h6, h7, h8, h9, h10⟩
      · rw [if_neg q8] at eG eM
        have z8 : tN (niC (tN host)) ≠ 8 := fun w => q8 (by rw [w]; rfl)
        have en : niC (tN host) + 1 = nI (tN (niC (tN host)) + 1) := by rw [n2.1, tN_nI (by omega)]; exact nI_1 _
        have ev : upd ro (60 * tN host + 7 + tN (niC (tN host))) x (60 * tN host + 6) = niC (tN host) := by rw [pk_un (by omega)]; exact e6.symm
        rw [pk_us, ev, en] at eM
        cases eG
        cases eM
        have hT : ∀ k, ¬ k = tN host → k < 2 → True := fun _ _ _ => trivial
        have hso : taC (1 - tN so) = true → 1 - tN so ≠ tN host := fun w1 w2 => by
          have hg : go = true := by
            by_cases z : go = true
            · exact z
            · exact absurd w1 (by rw [h5.2.2.2.2.1 z]; decide)
          have := h5.2.2.2.2.2.2.1 hg
          rw [w2, hho] at this
          exact absurd this (by decide)
        refine ⟨rfl, ⟨a1, a2, a3, a4, a5⟩, h2, ⟨g1, g2, g3, g4, g5, g6, g7, g8, g9⟩, h4, h5, ?_, ?_, ?_, fun k hk => ?_, h10⟩
        · refine R6.upd (tN host) h6 (fun k hk => ⟨rfl, rfl, va_up_ne _ _ hk, rfl, rfl, rfl, va_up_ne _ _ hk, rfl, rfl, rfl, rfl, rfl⟩) (fun k j hk hj => rfl) (fun k j hk hj => by rw [pk_un (by omega), pk_un (by omega)]) h9 (fun k hk w => w) (fun _ => ⟨m1, ?_, ?_, ?_⟩)
          · rw [va_up_self, va_up_self]
            obtain ⟨s1, s2, s3, s4, s5, s6, s7, s8⟩ := m2
            refine ⟨fun j hj => ?_, ?_, ?_, fun j hj => ?_, ?_, fun j hj => ?_, ?_, fun hq => ?_⟩
            · dsimp only
              rw [pk_un (by omega), pk_un (by omega)]
              exact s1 j hj
            · dsimp only
              rw [pk_un (by omega), pk_un (by omega)]
              exact s2
            · dsimp only
              rw [pk_us]
            · rw [tN_nI (by omega)] at hj
              dsimp only
              rw [pk_un (f := upd ro (60 * tN host + 7 + tN (niC (tN host))) x) (show 60 * tN host + (7 + j) ≠ 60 * tN host + 6 by omega)]
              by_cases w : j = tN (niC (tN host))
              · rw [w, pk_us, ← Nat.add_assoc, pk_us]
              · rw [pk_un w, pk_un (by omega)]
                exact s4 j (by omega)
            · dsimp only
              rw [pk_un (by omega), pk_un (by omega)]
              exact s5
            · dsimp only
              rw [pk_un (by omega), pk_un (by omega)]
              exact s6 j hj
            · dsimp only
              rw [pk_un (by omega), pk_un (by omega)]
              exact s7
            · dsimp only
              rw [pk_un (by omega), pk_un (by omega), pk_un (by omega), pk_un (by omega)]
              exact s8 hq
          · dsimp only
            rw [pk_un (by omega), pk_un (by omega)]
            exact m3
          · dsimp only
            rw [pk_un (by omega), pk_un (by omega)]
            exact m4
        · exact R7.keep h7 (fun w => ⟨rfl, rfl, ⟨rfl, va_up_ne _ _ (hso w), rfl, rfl, rfl, va_up_ne _ _ (hso w), rfl, rfl, rfl, rfl, rfl⟩⟩)
        · exact R8.keep h8 (fun w1 w2 _ => by rw [g7, w1, w2] at hst; exact absurd hst (by decide))
        · by_cases w : k = tN host
          · rw [w, va_up_self]
            exact ⟨n1, isN_nI (by omega) (by decide), n3⟩
          · rw [va_up_ne _ _ w]
            exact h9 k hk
