set_option maxHeartbeats 4000000 in
set_option maxRecDepth 100000 in
theorem S_run {n : Nat} {meC : Nat → Nat → Int32} {rgC : Nat → Nat → Int32} {ipC : Nat → Nat → Int32} {ouC : Nat → Nat → Int32} {hsC : Nat → Nat → Int32} {ctC : Nat → Int32} {tiC : Nat → Int32} {niC : Nat → Int32} {noC : Nat → Int32} {rtC : Nat → Int32} {rbC : Nat → Int32} {rwdC : Nat → Int32} {b1C : Nat → Int32} {w1C : Nat → Int32} {n1C : Nat → Int32} {rqC : Nat → Bool} {huC : Nat → Bool} {hdC : Nat → Bool} {taC : Nat → Bool} {reC : Nat → Bool} {hoC : Nat → Bool} {imC : Nat → Int32} {blC : Nat → Int32} {sgC : Nat → Int32} {srC : Nat → Int32} {wnC : Int32} {nuC : Int32} {mnC : Int32} {scC : Int32} {stC : Int32} {seC : Int32} {fpC : Int32} {znC : Int32} {goC : Bool} {spC : Bool} {pk : Nat → Int32} {pm : Nat → Int32} {pp : Nat → Int32} {ps : Nat → Int32} {pw : Nat → Nat → Int32} {im : Nat → Int32} {me : Nat → Int32} {ro : Nat → Int32} {di : Nat → Int32} {ob : Nat → Int32} {od : Nat → Int32} {on : Nat → Int32} {pg : Nat → Int32} {tm : Nat → Int32} {ts : Nat → Int32} {tr : Nat → Int32} {ki : Nat → Int32} {mo : Nat → Int32} {po : Nat → Int32} {sr : Nat → Int32} {ld : Nat → Int32} {up : Nat → Bool} {ho : Nat → Bool} {os : Nat → Bool} {st : Bool} {go : Bool} {tp : Bool} {rd : Bool} {ow : Int32} {nu : Int32} {la : Int32} {so : Int32} {se : Int32} {sl : Int32} {sp : Int32} {pn : Int32} {meAv : Nat → Int32} {rgAv : Nat → Int32} {ipAv : Nat → Int32} {ouAv : Nat → Int32} {ctAv : Int32} {tiAv : Int32} {niAv : Int32} {noAv : Int32} {rqAv : Bool} {rbAv : Int32} {rwdAv : Int32} {hoAv : Bool} {b1Av : Int32} {w1Av : Int32} {n1Av : Int32} {sgv : Nat → Int32} {rtAv : Int32} {mew : Nat → Int32} {row : Nat → Int32} {pgw : Nat → Int32} {osw : Nat → Bool} {obw : Nat → Int32} {odw : Nat → Int32} {onw : Nat → Int32} {r r2 : Int32} {h : Nat} {host : Int32} {x : Int32} (hR : RR n meC rgC ipC ouC hsC ctC tiC niC noC rtC rbC rwdC b1C w1C n1C rqC huC hdC taC reC hoC imC blC sgC srC wnC nuC mnC scC stC seC fpC znC goC spC pk pm pp ps pw im me ro di ob od on pg tm ts tr ki mo po sr ld up ho os st go tp rd ow nu la so se sl sp pn) (hlt : h < 2) (hh : isN host 2 → tN host = h) (eG : F_G_run wnC nuC blC goC spC sgC (huC h) (hdC h) (hoC h) (b1C h) (w1C h) (n1C h) (ctC h) (tiC h) (niC h) (noC h) (rtC h) (rqC h) (rbC h) (rwdC h) (meC h) (rgC h) (ipC h) (ouC h) host x = (r, meAv, rgAv, ipAv, ouAv, ctAv, tiAv, niAv, noAv, rqAv, rbAv, rwdAv, hoAv, b1Av, w1Av, n1Av, sgv, rtAv)) (eM : F_M_run me ro up ho di os ob od on pg st ow nu go so host x = (r2, mew, row, pgw, osw, obw, odw, onw)) : r = r2 ∧ RR n (va_up meC h meAv) (va_up rgC h rgAv) (va_up ipC h ipAv) (va_up ouC h ouAv) hsC (va_up ctC h ctAv) (va_up tiC h tiAv) (va_up niC h niAv) (va_up noC h noAv) (va_up rtC h rtAv) (va_up rbC h rbAv) (va_up rwdC h rwdAv) (va_up b1C h b1Av) (va_up w1C h w1Av) (va_up n1C h n1Av) (va_up rqC h rqAv) huC hdC taC reC (va_up hoC h hoAv) imC blC sgv srC wnC nuC mnC scC stC seC fpC znC goC spC pk pm pp ps pw im mew row di obw odw onw pgw tm ts tr ki mo po sr ld up ho osw st go tp rd ow nu la so se sl sp pn := by
  have hR0 := hR
  obtain ⟨h1, h2, h3, h4, h5, h6, h7, h8, h9, h10⟩ := hR
  have ⟨a1, a2, a3, a4, a5⟩ := h1
  have ⟨g1, g2, g3, g4, g5, g6, g7, g8, g9⟩ := h3
  unfold F_G_run at eG
  unfold F_M_run at eM
  rcases host_of host with ⟨hn, hb, hc⟩ | ⟨hn, hb, hc⟩
  · rw [hb] at eG
    rw [hc] at eM
    cases eG
    cases eM
    refine ⟨rfl, ?_⟩
    simp only [up_same]
    exact hR0
  · rw [hb] at eG
    rw [hc] at eM
    obtain rfl := hh hn
    dsimp only at eG eM
    rw [if_neg one_ne] at eG eM
    have ⟨u1, u2, u3, u4, u5, u6, u7⟩ := h2 (tN host) hlt
    by_cases c1 : x < 1
    · rw [if_pos c1] at eG eM
      cases eG
      cases eM
      refine ⟨rfl, ?_⟩
      simp only [up_same]
      exact hR0
    · rw [if_neg c1] at eG eM
      by_cases c2 : x ≤ 100
      · rw [if_pos c2] at eG eM
        rw [runs_eq (st := st) a3 u1 u2 (by rw [g1]; exact g7)] at eG
        rcases hr : F_M_runs up ho st ow (tN host) with ⟨q, u⟩
        rw [hr] at eG eM
        dsimp only at eG eM
        by_cases q0 : q = 0
        · rw [if_pos q0] at eG eM
          cases eG
          cases eM
          refine ⟨rfl, ?_⟩
          simp only [up_same]
          exact hR0
        · rw [if_neg q0] at eG eM
          have hho := runs_ho hr q0
          obtain ⟨hst, -, -⟩ := runs_not hr q0
          obtain ⟨m1, m2, m3, m4⟩ := h6 (tN host) hlt hho
          have hgo : go = true → so = nI (tN host) := fun w => by
            by_cases e : tN so = tN host
            · rw [← e]
              exact g6.1
            · have e2 : 1 - tN so = tN host := by have := g6.2; omega
              have := h5.2.2.2.2.2.2.1 w
              rw [e2, hho] at this
              exact absurd this (by decide)
          rw [a4] at eG
          obtain ⟨n1, n2, n3⟩ := h9 (tN host) hlt
          obtain ⟨er, V, F, c3, c4, c5⟩ := run_sim (sr := srC) hlt a2 hgo (tN x) 0 _ _ _ _ _ _ _ _ _ _ _ _ _ _ _ _ _ _ _ _ _ _ _ _ _ _ _ _ _ _ _ _ _ _ _ _ _ _ _ _ _ _ _ _ _ _ _ _ _ _ ⟨m1, m2, m3, m4, ⟨u3, u4, u5, u6, u7⟩, fun w => (h4.2.2 w).2⟩ n1 n2 n3 eG eM
          obtain ⟨v1, v2, v3, v4, ⟨v5, v6, v7, v8, v9⟩, v10⟩ := V
          obtain ⟨f1, f2, f3⟩ := F
          refine ⟨er, h1, R2.upd (tN host) h2 (fun k hk => ⟨rfl, rfl, va_up_ne _ _ hk, va_up_ne _ _ hk, va_up_ne _ _ hk, va_up_ne _ _ hk, rfl, rfl, (f3 k hk).1, (f3 k hk).2.1, (f3 k hk).2.2.1, (f3 k hk).2.2.2⟩) ⟨u1, u2, (va_up_self _ _ _).trans v5, (va_up_self _ _ _).trans v6, (va_up_self _ _ _).trans v7, (va_up_self _ _ _).trans v8, v9⟩, h3, ⟨h4.1, h4.2.1, fun w => ⟨(h4.2.2 w).1, v10 w⟩⟩, h5, ?_, ?_, ?_, fun k hk => ?_, h10⟩
          · refine R6.upd (tN host) h6 (fun k hk => ⟨va_up_ne _ _ hk, va_up_ne _ _ hk, va_up_ne _ _ hk, va_up_ne _ _ hk, va_up_ne _ _ hk, va_up_ne _ _ hk, va_up_ne _ _ hk, va_up_ne _ _ hk, va_up_ne _ _ hk, va_up_ne _ _ hk, va_up_ne _ _ hk, va_up_ne _ _ hk⟩) (fun k j hk hj => f1 _ (by omega)) (fun k j hk hj => f2 _ (by omega)) h9 (fun k hk w => w) (fun _ => ⟨fun j hj => ?_, ?_, ?_, ?_⟩)
            · rw [va_up_self]
              exact v1 j hj
            · rw [va_up_self, va_up_self, va_up_self, va_up_self, va_up_self, va_up_self, va_up_self, va_up_self, va_up_self]
              exact v2
            · rw [va_up_self]
              exact v3
            · rw [va_up_self]
              exact v4
          · exact R7.keep h7 (fun w => ⟨va_up_ne _ _ (h5.not_target hho w), rfl, ⟨va_up_ne _ _ (h5.not_target hho w), va_up_ne _ _ (h5.not_target hho w), va_up_ne _ _ (h5.not_target hho w), va_up_ne _ _ (h5.not_target hho w), va_up_ne _ _ (h5.not_target hho w), va_up_ne _ _ (h5.not_target hho w), va_up_ne _ _ (h5.not_target hho w), va_up_ne _ _ (h5.not_target hho w), va_up_ne _ _ (h5.not_target hho w), va_up_ne _ _ (h5.not_target hho w), va_up_ne _ _ (h5.not_target hho w)⟩⟩)
          · exact R8.keep h8 (fun w1 w2 _ => by rw [g7, w1, w2] at hst; exact absurd hst (by decide))
          · by_cases w : k = tN host
            · rw [w, va_up_self, va_up_self, va_up_self]
              exact ⟨c3, c4, c5⟩
            · rw [va_up_ne _ _ w, va_up_ne _ _ w, va_up_ne _ _ w]
              exact h9 k hk
      · rw [if_neg c2] at eG eM
        cases eG
        cases eM
        refine ⟨rfl, ?_⟩
        simp only [up_same]
        exact hR0
theorem come_eq {ki mo po sr : Nat → Int32} {pn x1 x2 x3 x4 : Int32} : F_M_come ki mo po sr pn x1 x2 x3 x4 = (nI (tN pn), upd ki (tN pn) x1, upd mo (tN pn) x2, upd po (tN pn) x3, upd sr (tN pn) x4, if 8 ≤ nI (tN pn) then 8 else nI (tN pn + 1)) := by
  unfold F_M_come
  by_cases h : 8 ≤ nI (tN pn)
  · rw [if_pos h, if_pos h]
  · rw [if_neg h, if_neg h]
theorem R8.sp {znC : Int32} {pk pm pp ps : Nat → Int32} {pw : Nat → Nat → Int32} {spC : Bool} {rgC ipC ouC : Nat → Nat → Int32} {ctC tiC niC noC rtC : Nat → Int32} {rqC : Nat → Bool} {rbC rwdC : Nat → Int32} {ho : Nat → Bool} {go : Bool} {la so pn : Int32} {ki mo po sr ld : Nat → Int32} {spD : Bool} (h : R8 znC pk pm pp ps pw spC rgC ipC ouC ctC tiC niC noC rtC rqC rbC rwdC ho go la so pn ki mo po sr ld) (hs : spC = true → spD = true) : R8 znC pk pm pp ps pw spD rgC ipC ouC ctC tiC niC noC rtC rqC rbC rwdC ho go la so pn ki mo po sr ld := by
  refine ⟨h.1, h.2.1, fun j hj => ?_⟩
  obtain ⟨a1, a2, a3, a4, a5, a6, a7, a8, a9, a10⟩ := h.2.2 j hj
  exact ⟨a1, a2, a3, a4, a5, a6, a7, a8, a9, fun w1 w2 w3 => ⟨hs (a10 w1 w2 w3).1, (a10 w1 w2 w3).2⟩⟩
theorem R8.add {znC : Int32} {pk pm pp ps : Nat → Int32} {pw : Nat → Nat → Int32} {spC : Bool} {rgC ipC ouC : Nat → Nat → Int32} {ctC tiC niC noC rtC : Nat → Int32} {rqC : Nat → Bool} {rbC rwdC : Nat → Int32} {ho : Nat → Bool} {go : Bool} {la so pn : Int32} {ki mo po sr ld : Nat → Int32} {ld2 : Nat → Int32} {k1 m1 p1 s1 : Int32} {w1 : Nat → Int32} (h : R8 znC pk pm pp ps pw spC rgC ipC ouC ctC tiC niC noC rtC rqC rbC rwdC ho go la so pn ki mo po sr ld) (h9 : R9 ctC niC noC) (hso : isN so 2) (hl : ∀ j, j < 60 * tN pn → ld2 j = ld j) (P : tN pn < 8 → isN p1 8 ∧ isN m1 (tN la + 1) ∧ (k1 = 1 ∨ k1 = 2 ∨ k1 = 3 ∨ k1 = 4) ∧ (k1 = 1 → ∀ i, i < 8 → w1 i = ld2 (60 * tN pn + i)) ∧ ((k1 = 1 ∨ k1 = 3) → isN s1 100000 ∧ 1 ≤ tN s1) ∧ (k1 = 2 → go = true → m1 = la → spC = true ∧ (ho (tN so) = true → MX rgC ipC ouC ctC tiC niC noC rtC rqC rbC rwdC (tN so) (fun k => ld2 (60 * tN pn + k))))) : R8 (addZ pn) (addI pn pk k1) (addI pn pm m1) (addI pn pp p1) (addI pn ps s1) (addW pn pw w1) spC rgC ipC ouC ctC tiC niC noC rtC rqC rbC rwdC ho go la so (if 8 ≤ nI (tN pn) then 8 else nI (tN pn + 1)) (upd ki (tN pn) k1) (upd mo (tN pn) m1) (upd po (tN pn) p1) (upd sr (tN pn) s1) ld2 := by
  obtain ⟨z1, z2, z3⟩ := h
  have z2b := z2.2
  have old : ∀ j, j < tN pn → _ := z3
  by_cases c : 8 ≤ nI (tN pn)
  · have c8 : tN pn = 8 := by
      have := (nI_leI (a := 8) (by omega) (by omega)).mp c
      omega
    unfold addZ addI addW
    rw [if_pos c, if_pos c, if_pos c, if_pos c, if_pos c, if_pos c, if_pos c]
    have e8 : pn = 8 := by rw [z2.1, c8]; rfl
    refine ⟨e8, ⟨rfl, by decide⟩, fun j hj => ?_⟩
    have hj8 : j < 8 := hj
    have hj' : j < tN pn := by omega
    obtain ⟨a1, a2, a3, a4, a5, a6, a7, a8, a9, a10⟩ := z3 j hj'
    rw [pk_un (by omega), pk_un (by omega), pk_un (by omega), pk_un (by omega)]
    refine ⟨a1, a2, a3, a4, a5, a6, a7, fun w i hi => ?_, a9, fun w1 w2 w3 => ?_⟩
    · rw [hl _ (by omega)]
      exact a8 w i hi
    · obtain ⟨b1, b2⟩ := a10 w1 w2 w3
      exact ⟨b1, fun w => (b2 w).frame (h9 _ hso.2).2.1 (h9 _ hso.2).2.2 (fun x hx => hl _ (by omega))⟩
  · have c8 : tN pn < 8 := by
      by_cases y : tN pn < 8
      · exact y
      · exact absurd ((nI_leI (a := 8) (b := tN pn) (by omega) (by omega)).mpr (by omega)) c
    unfold addZ addI addW
    rw [if_neg c, if_neg c, if_neg c, if_neg c, if_neg c, if_neg c, if_neg c]
    refine ⟨rfl, isN_nI (by omega) (by decide), fun j hj => ?_⟩
    rw [tN_nI (by omega)] at hj
    by_cases y : j = tN pn
    · rw [y, pk_us, pk_us, pk_us, pk_us, pk_us, pk_us, pk_us, pk_us, va_up_self]
      obtain ⟨p1, p2, p3, p4, p5, p6⟩ := P c8
      exact ⟨rfl, rfl, rfl, rfl, p1, p2, p3, p4, p5, p6⟩
    · obtain ⟨a1, a2, a3, a4, a5, a6, a7, a8, a9, a10⟩ := z3 j (by omega)
      rw [pk_un y, pk_un y, pk_un y, pk_un y, pk_un y, pk_un y, pk_un y, pk_un y, va_up_ne _ _ y]
      refine ⟨a1, a2, a3, a4, a5, a6, a7, fun w i hi => ?_, a9, fun w1 w2 w3 => ?_⟩
      · rw [hl _ (by omega)]
        exact a8 w i hi
      · obtain ⟨b1, b2⟩ := a10 w1 w2 w3
        exact ⟨b1, fun w => (b2 w).frame (h9 _ hso.2).2.1 (h9 _ hso.2).2.2 (fun x hx => hl _ (by omega))⟩
theorem due_eq {sg sr pg : Nat → Int32} {l0 l1 : Nat} (hl : l1 = (l0 + 1) % 8) (h : ∀ p, p < 8 → PS (sg p) (sr p) (pg p)) : ∀ n k, (dueG sg l1 n k = ((-2), ()) ∧ dueF pg l0 n (k + 1) = ((-1), ())) ∨ ∃ p, p < 8 ∧ dueG sg l1 n k = (nI p, ()) ∧ dueF pg l0 n (k + 1) = (nI p, ())
  | 0, k => Or.inl ⟨rfl, rfl⟩
  | n + 1, k => by
    rw [dueG, dueF]
    have e : (l1 + k) % 8 = (l0 + (k + 1)) % 8 := by omega
    rw [e]
    have hp : (l0 + (k + 1)) % 8 < 8 := Nat.mod_lt _ (by decide)
    by_cases q : sg ((l0 + (k + 1)) % 8) = 0
    · rw [if_pos q, if_pos ((PS_due (h _ hp)).mp q)]
      exact Or.inr ⟨_, hp, rfl, rfl⟩
    · rw [if_neg q, if_neg (fun z => q ((PS_due (h _ hp)).mpr z))]
      exact due_eq hl h n (k + 1)
def SG (s : Bool) (mn st se fp : Int32) (sg sr meS : Nat → Int32) (zn : Int32) (pk pm pp ps : Nat → Int32) (pw : Nat → Nat → Int32) : Int32 × Int32 × (Nat → Int32) × (Nat → Int32) × (Nat → Int32) × (Nat → Int32) × (Nat → Nat → Int32) × (Nat → Int32) × (Nat → Int32) × Bool × Int32 × Int32 × Int32 :=
  match F_V_nextDue fp sg with
  | (r11, _) =>
    if r11 = (-2) then
      if (nI (cnt2 sg 8)) ≤ 0 then
        if s = true then
          (2, (addZ zn, addI zn pk 2, addI zn pm mn, addI zn pp 0, addI zn ps 0, addW zn pw (fun _ => 0), sg, sr, s, st + 1, se, fp))
        else
          (4, (zn, pk, pm, pp, ps, pw, sg, sr, true, st + 1, se, fp))
      else
        (3, (zn, pk, pm, pp, ps, pw, va_cpy (sentDue sg) sg 0 0 8, sr, s, st + 1, se, fp))
    else
      match F_G_sendPage mn se sg sr meS zn (tN r11) pk pm pp ps pw with
      | (znv38, pkv39, pmv40, ppv41, psv42, pwv43, sgv44, srv45, sev46, fpv47) =>
        (1, (znv38, pkv39, pmv40, ppv41, psv42, pwv43, sgv44, srv45, s, st + 1, sev46, fpv47))
def SM (s : Bool) (me ro pg ki mo po sr ld : Nat → Int32) (la so se sl sp pn : Int32) : Int32 × (Nat → Int32) × (Nat → Int32) × (Nat → Int32) × (Nat → Int32) × (Nat → Int32) × (Nat → Int32) × Bool × Int32 × Int32 × Int32 × Int32 :=
  match F_M_due pg sl with
  | (r5, _) =>
    if r5 < 0 then
      if (nI (cnt pg 8)) ≤ 0 then
        if s = true then
          match F_M_come ki mo po sr pn 2 la 0 0 with
          | (r14, kiv15, mov16, pov17, srv18, pnv19) =>
            (2, (pg, kiv15, mov16, pov17, srv18, va_cpy ro ld (60 * tN so) (60 * tN pn) 60, s, se, sl, sp + 1, pnv19))
        else
          (4, (pg, ki, mo, po, sr, ld, true, se, sl, sp + 1, pn))
      else
        (3, (va_cpy (again pg) pg 0 0 8, ki, mo, po, sr, ld, s, se, sl, sp + 1, pn))
    else
      match F_M_sendPage me pg ki mo po sr ld la so se pn (tN r5) with
      | (pgv30, kiv31, mov32, pov33, srv34, ldv35, sev36, slv37, pnv38) =>
        (1, (pgv30, kiv31, mov32, pov33, srv34, ldv35, s, sev36, slv37, sp + 1, pnv38))
set_option maxHeartbeats 4000000 in
set_option maxRecDepth 100000 in
theorem S_body {n : Nat} {meC : Nat → Nat → Int32} {rgC : Nat → Nat → Int32} {ipC : Nat → Nat → Int32} {ouC : Nat → Nat → Int32} {hsC : Nat → Nat → Int32} {ctC : Nat → Int32} {tiC : Nat → Int32} {niC : Nat → Int32} {noC : Nat → Int32} {rtC : Nat → Int32} {rbC : Nat → Int32} {rwdC : Nat → Int32} {b1C : Nat → Int32} {w1C : Nat → Int32} {n1C : Nat → Int32} {rqC : Nat → Bool} {huC : Nat → Bool} {hdC : Nat → Bool} {taC : Nat → Bool} {reC : Nat → Bool} {hoC : Nat → Bool} {imC : Nat → Int32} {blC : Nat → Int32} {sgC : Nat → Int32} {srC : Nat → Int32} {wnC : Int32} {nuC : Int32} {mnC : Int32} {scC : Int32} {stC : Int32} {seC : Int32} {fpC : Int32} {znC : Int32} {goC : Bool} {spC : Bool} {pk : Nat → Int32} {pm : Nat → Int32} {pp : Nat → Int32} {ps : Nat → Int32} {pw : Nat → Nat → Int32} {im : Nat → Int32} {me : Nat → Int32} {ro : Nat → Int32} {di : Nat → Int32} {ob : Nat → Int32} {od : Nat → Int32} {on : Nat → Int32} {pg : Nat → Int32} {tm : Nat → Int32} {ts : Nat → Int32} {tr : Nat → Int32} {ki : Nat → Int32} {mo : Nat → Int32} {po : Nat → Int32} {sr : Nat → Int32} {ld : Nat → Int32} {up : Nat → Bool} {ho : Nat → Bool} {os : Nat → Bool} {st : Bool} {go : Bool} {tp : Bool} {rd : Bool} {ow : Int32} {nu : Int32} {la : Int32} {so : Int32} {se : Int32} {sl : Int32} {sp : Int32} {pn : Int32} {znv : Int32} {pkv : Nat → Int32} {pmv : Nat → Int32} {ppv : Nat → Int32} {psv : Nat → Int32} {pwv : Nat → Nat → Int32} {sgv : Nat → Int32} {srv : Nat → Int32} {spv : Bool} {stv : Int32} {sev : Int32} {fpv : Int32} {pgw : Nat → Int32} {kiw : Nat → Int32} {mow : Nat → Int32} {pow : Nat → Int32} {srw : Nat → Int32} {ldw : Nat → Int32} {stw : Bool} {sew : Int32} {slw : Int32} {spw : Int32} {pnw : Int32} {r r2 : Int32}  (hR : RR n meC rgC ipC ouC hsC ctC tiC niC noC rtC rbC rwdC b1C w1C n1C rqC huC hdC taC reC hoC imC blC sgC srC wnC nuC mnC scC stC seC fpC znC goC spC pk pm pp ps pw im me ro di ob od on pg tm ts tr ki mo po sr ld up ho os st go tp rd ow nu la so se sl sp pn) (hn : n < 99990) {s : Bool} (hs : spC = true → s = true) (hg : go = true) (hho : ho (tN so) = true) (eG : SG s mnC stC seC fpC sgC srC (meC (tN so)) znC pk pm pp ps pw = (r, znv, pkv, pmv, ppv, psv, pwv, sgv, srv, spv, stv, sev, fpv)) (eM : SM s me ro pg ki mo po sr ld la so se sl sp pn = (r2, pgw, kiw, mow, pow, srw, ldw, stw, sew, slw, spw, pnw)) : r = r2 ∧ RR (n + 1) meC rgC ipC ouC hsC ctC tiC niC noC rtC rbC rwdC b1C w1C n1C rqC huC hdC taC reC hoC imC blC sgv srv wnC nuC mnC scC stv sev fpv znv goC spv pkv pmv ppv psv pwv im me ro di ob od on pgw tm ts tr kiw mow pow srw ldw up ho os stw go tp rd ow nu la so sew slw spw pnw := by
  have hR0 := hR
  obtain ⟨h1, h2, h3, h4, h5, h6, h7, h8, h9, h10⟩ := hR
  have ⟨a1, a2, a3, a4, a5⟩ := h1
  have ⟨g1, g2, g3, g4, g5, g6, g7, g8, g9⟩ := h3
  have ⟨z1, z2, z3⟩ := h8
  have ⟨i1, i2, i3⟩ := h4
  obtain ⟨i4, i5⟩ := i3 hg
  obtain ⟨m1, m2⟩ := h6 (tN so) g6.2 hho
  have g8b := g8.2
  have g9b := g9.2
  have hbs := g6.2
  have h3n : ∀ t : Bool, R3 (n + 1) goC t mnC scC (stC + 1) se t go la so se (sp + 1) := fun t => ⟨g1, g2, g3, by rw [g4], rfl, g6, by rw [hg]; rfl, ⟨g8.1, by omega⟩, ⟨g9.1, by omega⟩⟩
  rw [z1, g2, g5] at eG
  unfold SG F_V_nextDue at eG
  unfold SM F_M_due at eM
  rcases due_eq i4 i5 8 0 with ⟨d1, d2⟩ | ⟨p, hp, d1, d2⟩
  · rw [d1, cnt_eq 8 i5] at eG
    rw [d2] at eM
    dsimp only at eG eM
    rw [if_pos rfl] at eG
    rw [if_pos (by decide)] at eM
    by_cases c : nI (cnt pg 8) ≤ 0
    · rw [if_pos c] at eG eM
      by_cases t : s = true
      · rw [if_pos t] at eG eM
        rw [come_eq] at eM
        cases eG
        cases eM
        refine ⟨rfl, h1, h2, ?_, h4, h5, h6, h7, ?_, h9, h10⟩
        · exact h3n _
        · refine R8.add (h8.sp hs) h9 g6 (fun j hj => pk_cpy_out (by omega)) (fun h8 => ⟨⟨rfl, by decide⟩, ⟨g8.1, by omega⟩, Or.inr (Or.inl rfl), fun w => absurd w (by decide), fun w => by rcases w with w | w <;> exact absurd w (by decide), fun _ _ _ => ⟨t, fun _ => ?_⟩⟩)
          exact MX.frame m2 (h9 _ g6.2).2.1 (h9 _ g6.2).2.2 (fun x hx => cpy_at hx)
      · rw [if_neg t] at eG eM
        cases eG
        cases eM
        refine ⟨rfl, h1, h2, ?_, h4, h5, h6, h7, ?_, h9, h10⟩
        · exact h3n _
        · exact z1 ▸ h8.sp (fun _ => rfl)
    · rw [if_neg c] at eG eM
      cases eG
      cases eM
      refine ⟨rfl, h1, h2, ?_, ⟨i1, i2, fun _ => ⟨i4, fun p hp => ?_⟩⟩, h5, h6, h7, ?_, h9, h10⟩
      · exact h3n _
      · rw [cpy_00 hp, cpy_00 hp]
        unfold sentDue again
        rcases i5 p hp with ⟨k1, k2⟩ | ⟨k1, k2, k3, k4⟩ | ⟨k1, k2⟩
        · rw [k1, k2]
          exact Or.inl ⟨rfl, rfl⟩
        · rw [k1, k2, if_pos rfl, if_neg (isN_ne k3 (by decide)).2]
          exact Or.inl ⟨rfl, rfl⟩
        · rw [k1, k2]
          exact Or.inr (Or.inr ⟨rfl, rfl⟩)
      · exact z1 ▸ h8.sp hs
  · rw [d1] at eG
    rw [d2] at eM
    dsimp only at eG eM
    have hneg := isN_ne (isN_nI (n := p) hp (by decide)) (by decide : 8 < 2 ^ 31)
    rw [if_neg hneg.2] at eG
    rw [if_neg (nI_pos (by omega))] at eM
    unfold F_G_sendPage at eG
    unfold F_M_sendPage at eM
    rw [come_eq] at eM
    have ep : tN (nI p) = p := tN_nI (by omega)
    rw [ep] at eG eM
    dsimp only at eG eM
    cases eG
    cases eM
    have en : se + 1 = nI (tN se + 1) := by rw [g9.1, tN_nI (by omega)]; exact nI_1 _
    have n1 : isN (se + 1) 100000 := by rw [en]; exact isN_nI (by omega) (by decide)
    have n1b : 1 ≤ tN (se + 1) := by rw [en, tN_nI (by omega)]; omega
    refine ⟨rfl, h1, h2, ⟨g1, g2, g3, by rw [g4], rfl, g6, by rw [hg]; rfl, ⟨g8.1, by omega⟩, by rw [en]; exact isN_nI (by omega) (by omega)⟩, ⟨isN_nI (Nat.mod_lt _ (by decide)) (by decide), isN_nI hp (by decide), fun _ => ⟨by rw [tN_nI (by omega), ep], fun k hk => ?_⟩⟩, h5, h6, h7, ?_, h9, h10⟩
    · by_cases y : k = p
      · rw [y, pk_us, pk_us, pk_us]
        exact Or.inr (Or.inl ⟨rfl, rfl, n1, n1b⟩)
      · rw [pk_un y, pk_un y, pk_un y]
        exact i5 k hk
    · refine R8.add (h8.sp hs) h9 g6 (fun j hj => pk_cpy_out (by omega)) (fun h8 => ⟨isN_nI hp (by decide), ⟨g8.1, by omega⟩, Or.inl rfl, fun _ i hi => ?_, fun _ => ⟨n1, n1b⟩, fun w => absurd w (by decide)⟩)
      have e1 : va_cpy (meC (tN so)) (fun _ => 0) (p * 8) 0 8 i = meC (tN so) (p * 8 + i) := by
        have := cpy_at (f := meC (tN so)) (g := fun _ => (0 : Int32)) (sp := p * 8) (dp := 0) hi
        rw [Nat.zero_add] at this
        exact this
      rw [e1, cpy_at hi, m1 _ (by omega)]
      congr 1
      omega
set_option maxHeartbeats 4000000 in
set_option maxRecDepth 100000 in
theorem S_step {n : Nat} {meC : Nat → Nat → Int32} {rgC : Nat → Nat → Int32} {ipC : Nat → Nat → Int32} {ouC : Nat → Nat → Int32} {hsC : Nat → Nat → Int32} {ctC : Nat → Int32} {tiC : Nat → Int32} {niC : Nat → Int32} {noC : Nat → Int32} {rtC : Nat → Int32} {rbC : Nat → Int32} {rwdC : Nat → Int32} {b1C : Nat → Int32} {w1C : Nat → Int32} {n1C : Nat → Int32} {rqC : Nat → Bool} {huC : Nat → Bool} {hdC : Nat → Bool} {taC : Nat → Bool} {reC : Nat → Bool} {hoC : Nat → Bool} {imC : Nat → Int32} {blC : Nat → Int32} {sgC : Nat → Int32} {srC : Nat → Int32} {wnC : Int32} {nuC : Int32} {mnC : Int32} {scC : Int32} {stC : Int32} {seC : Int32} {fpC : Int32} {znC : Int32} {goC : Bool} {spC : Bool} {pk : Nat → Int32} {pm : Nat → Int32} {pp : Nat → Int32} {ps : Nat → Int32} {pw : Nat → Nat → Int32} {im : Nat → Int32} {me : Nat → Int32} {ro : Nat → Int32} {di : Nat → Int32} {ob : Nat → Int32} {od : Nat → Int32} {on : Nat → Int32} {pg : Nat → Int32} {tm : Nat → Int32} {ts : Nat → Int32} {tr : Nat → Int32} {ki : Nat → Int32} {mo : Nat → Int32} {po : Nat → Int32} {sr : Nat → Int32} {ld : Nat → Int32} {up : Nat → Bool} {ho : Nat → Bool} {os : Nat → Bool} {st : Bool} {go : Bool} {tp : Bool} {rd : Bool} {ow : Int32} {nu : Int32} {la : Int32} {so : Int32} {se : Int32} {sl : Int32} {sp : Int32} {pn : Int32} {znv : Int32} {pkv : Nat → Int32} {pmv : Nat → Int32} {ppv : Nat → Int32} {psv : Nat → Int32} {pwv : Nat → Nat → Int32} {sgv : Nat → Int32} {srv : Nat → Int32} {spv : Bool} {stv : Int32} {sev : Int32} {fpv : Int32} {pgw : Nat → Int32} {kiw : Nat → Int32} {mow : Nat → Int32} {pow : Nat → Int32} {srw : Nat → Int32} {ldw : Nat → Int32} {stw : Bool} {sew : Int32} {slw : Int32} {spw : Int32} {pnw : Int32} {r r2 : Int32}  (hR : RR n meC rgC ipC ouC hsC ctC tiC niC noC rtC rbC rwdC b1C w1C n1C rqC huC hdC taC reC hoC imC blC sgC srC wnC nuC mnC scC stC seC fpC znC goC spC pk pm pp ps pw im me ro di ob od on pg tm ts tr ki mo po sr ld up ho os st go tp rd ow nu la so se sl sp pn) (hn : n < 99990) (eG : F_G_step goC spC mnC stC seC fpC sgC srC (hdC (tN so)) (meC (tN so)) znC pk pm pp ps pw = (r, znv, pkv, pmv, ppv, psv, pwv, sgv, srv, spv, stv, sev, fpv)) (eM : F_M_step me ro ho pg ki mo po sr ld st go la so se sl sp pn = (r2, pgw, kiw, mow, pow, srw, ldw, stw, sew, slw, spw, pnw)) : r = r2 ∧ RR (n + 1) meC rgC ipC ouC hsC ctC tiC niC noC rtC rbC rwdC b1C w1C n1C rqC huC hdC taC reC hoC imC blC sgv srv wnC nuC mnC scC stv sev fpv znv goC spv pkv pmv ppv psv pwv im me ro di ob od on pgw tm ts tr kiw mow pow srw ldw up ho os stw go tp rd ow nu la so sew slw spw pnw := by
  have hR0 := hR
  obtain ⟨h1, h2, h3, h4, h5, h6, h7, h8, h9, h10⟩ := hR
  have ⟨a1, a2, a3, a4, a5⟩ := h1
  have ⟨g1, g2, g3, g4, g5, g6, g7, g8, g9⟩ := h3
  unfold F_G_step at eG
  unfold F_M_step at eM
  have uS := (h2 (tN so) g6.2).2.1
  by_cases hg : go = true
  · rw [if_pos (g1.trans hg)] at eG
    rw [if_pos hg] at eM
    by_cases hho : ho (tN so) = true
    · rw [if_pos (uS.trans hho)] at eG
      rw [if_pos hho] at eM
      have i5 := (h4.2.2 hg).2
      have hc := cnt_eq 8 i5
      have hsp : st = spC := by rw [g7, hg]; rfl
      by_cases c1 : 40 ≤ sp
      · rw [if_pos c1] at eM
        rw [show F_V_mustStop stC sgC = (1, ()) by unfold F_V_mustStop; rw [g4, if_pos c1]] at eG
        dsimp only at eG
        rw [if_neg one_ne] at eG
        exact S_body hR0 hn (s := true) (fun _ => rfl) hg hho eG eM
      · rw [if_neg c1] at eM
        by_cases c2 : sp < 8
        · rw [if_pos c2] at eM
          rw [show F_V_mustStop stC sgC = (0, ()) by unfold F_V_mustStop; rw [g4, if_neg c1, if_pos c2]] at eG
          dsimp only at eG
          rw [if_pos rfl] at eG
          rw [hsp] at eM
          exact S_body hR0 hn (s := spC) (fun w => w) hg hho eG eM
        · rw [if_neg c2] at eM
          by_cases c3 : 2 < nI (cnt pg 8)
          · rw [if_pos c3] at eM
            rw [show F_V_mustStop stC sgC = (0, ()) by unfold F_V_mustStop; rw [g4, if_neg c1, if_neg c2, hc, if_pos c3]] at eG
            dsimp only at eG
            rw [if_pos rfl] at eG
            rw [hsp] at eM
            exact S_body hR0 hn (s := spC) (fun w => w) hg hho eG eM
          · rw [if_neg c3] at eM
            rw [show F_V_mustStop stC sgC = (1, ()) by unfold F_V_mustStop; rw [g4, if_neg c1, if_neg c2, hc, if_neg c3]] at eG
            dsimp only at eG
            rw [if_neg one_ne] at eG
            exact S_body hR0 hn (s := true) (fun _ => rfl) hg hho eG eM
    · rw [if_neg (fun z => hho (uS.symm.trans z))] at eG
      rw [if_neg hho] at eM
      cases eG
      cases eM
      refine ⟨rfl, ?_⟩
      exact hR0.mono (by omega)
  · rw [if_neg (fun z => hg (g1.symm.trans z))] at eG
    rw [if_neg hg] at eM
    cases eG
    cases eM
    refine ⟨rfl, ?_⟩
    exact hR0.mono (by omega)
