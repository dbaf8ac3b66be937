/-! Pieces: the pool holds them; what the link holds, as numbers. -/
def PI (cT : Nat → ClassId) (LP : List Nat) (f : Nat → va_E) (pz : Nat → Option Nat) (n : Nat) (pk pm pp ps : Nat → Int32) (pw : Nat → Nat → Int32) : Prop :=
  ∀ j : Nat, j < n → ∃ y w : Nat, pz j = some y ∧ y ∈ LP ∧ f y = .inr (4, [.int (pk j), .int (pm j), .int (pp j), .int (ps j), .ref w]) ∧ (pk j = 1 → ∃ g : Nat → Int32, w ∈ LP ∧ f w = .inl (cT 0, 8, .inl g) ∧ ∀ i, i < 8 → g i = pw j i)
theorem up_keep {f : Nat → va_E} {LP : List Nat} {q y : Nat} {e : va_E} (hq : q ∉ LP) (hy : y ∈ LP) : va_up f q e y = f y := by
  unfold va_up
  exact if_neg (fun h : y = q => hq (by rw [← h]; exact hy))
theorem PI.grow {cT : Nat → ClassId} {LP : List Nat} {f : Nat → va_E} {pz : Nat → Option Nat} {n : Nat} {pk pm pp ps : Nat → Int32} {pw : Nat → Nat → Int32} {q : Nat} {e : va_E} (h : PI cT LP f pz n pk pm pp ps pw) (hq : q ∉ LP) : PI cT (LP ++ [q]) (va_up f q e) pz n pk pm pp ps pw := by
  intro j hj
  obtain ⟨y, w, h1, h2, h3, h4⟩ := h j hj
  refine ⟨y, w, h1, List.mem_append_left _ h2, by rw [up_keep hq h2]; exact h3, fun hk => ?_⟩
  obtain ⟨g, g1, g2, g3⟩ := h4 hk
  exact ⟨g, List.mem_append_left _ g1, by rw [up_keep hq g1]; exact g2, g3⟩
def addI (zn : Int32) (d : Nat → Int32) (x : Int32) : Nat → Int32 := if 8 ≤ nI (tN zn) then d else upd d (tN zn) x
def addW (zn : Int32) (d : Nat → Nat → Int32) (x : Nat → Int32) : Nat → Nat → Int32 := if 8 ≤ nI (tN zn) then d else va_up d (tN zn) x
def addZ (zn : Int32) : Int32 := if 8 ≤ nI (tN zn) then zn else nI (tN zn + 1)
theorem PI.put {cT : Nat → ClassId} {LP : List Nat} {f : Nat → va_E} {pz : Nat → Option Nat} {n : Nat} {pk pm pp ps : Nat → Int32} {pw : Nat → Nat → Int32} {a w : Nat} {k m p s : Int32} {gg : Nat → Int32} (h : PI cT LP f pz n pk pm pp ps pw) (ha : a ∈ LP) (hf : f a = .inr (4, [.int k, .int m, .int p, .int s, .ref w])) (hw : k = 1 → ∃ g : Nat → Int32, w ∈ LP ∧ f w = .inl (cT 0, 8, .inl g) ∧ ∀ i, i < 8 → g i = gg i) :
    PI cT LP f (va_up pz n (some a)) (n + 1) (upd pk n k) (upd pm n m) (upd pp n p) (upd ps n s) (va_up pw n gg) := by
  intro j hj
  by_cases hjn : j = n
  · subst hjn
    refine ⟨a, w, by rw [va_up_self], ha, by rw [pk_us, pk_us, pk_us, pk_us]; exact hf, fun hk => ?_⟩
    rw [pk_us] at hk
    rw [va_up_self]
    exact hw hk
  · obtain ⟨y, v, h1, h2, h3, h4⟩ := h j (by omega)
    refine ⟨y, v, by rw [va_up_ne _ _ hjn]; exact h1, h2, by rw [pk_un hjn, pk_un hjn, pk_un hjn, pk_un hjn]; exact h3, fun hk => ?_⟩
    rw [pk_un hjn] at hk
    rw [va_up_ne _ _ hjn]
    exact h4 hk
/-- the piece at k goes -/
theorem PI.rem {cT : Nat → ClassId} {LP : List Nat} {f : Nat → va_E} {pz : Nat → Option Nat} {n : Nat} {pk pm pp ps : Nat → Int32} {pw : Nat → Nat → Int32} (k0 : Nat) (h : PI cT LP f pz n pk pm pp ps pw) (hk : k0 < n) :
    PI cT LP f (va_cpy pz pz (k0 + 1) k0 (n - 1 - k0)) (n - 1) (va_cpy pk pk (k0 + 1) k0 (n - 1 - k0)) (va_cpy pm pm (k0 + 1) k0 (n - 1 - k0)) (va_cpy pp pp (k0 + 1) k0 (n - 1 - k0)) (va_cpy ps ps (k0 + 1) k0 (n - 1 - k0)) (va_cpy pw pw (k0 + 1) k0 (n - 1 - k0)) := by
  intro j hj
  by_cases h1 : k0 ≤ j
  · have h2 : j < k0 + (n - 1 - k0) := by omega
    rw [pk_cpy_in h1 h2, pk_cpy_in h1 h2, pk_cpy_in h1 h2, pk_cpy_in h1 h2, pk_cpy_in h1 h2, pk_cpy_in h1 h2]
    exact h _ (by omega)
  · rw [pk_cpy_out (by omega), pk_cpy_out (by omega), pk_cpy_out (by omega), pk_cpy_out (by omega), pk_cpy_out (by omega), pk_cpy_out (by omega)]
    exact h j (by omega)
theorem cpyq_s2 {f g : Nat → Option Nat} {sp dp n d : Nat} {v : Option Nat} (hd : d = dp + n) (hv : v = f (sp + n)) : va_up (va_cpy f g sp dp n) d v = va_cpy f g sp dp (n + 1) := by
  subst hd
  subst hv
  funext k
  by_cases h : k = dp + n
  · subst h
    rw [va_up_self, pk_cpy_in (by omega) (by omega)]
    congr 1
    omega
  · rw [va_up_ne _ _ h]
    by_cases h2 : dp ≤ k ∧ k < dp + n
    · rw [pk_cpy_in h2.1 h2.2, pk_cpy_in h2.1 (by omega)]
    · rw [pk_cpy_out (by omega), pk_cpy_out (by omega)]
section XU
variable {p : Program} {l : Launch} {e : Env} {R : Room} {s : State} {m : MethodId} {args : Array Value} {below : List Frame} {meth : Method} {c : Code} {H : Heap} {locs : List Loc} {cells slots : Nat} {Q : State → Prop} {pc : Nat} {ls : Array Slot} {rest : List Value}
theorem x_unref {f : Option Nat} {y : Nat} (h : f = some y) (k : W p l e R s m args below meth c H locs cells slots Q (F0 m pc ls (va_rf f :: rest))) : W p l e R s m args below meth c H locs cells slots Q (F0 m pc ls (.ref y :: rest)) := by
  rw [h] at k
  exact k
end XU
theorem min8 {k : Nat} (h : 8 ≤ k) (hk : k < 2 ^ 31) : (if 8 < nI k then 8 else nI k) = (8 : Int32) := by
  by_cases h1 : 8 < nI k
  · rw [if_pos h1]
  · rw [if_neg h1]
    have h2 : ¬ 8 < k := fun q => h1 ((nI_ltI (a := 8) (b := k) (by omega) hk).mpr q)
    obtain rfl : k = 8 := by omega
    rfl

def F_P_init (x1 : Int32) (x2 : Int32) (x3 : Int32) (x4 : Int32) : Int32 × Int32 × Int32 × Int32 :=
  (x1, x2, x3, x4)
set_option maxHeartbeats 4000000 in
set_option maxRecDepth 100000 in
theorem c_P_init (l : Launch) (D : va_G) (cT : Nat → ClassId) (qp : Nat) (qw : Nat) (a1 : Int32) (a2 : Int32) (a3 : Int32) (a4 : Int32) (x1 : Int32) (x2 : Int32) (x3 : Int32) (x4 : Int32)  : Ctv l y_P_init ws_P_init { frames := 1, cells := 0, slots := 0, locals := 12 } D vwCl (TYS cT) [.ref qp, .int x1, .int x2, .int x3, .int x4, .ref qw] [(qp, .inr (4, [.int a1, .int a2, .int a3, .int a4, .null]))] (fun (uu : Int32 × Int32 × Int32 × Int32) => F_P_init x1 x2 x3 x4 = uu) (fun (u : Int32 × Int32 × Int32 × Int32) => [(qp, .inr (4, [.int (u.1), .int (u.2.1), .int (u.2.2.1), .int (u.2.2.2), .ref qw]))]) 0 0 := by
  refine x_inv (cc := b_P_init) (maxL := 6) (by decide) rfl (Nat.le_of_ble_eq_true rfl) ?_
  intro p e s m args below meth c A ls Q F hin hl hw ret
  have hl : lv_has ls 6 [(0, .ref qp), (1, .int x1), (2, .int x2), (3, .int x3), (4, .int x4), (5, .ref qw)] := hl
  refine lv_aload_n (pc := 0) F.1 F.2.1 d_P_init_0 rfl (lv_at hl 0 rfl) ?_
  refine W.objInit F.1 F.2.1 F.2.2.2.1 (F.2.2.2.2 _ (List.mem_cons_of_mem _ m_386)) (F.2.2.2.2 _ (List.mem_cons_of_mem _ m_51)) (F.2.2.2.2 _ (List.mem_cons_of_mem _ m_52)) rfl (by rw [F.2.2.1]; exact hl.1) rfl d_P_init_1 (Nat.le_of_ble_eq_true rfl) (Nat.le_of_ble_eq_true rfl) ?_
  refine W.eq (g2 := F0 m 4 ls []) rfl ?_
  refine lv_aload_n (pc := 4) F.1 F.2.1 d_P_init_4 rfl (lv_at hl 0 rfl) ?_
  refine lv_iload_n (pc := 5) F.1 F.2.1 d_P_init_5 rfl (lv_at hl 1 rfl) ?_
  refine x_putF (pc := 6) (v := .int x1) (ty := .int) (ws' := [(qp, .inr (4, [.int x1, .int a2, .int a3, .int a4, .null]))]) F hw hin 0 0 (fun x h => List.mem_cons_of_mem _ (in_P x h)) ty_P tyok_P nm_P rfl rfl (by decide) (List.mem_cons_of_mem _ m_387) rfl rfl (by decide +kernel) rfl rfl (Nat.le_of_ble_eq_true rfl) d_P_init_6 rfl (fun H locs hw => ?_)
  refine lv_aload_n (pc := 9) F.1 F.2.1 d_P_init_9 rfl (lv_at hl 0 rfl) ?_
  refine lv_iload_n (pc := 10) F.1 F.2.1 d_P_init_10 rfl (lv_at hl 2 rfl) ?_
  refine x_putF (pc := 11) (v := .int x2) (ty := .int) (ws' := [(qp, .inr (4, [.int x1, .int x2, .int a3, .int a4, .null]))]) F hw hin 0 1 (fun x h => List.mem_cons_of_mem _ (in_P x h)) ty_P tyok_P nm_P rfl rfl (by decide) (List.mem_cons_of_mem _ m_389) rfl rfl (by decide +kernel) rfl rfl (Nat.le_of_ble_eq_true rfl) d_P_init_11 rfl (fun H locs hw => ?_)
  refine lv_aload_n (pc := 14) F.1 F.2.1 d_P_init_14 rfl (lv_at hl 0 rfl) ?_
  refine lv_iload_n (pc := 15) F.1 F.2.1 d_P_init_15 rfl (lv_at hl 3 rfl) ?_
  refine x_putF (pc := 16) (v := .int x3) (ty := .int) (ws' := [(qp, .inr (4, [.int x1, .int x2, .int x3, .int a4, .null]))]) F hw hin 0 2 (fun x h => List.mem_cons_of_mem _ (in_P x h)) ty_P tyok_P nm_P rfl rfl (by decide) (List.mem_cons_of_mem _ m_391) rfl rfl (by decide +kernel) rfl rfl (Nat.le_of_ble_eq_true rfl) d_P_init_16 rfl (fun H locs hw => ?_)
  refine lv_aload_n (pc := 19) F.1 F.2.1 d_P_init_19 rfl (lv_at hl 0 rfl) ?_
  refine lv_iload (pc := 20) F.1 F.2.1 d_P_init_20 (lv_at hl 4 rfl) ?_
  refine x_putF (pc := 22) (v := .int x4) (ty := .int) (ws' := [(qp, .inr (4, [.int x1, .int x2, .int x3, .int x4, .null]))]) F hw hin 0 3 (fun x h => List.mem_cons_of_mem _ (in_P x h)) ty_P tyok_P nm_P rfl rfl (by decide) (List.mem_cons_of_mem _ m_393) rfl rfl (by decide +kernel) rfl rfl (Nat.le_of_ble_eq_true rfl) d_P_init_22 rfl (fun H locs hw => ?_)
  refine lv_aload_n (pc := 25) F.1 F.2.1 d_P_init_25 rfl (lv_at hl 0 rfl) ?_
  refine lv_aload (pc := 26) F.1 F.2.1 d_P_init_26 (lv_at hl 5 rfl) ?_
  refine x_putF (pc := 28) (v := .ref qw) (ty := (.array .int)) (ws' := [(qp, .inr (4, [.int x1, .int x2, .int x3, .int x4, .ref qw]))]) F hw hin 0 4 (fun x h => List.mem_cons_of_mem _ (in_P x h)) ty_P tyok_P nm_P rfl rfl (by decide) (List.mem_cons_of_mem _ m_395) rfl rfl (by decide +kernel) rfl rfl (Nat.le_of_ble_eq_true rfl) d_P_init_28 rfl (fun H locs hw => ?_)
  refine W.widen (k := 0) (n := 0) (by decide) (by decide) ?_
  exact ret (x1, x2, x3, x4) _ _ 31 _ (by unfold F_P_init <;> rfl) hw d_P_init_31
def F_J_checkLength  : Unit :=
  ()
set_option maxHeartbeats 4000000 in
set_option maxRecDepth 100000 in
theorem c_J_checkLength (l : Launch) (D : va_G) (cT : Nat → ClassId) (s0 : Nat) (e0 : Nat) (hs : s0 ≤ e0) (he : e0 < 2147483648) : Ctv l y_J_checkLength ws_J_checkLength { frames := 0, cells := 0, slots := 0, locals := 0 } D vwCl (TYS cT) [.int (nI s0), .int (nI e0)] [] (fun (uu : Unit) => F_J_checkLength = uu) (fun (u : Unit) => []) 0 0 := by
  refine x_inv (cc := b_J_checkLength) (maxL := 2) (by decide) rfl (Nat.le_of_ble_eq_true rfl) ?_
  intro p e s m args below meth c A ls Q F hin hl hw ret
  have hl : lv_has ls 2 [(0, .int (nI s0)), (1, .int (nI e0))] := hl
  refine lv_iload_n (pc := 0) F.1 F.2.1 d_J_checkLength_0 rfl (lv_at hl 1 rfl) ?_
  refine lv_iload_n (pc := 1) F.1 F.2.1 d_J_checkLength_1 rfl (lv_at hl 0 rfl) ?_
  refine lv_icmp_ge (pc := 2) (tgt := 37) F.1 F.2.1 d_J_checkLength_2 rfl (fun h1 => ?_) (fun h1 => ?_)
  · refine W.widen (k := 0) (n := 0) (by decide) (by decide) ?_
    exact ret () _ _ 37 _ (by unfold F_J_checkLength <;> rfl) hw d_J_checkLength_37
  · exact absurd ((nI_leI (a := s0) (b := e0) (by omega) (by omega)).mpr (by omega)) h1
set_option maxHeartbeats 4000000 in
set_option maxRecDepth 100000 in
theorem c_J_copyOfRangeInt (l : Launch) (D : va_G) (cT : Nat → ClassId) (qa : Nat) (n : Nat) (fa : Nat → Int32) (s0 : Nat) (e0 : Nat) (he : e0 = s0 + 8) (hs : e0 ≤ n) (hn : n < 2147483648) : Ctq l y_J_copyOfRangeInt ws_J_copyOfRangeInt { frames := 1, cells := 1, slots := 8, locals := 24 } D vwCl (TYS cT) [.ref qa, .int (nI s0), .int (nI e0)] [(qa, .inl (cT 0, n, .inl fa))] (fun (rr : Option Nat) (uu : Nat) => rr = some uu) (fun (u : Nat) => [(qa, .inl (cT 0, n, .inl fa)), (u, .inl (cT 0, 8, .inl (va_cpy fa (fun _ => 0) s0 0 8)))]) 1 8 := by
  refine x_inq (cc := b_J_copyOfRangeInt) (maxL := 5) (by decide) rfl (Nat.le_of_ble_eq_true rfl) (by first | exact Or.inl ⟨_, rfl⟩ | exact Or.inr ⟨_, rfl⟩) ?_
  intro p e s m args below meth c A ls Q F hl hw ret
  have hl : lv_has ls 5 [(0, .ref qa), (1, .int (nI s0)), (2, .int (nI e0))] := hl
  refine lv_iload_n (pc := 0) F.1 F.2.1 d_J_copyOfRangeInt_0 rfl (lv_at hl 1 rfl) ?_
  refine lv_iload_n (pc := 1) F.1 F.2.1 d_J_copyOfRangeInt_1 rfl (lv_at hl 2 rfl) ?_
  refine x_callv (pc := 2) (wr := [(qa, .inl (cT 0, n, .inl fa))]) hw [] [0] rfl rfl (by decide) (by decide) (va_runS (As := [.int (nI s0), .int (nI e0)]) (rest := []) F (c_J_checkLength l D cT s0 e0 (by omega) (by omega) _) (x_cwS 2 F (g_all y_J_checkLength b_J_checkLength 2 none (List.mem_cons_of_mem _ m_370)) rfl rfl rfl (F.2.2.2.2 _ (List.mem_cons_of_mem _ m_41)) (F.2.2.2.2 _ (List.mem_cons_of_mem _ m_368)) (F.2.2.2.2 _ (List.mem_cons_of_mem _ m_369)) (by decide +kernel) ⟨by decide, by decide⟩) (hw.preS [] (by decide) rfl) rfl rfl hl.1 rfl (lv_room (Nat.le_of_ble_eq_true rfl)) d_J_copyOfRangeInt_2 ⟨by decide, by decide⟩) (fun u2 H locs e1 hw => ?_)
  have hw : Hw D vwCl (TYS cT) A s [(qa, .inl (cT 0, n, .inl fa))] H locs := hw
  refine lv_iload_n (pc := 5) F.1 F.2.1 d_J_copyOfRangeInt_5 rfl (lv_at hl 2 rfl) ?_
  refine lv_iload_n (pc := 6) F.1 F.2.1 d_J_copyOfRangeInt_6 rfl (lv_at hl 1 rfl) ?_
  refine lv_isub (pc := 7) F.1 F.2.1 d_J_copyOfRangeInt_7 ?_
  refine x_top (y := nI (e0 - s0)) (x_sub2 rfl rfl (by omega)) ?_
  refine x_top (y := 8) (by rw [he, Nat.add_sub_cancel_left]; rfl) ?_
  refine lv_istore_n (pc := 8) (lv' := [(3, .int 8), (0, .ref qa), (1, .int (nI s0)), (2, .int (nI e0))]) F.1 F.2.1 d_J_copyOfRangeInt_8 rfl hl (by decide) rfl (fun ls hl => ?_)
  refine lv_iload_n (pc := 9) F.1 F.2.1 d_J_copyOfRangeInt_9 rfl (lv_at hl 0 rfl) ?_
  refine x_newi (pc := 10) F hw 0 rfl (List.mem_cons_of_mem _ m_93) (by decide) rfl (by decide) (by decide) (by decide) d_J_copyOfRangeInt_10 (fun q3 H hw => ?_)
  have hw : Hw D vwCl (TYS cT) A s [(qa, .inl (cT 0, n, .inl fa)), (q3, .inl (cT 0, 8, .inl (fun _ => 0)))] H locs := hw
  refine lv_astore (pc := 12) (lv' := [(4, .ref q3), (3, .int 8), (0, .ref qa), (1, .int (nI s0)), (2, .int (nI e0))]) F.1 F.2.1 d_J_copyOfRangeInt_12 hl (by decide) rfl (fun ls hl => ?_)
  refine lv_aload_n (pc := 14) F.1 F.2.1 d_J_copyOfRangeInt_14 rfl (lv_at hl 2 rfl) ?_
  refine lv_iload_n (pc := 15) F.1 F.2.1 d_J_copyOfRangeInt_15 rfl (lv_at hl 3 rfl) ?_
  refine lv_aload (pc := 16) F.1 F.2.1 d_J_copyOfRangeInt_16 (lv_at hl 0 rfl) ?_
  refine lv_iconst (pc := 18) (v := 0) F.1 F.2.1 d_J_copyOfRangeInt_18 (by decide) ?_
  refine lv_aload_n (pc := 19) F.1 F.2.1 d_J_copyOfRangeInt_19 rfl (lv_at hl 2 rfl) ?_
  refine va_alen (pc := 20) (v := nI n) F.1 F.2.1 hw.1 hw.2.1 0 0 rfl rfl rfl d_J_copyOfRangeInt_20 ?_
  refine lv_iload_n (pc := 21) F.1 F.2.1 d_J_copyOfRangeInt_21 rfl (lv_at hl 3 rfl) ?_
  refine lv_isub (pc := 22) F.1 F.2.1 d_J_copyOfRangeInt_22 ?_
  refine x_top (y := nI (n - s0)) (x_sub2 rfl rfl (by omega)) ?_
  refine lv_iload_n (pc := 23) F.1 F.2.1 d_J_copyOfRangeInt_23 rfl (lv_at hl 1 rfl) ?_
  refine va_mmin (pc := 24) F.1 F.2.1 (F.2.2.1.trans hl.1.symm) F.2.2.2.1 (F.2.2.2.2 _ (List.mem_cons_of_mem _ m_371)) (F.2.2.2.2 _ (List.mem_cons_of_mem _ m_372)) (F.2.2.2.2 _ (List.mem_cons_of_mem _ m_43)) (F.2.2.2.2 _ (List.mem_cons_of_mem _ m_373)) (by decide) (Nat.le_of_ble_eq_true rfl) (by decide) (by decide) d_J_copyOfRangeInt_24 ?_
  refine x_top (y := 8) (min8 (by omega) (by omega)) ?_
  refine x_copyi (pc := 27) (ws' := [(qa, .inl (cT 0, n, .inl fa)), (q3, .inl (cT 0, 8, .inl (va_cpy fa (fun _ => 0) s0 0 8)))]) F hl hw 0 1 0 (s0) (0) (8) (List.mem_cons_of_mem _ m_374) (List.mem_cons_of_mem _ m_254) (List.mem_cons_of_mem _ m_253) (List.mem_cons_of_mem _ m_42) rfl rfl rfl rfl rfl rfl (by omega) (by omega) (by first | decide | omega) (by first | decide | omega) (by decide) (by decide) d_J_copyOfRangeInt_27 rfl (fun H locs hw => ?_)
  refine lv_aload (pc := 30) F.1 F.2.1 d_J_copyOfRangeInt_30 (lv_at hl 0 rfl) ?_
  refine W.widen (k := 1) (n := 8) (by decide) (by decide) ?_
  exact ret (some q3) q3 _ _ 32 _ rfl hw d_J_copyOfRangeInt_32
set_option maxHeartbeats 4000000 in
set_option maxRecDepth 100000 in
theorem c_J_copyOfRange (l : Launch) (D : va_G) (cT : Nat → ClassId) (qa : Nat) (n : Nat) (fa : Nat → Int32) (s0 : Nat) (e0 : Nat) (he : e0 = s0 + 8) (hs : e0 ≤ n) (hn : n < 2147483648) (h8 : n ≠ 8) : Ctq l y_J_copyOfRange ws_J_copyOfRange { frames := 2, cells := 1, slots := 8, locals := 48 } D vwCl (TYS cT) [.ref qa, .int (nI s0), .int (nI e0)] [(qa, .inl (cT 0, n, .inl fa))] (fun (rr : Option Nat) (uu : Nat) => rr = some uu) (fun (u : Nat) => [(qa, .inl (cT 0, n, .inl fa)), (u, .inl (cT 0, 8, .inl (va_cpy fa (fun _ => 0) s0 0 8)))]) 1 8 := by
  refine x_inq (cc := b_J_copyOfRange) (maxL := 3) (by decide) rfl (Nat.le_of_ble_eq_true rfl) (by first | exact Or.inl ⟨_, rfl⟩ | exact Or.inr ⟨_, rfl⟩) ?_
  intro p e s m args below meth c A ls Q F hl hw ret
  have hl : lv_has ls 3 [(0, .ref qa), (1, .int (nI s0)), (2, .int (nI e0))] := hl
  refine lv_iload_n (pc := 0) F.1 F.2.1 d_J_copyOfRange_0 rfl (lv_at hl 1 rfl) ?_
  refine lv_if_ne (pc := 1) (tgt := 10) F.1 F.2.1 d_J_copyOfRange_1 rfl (fun h1 => ?_) (fun h1 => ?_)
  · refine lv_aload_n (pc := 10) F.1 F.2.1 d_J_copyOfRange_10 rfl (lv_at hl 0 rfl) ?_
    refine lv_iload_n (pc := 11) F.1 F.2.1 d_J_copyOfRange_11 rfl (lv_at hl 1 rfl) ?_
    refine lv_iload_n (pc := 12) F.1 F.2.1 d_J_copyOfRange_12 rfl (lv_at hl 2 rfl) ?_
    refine x_callq (pc := 13) (wr := []) hw [0] [] rfl rfl (by decide) (by decide) (va_runS (As := [.ref qa, .int (nI s0), .int (nI e0)]) (rest := []) F (c_J_copyOfRangeInt l D cT qa n fa s0 e0 (by omega) (by omega) (by omega) _) (x_cwS 3 F (g_all y_J_copyOfRangeInt b_J_copyOfRangeInt 5 (some (.array .int)) (List.mem_cons_of_mem _ m_367)) rfl rfl rfl (F.2.2.2.2 _ (List.mem_cons_of_mem _ m_41)) (F.2.2.2.2 _ (List.mem_cons_of_mem _ m_365)) (F.2.2.2.2 _ (List.mem_cons_of_mem _ m_366)) (by decide +kernel) ⟨by decide, by decide⟩) (hw.preS [0] (by decide) rfl) rfl rfl hl.1 rfl (lv_room (Nat.le_of_ble_eq_true rfl)) d_J_copyOfRange_13 ⟨by decide, by decide⟩) (fun r3 u4 H locs e2 hw => ?_)
    subst e2
    refine x_ref ?_
    refine W.widen (k := 1) (n := 8) (by decide) (by decide) ?_
    exact ret (some u4) u4 _ _ 16 _ rfl hw d_J_copyOfRange_16
  · refine lv_iload_n (pc := 4) F.1 F.2.1 d_J_copyOfRange_4 rfl (lv_at hl 2 rfl) ?_
    refine lv_aload_n (pc := 5) F.1 F.2.1 d_J_copyOfRange_5 rfl (lv_at hl 0 rfl) ?_
    refine va_alen (pc := 6) (v := nI n) F.1 F.2.1 hw.1 hw.2.1 0 0 rfl rfl rfl d_J_copyOfRange_6 ?_
    refine lv_icmp_eq (pc := 7) (tgt := 17) F.1 F.2.1 d_J_copyOfRange_7 rfl (fun h5 => ?_) (fun h5 => ?_)
    · exact absurd ((nI_eq (by omega) (by omega)).mp h5) (by have z9 := (nI_eq (a := s0) (b := 0) (by omega) (by omega)).mp h1; omega)
    · refine lv_aload_n (pc := 10) F.1 F.2.1 d_J_copyOfRange_10 rfl (lv_at hl 0 rfl) ?_
      refine lv_iload_n (pc := 11) F.1 F.2.1 d_J_copyOfRange_11 rfl (lv_at hl 1 rfl) ?_
      refine lv_iload_n (pc := 12) F.1 F.2.1 d_J_copyOfRange_12 rfl (lv_at hl 2 rfl) ?_
      refine x_callq (pc := 13) (wr := []) hw [0] [] rfl rfl (by decide) (by decide) (va_runS (As := [.ref qa, .int (nI s0), .int (nI e0)]) (rest := []) F (c_J_copyOfRangeInt l D cT qa n fa s0 e0 (by omega) (by omega) (by omega) _) (x_cwS 3 F (g_all y_J_copyOfRangeInt b_J_copyOfRangeInt 5 (some (.array .int)) (List.mem_cons_of_mem _ m_367)) rfl rfl rfl (F.2.2.2.2 _ (List.mem_cons_of_mem _ m_41)) (F.2.2.2.2 _ (List.mem_cons_of_mem _ m_365)) (F.2.2.2.2 _ (List.mem_cons_of_mem _ m_366)) (by decide +kernel) ⟨by decide, by decide⟩) (hw.preS [0] (by decide) rfl) rfl rfl hl.1 rfl (lv_room (Nat.le_of_ble_eq_true rfl)) d_J_copyOfRange_13 ⟨by decide, by decide⟩) (fun r7 u8 H locs e6 hw => ?_)
      subst e6
      refine x_ref ?_
      refine W.widen (k := 1) (n := 8) (by decide) (by decide) ?_
      exact ret (some u8) u8 _ _ 16 _ rfl hw d_J_copyOfRange_16
def F_L_add (qa : Nat) (zn : Int32) (pz : Nat → Option Nat) : (Nat → Option Nat) × Int32 :=
  if 8 ≤ (nI (tN zn)) then
    (pz, zn)
  else
    (va_up pz (tN zn) (some qa), nI (tN zn + 1))
set_option maxHeartbeats 4000000 in
set_option maxRecDepth 100000 in
theorem c_L_add (l : Launch) (D : va_G) (cT : Nat → ClassId) (ql : Nat) (qpi : Nat) (qa : Nat) (zn : Int32) (pz : Nat → Option Nat) (LP : List Nat) (fP : Nat → va_E) (vs : List Value) (ha : qa ∈ LP) (hf : fP qa = .inr (4, vs)) (nzn : isN zn 9) : Ctv l y_L_add ws_L_add { frames := 0, cells := 0, slots := 0, locals := 0 } D vwCl (TYS cT) [.ref ql, .ref qa] ([(ql, .inr (1, [.ref qpi, .int zn])), (qpi, .inl (cT 3, 8, .inr (.inr (.inr (.inr pz)))))] ++ va_pl LP fP) (fun (uu : (Nat → Option Nat) × Int32) => F_L_add qa zn pz = uu) (fun (u : (Nat → Option Nat) × Int32) => [(ql, .inr (1, [.ref qpi, .int (u.2)])), (qpi, .inl (cT 3, 8, .inr (.inr (.inr (.inr u.1)))))] ++ va_pl LP fP) 0 0 := by
  refine x_inv (cc := b_L_add) (maxL := 2) (by decide) rfl (Nat.le_of_ble_eq_true rfl) ?_
  intro p e s m args below meth c A ls Q F hin hl hw ret
  have hl : lv_has ls 2 [(0, .ref ql), (1, .ref qa)] := hl
  have nznb := nzn.2
  refine lv_aload_n (pc := 0) F.1 F.2.1 d_L_add_0 rfl (lv_at hl 0 rfl) ?_
  refine x_get (pc := 1) (v := .int zn) F hw 0 1 (fun x h => List.mem_cons_of_mem _ (in_L x h)) rfl rfl (by decide) (List.mem_cons_of_mem _ m_102) rfl d_L_add_1 ?_
  refine x_top (y := nI (tN zn)) nzn.1 ?_
  refine lv_bipush (pc := 4) (v := 8) F.1 F.2.1 d_L_add_4 (by decide) ?_
  refine lv_icmp_ge (pc := 6) (tgt := 29) F.1 F.2.1 d_L_add_6 rfl (fun h1 => ?_) (fun h1 => ?_)
  · refine W.widen (k := 0) (n := 0) (by decide) (by decide) ?_
    exact ret (pz, zn) _ _ 29 _ (by unfold F_L_add <;> rw [if_pos h1] <;> rfl) hw d_L_add_29
  · have z9 := nle_nat (m := 8) h1 (by omega) (by omega)
    refine lv_aload_n (pc := 9) F.1 F.2.1 d_L_add_9 rfl (lv_at hl 0 rfl) ?_
    refine x_get (pc := 10) (v := .ref qpi) F hw 0 0 (fun x h => List.mem_cons_of_mem _ (in_L x h)) rfl rfl (by decide) (List.mem_cons_of_mem _ m_100) rfl d_L_add_10 ?_
    refine lv_aload_n (pc := 13) F.1 F.2.1 d_L_add_13 rfl (lv_at hl 0 rfl) ?_
    refine x_get (pc := 14) (v := .int zn) F hw 0 1 (fun x h => List.mem_cons_of_mem _ (in_L x h)) rfl rfl (by decide) (List.mem_cons_of_mem _ m_102) rfl d_L_add_14 ?_
    refine x_top (y := nI (tN zn)) nzn.1 ?_
    refine lv_aload_n (pc := 17) F.1 F.2.1 d_L_add_17 rfl (lv_at hl 1 rfl) ?_
    obtain ⟨kq, hkq⟩ := va_pl_get (X := [(ql, .inr (1, [.ref qpi, .int zn])), (qpi, .inl (cT 3, 8, .inr (.inr (.inr (.inr pz)))))]) (f := fP) ha
    rw [hf] at hkq
    refine x_astq (pc := 18) (ws' := [(ql, .inr (1, [.ref qpi, .int zn])), (qpi, .inl (cT 3, 8, .inr (.inr (.inr (.inr (va_up pz (tN zn) (some qa)))))))] ++ va_pl LP fP) F hw 1 3 kq (tN zn) rfl rfl hkq rfl rfl (by omega) (by decide) d_L_add_18 rfl (fun H locs hw => ?_)
    refine lv_aload_n (pc := 19) F.1 F.2.1 d_L_add_19 rfl (lv_at hl 0 rfl) ?_
    refine lv_dup (pc := 20) F.1 F.2.1 d_L_add_20 rfl ?_
    refine x_get (pc := 21) (v := .int zn) F hw 0 1 (fun x h => List.mem_cons_of_mem _ (in_L x h)) rfl rfl (by decide) (List.mem_cons_of_mem _ m_102) rfl d_L_add_21 ?_
    refine x_top (y := nI (tN zn)) nzn.1 ?_
    refine lv_iconst (pc := 24) (v := 1) F.1 F.2.1 d_L_add_24 (by decide) ?_
    refine lv_iadd (pc := 25) F.1 F.2.1 d_L_add_25 ?_
    refine x_top (y := nI (tN zn + 1)) (x_add2 rfl rfl) ?_
    refine x_put (pc := 26) (v := .int (nI (tN zn + 1))) (ty := .int) (ws' := [(ql, .inr (1, [.ref qpi, .int (nI (tN zn + 1))])), (qpi, .inl (cT 3, 8, .inr (.inr (.inr (.inr (va_up pz (tN zn) (some qa)))))))] ++ va_pl LP fP) F hw 0 1 (fun x h => List.mem_cons_of_mem _ (in_L x h)) ty_L tyok_L nm_L rfl rfl (by decide) (List.mem_cons_of_mem _ m_102) rfl (by decide +kernel) rfl rfl (Nat.le_of_ble_eq_true rfl) d_L_add_26 rfl (fun H locs hw => ?_)
    refine W.widen (k := 0) (n := 0) (by decide) (by decide) ?_
    exact ret (va_up pz (tN zn) (some qa), nI (tN zn + 1)) _ _ 29 _ (by unfold F_L_add <;> rw [if_neg h1] <;> rfl) hw d_L_add_29
theorem PI.of_add {cT : Nat → ClassId} {LP : List Nat} {f : Nat → va_E} {pz pzv : Nat → Option Nat} {zn znv : Int32} {pk pm pp ps : Nat → Int32} {pw : Nat → Nat → Int32} {qa w : Nat} {k m p s : Int32} {gg : Nat → Int32} (h : PI cT LP f pz (tN zn) pk pm pp ps pw) (hz : isN zn 9) (ha : qa ∈ LP) (hf : f qa = .inr (4, [.int k, .int m, .int p, .int s, .ref w])) (hw : k = 1 → ∃ g : Nat → Int32, w ∈ LP ∧ f w = .inl (cT 0, 8, .inl g) ∧ ∀ i, i < 8 → g i = gg i) (e : F_L_add qa zn pz = (pzv, znv)) :
    PI cT LP f pzv (tN znv) (addI zn pk k) (addI zn pm m) (addI zn pp p) (addI zn ps s) (addW zn pw gg) ∧ isN znv 9 ∧ addZ zn = znv := by
  have hzb := hz.2
  unfold F_L_add at e
  unfold addI addW addZ
  by_cases h1 : 8 ≤ nI (tN zn)
  · rw [if_pos h1] at e
    rw [if_pos h1, if_pos h1, if_pos h1, if_pos h1, if_pos h1, if_pos h1]
    cases e
    exact ⟨h, hz, rfl⟩
  · rw [if_neg h1] at e
    rw [if_neg h1, if_neg h1, if_neg h1, if_neg h1, if_neg h1, if_neg h1]
    cases e
    have z9 := nle_nat (m := 8) h1 (by omega) (by omega)
    refine ⟨?_, isN_nI (by omega) (by decide), rfl⟩
    rw [tN_nI (by omega)]
    exact h.put ha hf hw
def F_L_remove (zn : Int32) (pz : Nat → Option Nat) (k0 : Nat) : Option Nat × (Nat → Option Nat) × Int32 :=
  (pz k0, (va_cpy pz pz (k0 + 1) k0 (tN zn - 1 - k0), nI (tN zn - 1)))
set_option maxHeartbeats 4000000 in
set_option maxRecDepth 100000 in
theorem c_L_remove (l : Launch) (D : va_G) (cT : Nat → ClassId) (ql : Nat) (qpi : Nat) (zn : Int32) (pz : Nat → Option Nat) (k0 : Nat) (LP : List Nat) (fP : Nat → va_E) (nzn : isN zn 9) (hk : k0 < tN zn) (hps : ∀ j, j < tN zn → ∃ (y : Nat) (vs : List Value), pz j = some y ∧ y ∈ LP ∧ fP y = .inr (4, vs)) : Ctq l y_L_remove ws_L_remove { frames := 0, cells := 0, slots := 0, locals := 0 } D vwCl (TYS cT) [.ref ql, .int (nI k0)] ([(ql, .inr (1, [.ref qpi, .int zn])), (qpi, .inl (cT 3, 8, .inr (.inr (.inr (.inr pz)))))] ++ va_pl LP fP) (fun (rr : Option Nat) (uu : (Nat → Option Nat) × Int32) => F_L_remove zn pz k0 = (rr, uu)) (fun (u : (Nat → Option Nat) × Int32) => [(ql, .inr (1, [.ref qpi, .int (u.2)])), (qpi, .inl (cT 3, 8, .inr (.inr (.inr (.inr u.1)))))] ++ va_pl LP fP) 0 0 := by
  refine x_inq (cc := b_L_remove) (maxL := 4) (by decide) rfl (Nat.le_of_ble_eq_true rfl) (by first | exact Or.inl ⟨_, rfl⟩ | exact Or.inr ⟨_, rfl⟩) ?_
  intro p e s m args below meth c A ls Q F hl hw ret
  have hl : lv_has ls 4 [(0, .ref ql), (1, .int (nI k0))] := hl
  have nznb := nzn.2
  obtain ⟨y0, v0, hy0, -, -⟩ := hps k0 hk
  refine lv_aload_n (pc := 0) F.1 F.2.1 d_L_remove_0 rfl (lv_at hl 0 rfl) ?_
  refine x_get (pc := 1) (v := .ref qpi) F hw 0 0 (fun x h => List.mem_cons_of_mem _ (in_L x h)) rfl rfl (by decide) (List.mem_cons_of_mem _ m_100) rfl d_L_remove_1 ?_
  refine lv_iload_n (pc := 4) F.1 F.2.1 d_L_remove_4 rfl (lv_at hl 1 rfl) ?_
  refine x_aldq (pc := 5) F hw 1 3 (k0) rfl rfl rfl (by omega) (by decide) d_L_remove_5 ?_
  rw [hy0]
  refine x_ref ?_
  refine lv_astore_n (pc := 6) (lv' := [(2, .ref y0), (0, .ref ql), (1, .int (nI k0))]) F.1 F.2.1 d_L_remove_6 rfl hl (by decide) rfl (fun ls hl => ?_)
  refine lv_aload_n (pc := 7) F.1 F.2.1 d_L_remove_7 rfl (lv_at hl 1 rfl) ?_
  refine lv_dup (pc := 8) F.1 F.2.1 d_L_remove_8 rfl ?_
  refine x_get (pc := 9) (v := .int zn) F hw 0 1 (fun x h => List.mem_cons_of_mem _ (in_L x h)) rfl rfl (by decide) (List.mem_cons_of_mem _ m_102) rfl d_L_remove_9 ?_
  refine x_top (y := nI (tN zn)) nzn.1 ?_
  refine lv_iconst (pc := 12) (v := 1) F.1 F.2.1 d_L_remove_12 (by decide) ?_
  refine lv_isub (pc := 13) F.1 F.2.1 d_L_remove_13 ?_
  refine x_top (y := nI (tN zn - 1)) (x_sub2 rfl rfl (by omega)) ?_
  refine x_put (pc := 14) (v := .int (nI (tN zn - 1))) (ty := .int) (ws' := [(ql, .inr (1, [.ref qpi, .int (nI (tN zn - 1))])), (qpi, .inl (cT 3, 8, .inr (.inr (.inr (.inr pz)))))] ++ va_pl LP fP) F hw 0 1 (fun x h => List.mem_cons_of_mem _ (in_L x h)) ty_L tyok_L nm_L rfl rfl (by decide) (List.mem_cons_of_mem _ m_102) rfl (by decide +kernel) rfl rfl (Nat.le_of_ble_eq_true rfl) d_L_remove_14 rfl (fun H locs hw => ?_)
  refine lv_iload_n (pc := 17) F.1 F.2.1 d_L_remove_17 rfl (lv_at hl 2 rfl) ?_
  refine lv_istore_n (pc := 18) (lv' := [(3, .int (nI k0)), (2, .ref y0), (0, .ref ql), (1, .int (nI k0))]) F.1 F.2.1 d_L_remove_18 rfl hl (by decide) rfl (fun ls hl => ?_)
  have loop1 : ∀ (kf : Nat) (n : Nat) (ls : Array Slot) (H : Heap) (locs : List Loc), tN zn - n = kf → (k0 + n < tN zn) → lv_has ls 4 [(3, .int (nI (k0 + n))), (2, .ref y0), (0, .ref ql), (1, .int (nI k0))] → Hw D vwCl (TYS cT) A s ([(ql, .inr (1, [.ref qpi, .int (nI (tN zn - 1))])), (qpi, .inl (cT 3, 8, .inr (.inr (.inr (.inr (va_cpy pz pz (k0 + 1) k0 n))))))] ++ va_pl LP fP) H locs → W p l e { frames := 0, cells := 0, slots := 0, locals := 0 } s m args below meth c H locs 0 0 Q (F0 m 19 ls []) := by
    intro kf
    induction kf using Nat.strongRecOn with
    | _ kf ih1 =>
    intro n ls H locs hk hi hl hw
    refine lv_iload_n (pc := 19) F.1 F.2.1 d_L_remove_19 rfl (lv_at hl 0 rfl) ?_
    refine lv_aload_n (pc := 20) F.1 F.2.1 d_L_remove_20 rfl (lv_at hl 2 rfl) ?_
    refine x_get (pc := 21) (v := .int (nI (tN zn - 1))) F hw 0 1 (fun x h => List.mem_cons_of_mem _ (in_L x h)) rfl rfl (by decide) (List.mem_cons_of_mem _ m_102) rfl d_L_remove_21 ?_
    refine lv_icmp_ge (pc := 24) (tgt := 47) F.1 F.2.1 d_L_remove_24 rfl (fun h2 => ?_) (fun h2 => ?_)
    · have h2 := (nI_leI (a := tN zn - 1) (b := k0 + n) (by omega) (by omega)).mp h2
      obtain rfl : n = tN zn - 1 - k0 := by omega
      refine lv_aload_n (pc := 47) F.1 F.2.1 d_L_remove_47 rfl (lv_at hl 1 rfl) ?_
      refine x_unref hy0 ?_
      refine W.widen (k := 0) (n := 0) (by decide) (by decide) ?_
      exact ret (pz k0) (va_cpy pz pz (k0 + 1) k0 (tN zn - 1 - k0), nI (tN zn - 1)) _ _ 48 _ (by unfold F_L_remove <;> rfl) hw d_L_remove_48
    · have h2 : ¬ tN zn - 1 ≤ k0 + n := fun z9 => h2 ((nI_leI (a := tN zn - 1) (b := k0 + n) (by omega) (by omega)).mpr z9)
      refine lv_aload_n (pc := 27) F.1 F.2.1 d_L_remove_27 rfl (lv_at hl 2 rfl) ?_
      refine x_get (pc := 28) (v := .ref qpi) F hw 0 0 (fun x h => List.mem_cons_of_mem _ (in_L x h)) rfl rfl (by decide) (List.mem_cons_of_mem _ m_100) rfl d_L_remove_28 ?_
      refine lv_iload_n (pc := 31) F.1 F.2.1 d_L_remove_31 rfl (lv_at hl 0 rfl) ?_
      refine lv_aload_n (pc := 32) F.1 F.2.1 d_L_remove_32 rfl (lv_at hl 2 rfl) ?_
      refine x_get (pc := 33) (v := .ref qpi) F hw 0 0 (fun x h => List.mem_cons_of_mem _ (in_L x h)) rfl rfl (by decide) (List.mem_cons_of_mem _ m_100) rfl d_L_remove_33 ?_
      refine lv_iload_n (pc := 36) F.1 F.2.1 d_L_remove_36 rfl (lv_at hl 0 rfl) ?_
      refine lv_iconst (pc := 37) (v := 1) F.1 F.2.1 d_L_remove_37 (by decide) ?_
      refine lv_iadd (pc := 38) F.1 F.2.1 d_L_remove_38 ?_
      refine x_top (y := nI (k0 + n + 1)) (x_add2 rfl rfl) ?_
      refine x_aldq (pc := 39) F hw 1 3 (k0 + n + 1) rfl rfl rfl (by omega) (by decide) d_L_remove_39 ?_
      obtain ⟨y1, v1, hy1, hy2, hy3⟩ := hps (k0 + n + 1) (by omega)
      rw [show va_cpy pz pz (k0 + 1) k0 n (k0 + n + 1) = some y1 from (pk_cpy_out (by omega)).trans hy1]
      refine x_ref ?_
      obtain ⟨kq, hkq⟩ := va_pl_get (X := [(ql, .inr (1, [.ref qpi, .int (nI (tN zn - 1))])), (qpi, .inl (cT 3, 8, .inr (.inr (.inr (.inr (va_cpy pz pz (k0 + 1) k0 n))))))]) (f := fP) hy2
      rw [hy3] at hkq
      refine x_astq (pc := 40) (ws' := [(ql, .inr (1, [.ref qpi, .int (nI (tN zn - 1))])), (qpi, .inl (cT 3, 8, .inr (.inr (.inr (.inr (va_up (va_cpy pz pz (k0 + 1) k0 n) (k0 + n) (some y1)))))))] ++ va_pl LP fP) F hw 1 3 kq (k0 + n) rfl rfl hkq rfl rfl (by omega) (by decide) d_L_remove_40 rfl (fun H locs hw => ?_)
      refine lv_iinc (pc := 41) (k := 0) (v := nI (k0 + n + 1)) (lv' := [(3, .int (nI (k0 + n + 1))), (2, .ref y0), (0, .ref ql), (1, .int (nI k0))]) F.1 F.2.1 d_L_remove_41 hl rfl (x_add2 rfl rfl) (by decide) rfl (fun ls hl => ?_)
      refine lv_goto (pc := 44) (tgt := 19) F.1 F.2.1 d_L_remove_44 rfl ?_
      have ec3 : va_up (va_cpy pz pz (k0 + 1) k0 n) (k0 + n) (some y1) = va_cpy pz pz (k0 + 1) k0 (n + 1) := cpyq_s2 rfl (hy1.symm.trans (congrArg pz (by omega)))
      rw [ec3] at hw
      have ec4 : nI (k0 + n + 1) = nI (k0 + (n + 1)) := rfl
      rw [ec4] at hl
      exact ih1 _ (by omega) (n + 1) _ _ _ rfl (by omega) hl hw
  exact loop1 _ 0 _ _ _ rfl (by omega) hl (by rw [cpy_0]; exact hw)
