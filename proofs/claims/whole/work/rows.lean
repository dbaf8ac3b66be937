section
-- ===== PART A: goes FIRST, ahead of the names: the tables' words, and 'selects' of the private methods out of them =====
/-- a private method of a class that the tables say can be made, by its rows of tables_1 -/
def lw_okq (q : MethodName × Nat) : Prop := (q.1.cls ≠ "java/lang/invoke/MethodHandle" ∧ q.1.cls ≠ "java/lang/invoke/VarHandle") ∧ Cond.instantiable q.1.cls q.2 ∈ tables_1 ∧ Cond.privateMethod q.1 ∈ tables_1 ∧ Cond.instanceMethod q.1 ∈ tables_1
theorem lw_p0 : lw_okq (⟨"MovingGuest", "runsGuest", "(I)Z"⟩, 7) := ⟨⟨by decide +kernel, by decide +kernel⟩, List.mem_of_getElem? (i := 12) (by decide +kernel), List.mem_of_getElem? (i := 232) (by decide +kernel), List.mem_of_getElem? (i := 233) (by decide +kernel)⟩
theorem lw_p1 : lw_okq (⟨"MovingGuest", "holdsStopped", "(I)Z"⟩, 7) := ⟨⟨by decide +kernel, by decide +kernel⟩, List.mem_of_getElem? (i := 12) (by decide +kernel), List.mem_of_getElem? (i := 236) (by decide +kernel), List.mem_of_getElem? (i := 237) (by decide +kernel)⟩
theorem lw_p2 : lw_okq (⟨"MovingGuest", "retireNext", "(LMovingGuest$Host;)Z"⟩, 7) := ⟨⟨by decide +kernel, by decide +kernel⟩, List.mem_of_getElem? (i := 12) (by decide +kernel), List.mem_of_getElem? (i := 240) (by decide +kernel), List.mem_of_getElem? (i := 241) (by decide +kernel)⟩
theorem lw_p3 : lw_okq (⟨"MovingGuest", "perform", "(LMovingGuest$Host;I)V"⟩, 7) := ⟨⟨by decide +kernel, by decide +kernel⟩, List.mem_of_getElem? (i := 12) (by decide +kernel), List.mem_of_getElem? (i := 248) (by decide +kernel), List.mem_of_getElem? (i := 249) (by decide +kernel)⟩
theorem lw_p4 : lw_okq (⟨"MovingGuest", "storeWord", "(LMovingGuest$Machine;II)V"⟩, 7) := ⟨⟨by decide +kernel, by decide +kernel⟩, List.mem_of_getElem? (i := 12) (by decide +kernel), List.mem_of_getElem? (i := 256) (by decide +kernel), List.mem_of_getElem? (i := 257) (by decide +kernel)⟩
theorem lw_p5 : lw_okq (⟨"MovingGuest$Machine", "write", "(I)V"⟩, 12) := ⟨⟨by decide +kernel, by decide +kernel⟩, List.mem_of_getElem? (i := 85) (by decide +kernel), List.mem_of_getElem? (i := 277) (by decide +kernel), List.mem_of_getElem? (i := 278) (by decide +kernel)⟩
theorem lw_p6 : lw_okq (⟨"MovingGuest$Machine", "readOldest", "()I"⟩, 12) := ⟨⟨by decide +kernel, by decide +kernel⟩, List.mem_of_getElem? (i := 85) (by decide +kernel), List.mem_of_getElem? (i := 281) (by decide +kernel), List.mem_of_getElem? (i := 282) (by decide +kernel)⟩
theorem lw_p7 : lw_okq (⟨"MovingGuest", "source", "()LMovingGuest$Host;"⟩, 7) := ⟨⟨by decide +kernel, by decide +kernel⟩, List.mem_of_getElem? (i := 12) (by decide +kernel), List.mem_of_getElem? (i := 320) (by decide +kernel), List.mem_of_getElem? (i := 321) (by decide +kernel)⟩
theorem lw_p8 : lw_okq (⟨"MovingGuest", "sendPage", "(I)V"⟩, 7) := ⟨⟨by decide +kernel, by decide +kernel⟩, List.mem_of_getElem? (i := 12) (by decide +kernel), List.mem_of_getElem? (i := 336) (by decide +kernel), List.mem_of_getElem? (i := 337) (by decide +kernel)⟩
theorem lw_p9 : lw_okq (⟨"MovingGuest", "arrive", "(LMovingGuest$Piece;)V"⟩, 7) := ⟨⟨by decide +kernel, by decide +kernel⟩, List.mem_of_getElem? (i := 12) (by decide +kernel), List.mem_of_getElem? (i := 410) (by decide +kernel), List.mem_of_getElem? (i := 411) (by decide +kernel)⟩
theorem lw_p10 : lw_okq (⟨"MovingGuest", "pageArrives", "(LMovingGuest$Piece;)V"⟩, 7) := ⟨⟨by decide +kernel, by decide +kernel⟩, List.mem_of_getElem? (i := 12) (by decide +kernel), List.mem_of_getElem? (i := 414) (by decide +kernel), List.mem_of_getElem? (i := 415) (by decide +kernel)⟩
theorem lw_p11 : lw_okq (⟨"MovingGuest", "target", "()LMovingGuest$Host;"⟩, 7) := ⟨⟨by decide +kernel, by decide +kernel⟩, List.mem_of_getElem? (i := 12) (by decide +kernel), List.mem_of_getElem? (i := 418) (by decide +kernel), List.mem_of_getElem? (i := 419) (by decide +kernel)⟩
theorem lw_p12 : lw_okq (⟨"MovingGuest", "stateArrives", "(LMovingGuest$Piece;)V"⟩, 7) := ⟨⟨by decide +kernel, by decide +kernel⟩, List.mem_of_getElem? (i := 12) (by decide +kernel), List.mem_of_getElem? (i := 422) (by decide +kernel), List.mem_of_getElem? (i := 423) (by decide +kernel)⟩
theorem lw_p13 : lw_okq (⟨"MovingGuest", "handOver", "()V"⟩, 7) := ⟨⟨by decide +kernel, by decide +kernel⟩, List.mem_of_getElem? (i := 12) (by decide +kernel), List.mem_of_getElem? (i := 434) (by decide +kernel), List.mem_of_getElem? (i := 435) (by decide +kernel)⟩
theorem lw_p14 : lw_okq (⟨"MovingGuest", "endMove", "()V"⟩, 7) := ⟨⟨by decide +kernel, by decide +kernel⟩, List.mem_of_getElem? (i := 12) (by decide +kernel), List.mem_of_getElem? (i := 438) (by decide +kernel), List.mem_of_getElem? (i := 439) (by decide +kernel)⟩
theorem lw_p15 : lw_okq (⟨"MovingGuest", "renewNumber", "(LMovingGuest$Host;)V"⟩, 7) := ⟨⟨by decide +kernel, by decide +kernel⟩, List.mem_of_getElem? (i := 12) (by decide +kernel), List.mem_of_getElem? (i := 446) (by decide +kernel), List.mem_of_getElem? (i := 447) (by decide +kernel)⟩
def lw_privs_1 : List (MethodName × Nat) := [(⟨"MovingGuest", "runsGuest", "(I)Z"⟩, 7), (⟨"MovingGuest", "holdsStopped", "(I)Z"⟩, 7), (⟨"MovingGuest", "retireNext", "(LMovingGuest$Host;)Z"⟩, 7), (⟨"MovingGuest", "perform", "(LMovingGuest$Host;I)V"⟩, 7), (⟨"MovingGuest", "storeWord", "(LMovingGuest$Machine;II)V"⟩, 7), (⟨"MovingGuest$Machine", "write", "(I)V"⟩, 12), (⟨"MovingGuest$Machine", "readOldest", "()I"⟩, 12), (⟨"MovingGuest", "source", "()LMovingGuest$Host;"⟩, 7), (⟨"MovingGuest", "sendPage", "(I)V"⟩, 7), (⟨"MovingGuest", "arrive", "(LMovingGuest$Piece;)V"⟩, 7), (⟨"MovingGuest", "pageArrives", "(LMovingGuest$Piece;)V"⟩, 7), (⟨"MovingGuest", "target", "()LMovingGuest$Host;"⟩, 7), (⟨"MovingGuest", "stateArrives", "(LMovingGuest$Piece;)V"⟩, 7), (⟨"MovingGuest", "handOver", "()V"⟩, 7), (⟨"MovingGuest", "endMove", "()V"⟩, 7), (⟨"MovingGuest", "renewNumber", "(LMovingGuest$Host;)V"⟩, 7)]
theorem lw_r1 : ∀ q ∈ lw_privs_1, lw_okq q := List.forall_mem_cons.mpr ⟨lw_p0, List.forall_mem_cons.mpr ⟨lw_p1, List.forall_mem_cons.mpr ⟨lw_p2, List.forall_mem_cons.mpr ⟨lw_p3, List.forall_mem_cons.mpr ⟨lw_p4, List.forall_mem_cons.mpr ⟨lw_p5, List.forall_mem_cons.mpr ⟨lw_p6, List.forall_mem_cons.mpr ⟨lw_p7, List.forall_mem_cons.mpr ⟨lw_p8, List.forall_mem_cons.mpr ⟨lw_p9, List.forall_mem_cons.mpr ⟨lw_p10, List.forall_mem_cons.mpr ⟨lw_p11, List.forall_mem_cons.mpr ⟨lw_p12, List.forall_mem_cons.mpr ⟨lw_p13, List.forall_mem_cons.mpr ⟨lw_p14, List.forall_mem_cons.mpr ⟨lw_p15, fun _ h => absurd h List.not_mem_nil⟩⟩⟩⟩⟩⟩⟩⟩⟩⟩⟩⟩⟩⟩⟩⟩
theorem lw_p16 : lw_okq (⟨"MovingGuestModel", "runs", "(I)Z"⟩, 31) := ⟨⟨by decide +kernel, by decide +kernel⟩, List.mem_of_getElem? (i := 508) (by decide +kernel), List.mem_of_getElem? (i := 624) (by decide +kernel), List.mem_of_getElem? (i := 625) (by decide +kernel)⟩
theorem lw_p17 : lw_okq (⟨"MovingGuestModel", "instruct", "(I)Z"⟩, 31) := ⟨⟨by decide +kernel, by decide +kernel⟩, List.mem_of_getElem? (i := 508) (by decide +kernel), List.mem_of_getElem? (i := 628) (by decide +kernel), List.mem_of_getElem? (i := 629) (by decide +kernel)⟩
theorem lw_p18 : lw_okq (⟨"MovingGuestModel", "written", "(III)V"⟩, 31) := ⟨⟨by decide +kernel, by decide +kernel⟩, List.mem_of_getElem? (i := 508) (by decide +kernel), List.mem_of_getElem? (i := 632) (by decide +kernel), List.mem_of_getElem? (i := 633) (by decide +kernel)⟩
theorem lw_p19 : lw_okq (⟨"MovingGuestModel", "taken", "(I)I"⟩, 31) := ⟨⟨by decide +kernel, by decide +kernel⟩, List.mem_of_getElem? (i := 508) (by decide +kernel), List.mem_of_getElem? (i := 636) (by decide +kernel), List.mem_of_getElem? (i := 637) (by decide +kernel)⟩
theorem lw_p20 : lw_okq (⟨"MovingGuestModel", "order", "(I)V"⟩, 31) := ⟨⟨by decide +kernel, by decide +kernel⟩, List.mem_of_getElem? (i := 508) (by decide +kernel), List.mem_of_getElem? (i := 640) (by decide +kernel), List.mem_of_getElem? (i := 641) (by decide +kernel)⟩
theorem lw_p21 : lw_okq (⟨"MovingGuestModel", "tick", "(I)V"⟩, 31) := ⟨⟨by decide +kernel, by decide +kernel⟩, List.mem_of_getElem? (i := 508) (by decide +kernel), List.mem_of_getElem? (i := 644) (by decide +kernel), List.mem_of_getElem? (i := 645) (by decide +kernel)⟩
theorem lw_p22 : lw_okq (⟨"MovingGuestModel", "unknown", "()I"⟩, 31) := ⟨⟨by decide +kernel, by decide +kernel⟩, List.mem_of_getElem? (i := 508) (by decide +kernel), List.mem_of_getElem? (i := 664) (by decide +kernel), List.mem_of_getElem? (i := 665) (by decide +kernel)⟩
theorem lw_p23 : lw_okq (⟨"MovingGuestModel", "due", "()I"⟩, 31) := ⟨⟨by decide +kernel, by decide +kernel⟩, List.mem_of_getElem? (i := 508) (by decide +kernel), List.mem_of_getElem? (i := 668) (by decide +kernel), List.mem_of_getElem? (i := 669) (by decide +kernel)⟩
theorem lw_p24 : lw_okq (⟨"MovingGuestModel", "sendPage", "(I)V"⟩, 31) := ⟨⟨by decide +kernel, by decide +kernel⟩, List.mem_of_getElem? (i := 508) (by decide +kernel), List.mem_of_getElem? (i := 672) (by decide +kernel), List.mem_of_getElem? (i := 673) (by decide +kernel)⟩
theorem lw_p25 : lw_okq (⟨"MovingGuestModel", "come", "(IIII)I"⟩, 31) := ⟨⟨by decide +kernel, by decide +kernel⟩, List.mem_of_getElem? (i := 508) (by decide +kernel), List.mem_of_getElem? (i := 676) (by decide +kernel), List.mem_of_getElem? (i := 677) (by decide +kernel)⟩
theorem lw_p26 : lw_okq (⟨"MovingGuestModel", "isPiece", "(I)Z"⟩, 31) := ⟨⟨by decide +kernel, by decide +kernel⟩, List.mem_of_getElem? (i := 508) (by decide +kernel), List.mem_of_getElem? (i := 684) (by decide +kernel), List.mem_of_getElem? (i := 685) (by decide +kernel)⟩
theorem lw_p27 : lw_okq (⟨"MovingGuestModel", "leave", "(I)V"⟩, 31) := ⟨⟨by decide +kernel, by decide +kernel⟩, List.mem_of_getElem? (i := 508) (by decide +kernel), List.mem_of_getElem? (i := 688) (by decide +kernel), List.mem_of_getElem? (i := 689) (by decide +kernel)⟩
theorem lw_p28 : lw_okq (⟨"MovingGuestModel", "copy", "(II)V"⟩, 31) := ⟨⟨by decide +kernel, by decide +kernel⟩, List.mem_of_getElem? (i := 508) (by decide +kernel), List.mem_of_getElem? (i := 692) (by decide +kernel), List.mem_of_getElem? (i := 693) (by decide +kernel)⟩
theorem lw_p29 : lw_okq (⟨"MovingGuestModel", "arrive", "()V"⟩, 31) := ⟨⟨by decide +kernel, by decide +kernel⟩, List.mem_of_getElem? (i := 508) (by decide +kernel), List.mem_of_getElem? (i := 696) (by decide +kernel), List.mem_of_getElem? (i := 697) (by decide +kernel)⟩
theorem lw_p30 : lw_okq (⟨"MovingGuestModel", "pageArrives", "(III)V"⟩, 31) := ⟨⟨by decide +kernel, by decide +kernel⟩, List.mem_of_getElem? (i := 508) (by decide +kernel), List.mem_of_getElem? (i := 700) (by decide +kernel), List.mem_of_getElem? (i := 701) (by decide +kernel)⟩
theorem lw_p31 : lw_okq (⟨"MovingGuestModel", "stateArrives", "(I)V"⟩, 31) := ⟨⟨by decide +kernel, by decide +kernel⟩, List.mem_of_getElem? (i := 508) (by decide +kernel), List.mem_of_getElem? (i := 704) (by decide +kernel), List.mem_of_getElem? (i := 705) (by decide +kernel)⟩
def lw_privs_2 : List (MethodName × Nat) := [(⟨"MovingGuestModel", "runs", "(I)Z"⟩, 31), (⟨"MovingGuestModel", "instruct", "(I)Z"⟩, 31), (⟨"MovingGuestModel", "written", "(III)V"⟩, 31), (⟨"MovingGuestModel", "taken", "(I)I"⟩, 31), (⟨"MovingGuestModel", "order", "(I)V"⟩, 31), (⟨"MovingGuestModel", "tick", "(I)V"⟩, 31), (⟨"MovingGuestModel", "unknown", "()I"⟩, 31), (⟨"MovingGuestModel", "due", "()I"⟩, 31), (⟨"MovingGuestModel", "sendPage", "(I)V"⟩, 31), (⟨"MovingGuestModel", "come", "(IIII)I"⟩, 31), (⟨"MovingGuestModel", "isPiece", "(I)Z"⟩, 31), (⟨"MovingGuestModel", "leave", "(I)V"⟩, 31), (⟨"MovingGuestModel", "copy", "(II)V"⟩, 31), (⟨"MovingGuestModel", "arrive", "()V"⟩, 31), (⟨"MovingGuestModel", "pageArrives", "(III)V"⟩, 31), (⟨"MovingGuestModel", "stateArrives", "(I)V"⟩, 31)]
theorem lw_r2 : ∀ q ∈ lw_privs_2, lw_okq q := List.forall_mem_cons.mpr ⟨lw_p16, List.forall_mem_cons.mpr ⟨lw_p17, List.forall_mem_cons.mpr ⟨lw_p18, List.forall_mem_cons.mpr ⟨lw_p19, List.forall_mem_cons.mpr ⟨lw_p20, List.forall_mem_cons.mpr ⟨lw_p21, List.forall_mem_cons.mpr ⟨lw_p22, List.forall_mem_cons.mpr ⟨lw_p23, List.forall_mem_cons.mpr ⟨lw_p24, List.forall_mem_cons.mpr ⟨lw_p25, List.forall_mem_cons.mpr ⟨lw_p26, List.forall_mem_cons.mpr ⟨lw_p27, List.forall_mem_cons.mpr ⟨lw_p28, List.forall_mem_cons.mpr ⟨lw_p29, List.forall_mem_cons.mpr ⟨lw_p30, List.forall_mem_cons.mpr ⟨lw_p31, fun _ h => absurd h List.not_mem_nil⟩⟩⟩⟩⟩⟩⟩⟩⟩⟩⟩⟩⟩⟩⟩⟩
theorem lw_p32 : lw_okq (⟨"MovingGuestModel", "handOver", "()V"⟩, 31) := ⟨⟨by decide +kernel, by decide +kernel⟩, List.mem_of_getElem? (i := 508) (by decide +kernel), List.mem_of_getElem? (i := 708) (by decide +kernel), List.mem_of_getElem? (i := 709) (by decide +kernel)⟩
theorem lw_p33 : lw_okq (⟨"MovingGuestModel", "end", "()V"⟩, 31) := ⟨⟨by decide +kernel, by decide +kernel⟩, List.mem_of_getElem? (i := 508) (by decide +kernel), List.mem_of_getElem? (i := 712) (by decide +kernel), List.mem_of_getElem? (i := 713) (by decide +kernel)⟩
def lw_privs_3 : List (MethodName × Nat) := [(⟨"MovingGuestModel", "handOver", "()V"⟩, 31), (⟨"MovingGuestModel", "end", "()V"⟩, 31)]
theorem lw_r3 : ∀ q ∈ lw_privs_3, lw_okq q := List.forall_mem_cons.mpr ⟨lw_p32, List.forall_mem_cons.mpr ⟨lw_p33, fun _ h => absurd h List.not_mem_nil⟩⟩
def lw_privs : List (MethodName × Nat) := lw_privs_1 ++ (lw_privs_2 ++ (lw_privs_3))
def lw_tbl : List Cond := k2_sels lw_privs ++ tables_1
theorem lw_privs_ok : ∀ q ∈ lw_privs, lw_okq q := by
  show ∀ q ∈ lw_privs_1 ++ (lw_privs_2 ++ (lw_privs_3)), lw_okq q
  exact List.forall_mem_append.mpr ⟨lw_r1, List.forall_mem_append.mpr ⟨lw_r2, lw_r3⟩⟩

-- the words that all contracts share: those of the tables that keep
def wAll : List Cond := lw_tbl.filter goodWord
theorem wAll_good : wAll.all goodWord = true := by rw [wAll, List.all_filter]; exact List.all_eq_true.mpr (fun x _ => by cases goodWord x <;> rfl)
theorem wAll_in : ∀ w ∈ wAll, w ∈ lw_tbl := fun w h => (List.mem_filter.mp h).1
/-- the words of a method: its code, and those that all share -/
theorem g_all (y : MethodName) (b : ByteArray) (n : Nat) (r : Option FieldType) {Ts0 : Cond} {w : Cond} (h : w ∈ Ts0 :: wAll) (hw : w = .code y b n r := by rfl) : GoodIn (Ts0 :: wAll) (.code y b n r :: wAll) := by
  subst hw
  intro x hx
  rcases List.mem_cons.mp hx with rfl | hx
  · exact ⟨h, Or.inl rfl⟩
  · exact ⟨List.mem_cons_of_mem _ hx, good_of_word (List.all_eq_true.mp wAll_good x hx)⟩
def R_H : String := "MovingGuest$Host"
def T_H : u_T := fun k => match k with
  | 0 => ("MovingGuest$Host", "machine", "LMovingGuest$Machine;", true)
  | 1 => ("MovingGuest$Host", "serials", "[I", true)
  | 2 => ("MovingGuest$Host", "up", "Z", false)
  | 3 => ("MovingGuest$Host", "holds", "Z", false)
  | 4 => ("MovingGuest$Host", "takesPart", "Z", false)
  | 5 => ("MovingGuest$Host", "ready", "Z", false)
  | 6 => ("MovingGuest$Host", "hasOrder", "Z", false)
  | 7 => ("MovingGuest$Host", "orderBlock", "I", false)
  | 8 => ("MovingGuest$Host", "orderWord", "I", false)
  | _ => ("MovingGuest$Host", "orderNumber", "I", false)
def ty_H : Nat → FieldType := fun k => match k with
  | 0 => (.object "MovingGuest$Machine")
  | 1 => (.array .int)
  | 2 => .boolean
  | 3 => .boolean
  | 4 => .boolean
  | 5 => .boolean
  | 6 => .boolean
  | 7 => .int
  | 8 => .int
  | _ => .int
theorem nm_H : ∀ a, a < 10 → ∀ b, b < 10 → a ≠ b → (T_H a).2.1 ≠ (T_H b).2.1 := by decide +kernel
theorem tyok_H : ∀ k, k < 10 → parseFieldDescriptor (T_H k).2.2.1 = some (ty_H k) := by decide +kernel
theorem in_H : ∀ w ∈ u_ws R_H T_H 10, w ∈ wAll := by decide +kernel
theorem df_H : ∀ j, j < 10 → defaultValue (ty_H j) = vp_V [.null, .null, .int 0, .int 0, .int 0, .int 0, .int 0, .int 0, .int 0, .int 0] j := fun j hj => by
  match j, hj with
  | 0, _ => rfl
  | 1, _ => rfl
  | 2, _ => rfl
  | 3, _ => rfl
  | 4, _ => rfl
  | 5, _ => rfl
  | 6, _ => rfl
  | 7, _ => rfl
  | 8, _ => rfl
  | 9, _ => rfl
  | k + 10, h => exact absurd h (by omega)
def R_L : String := "MovingGuest$Link"
def T_L : u_T := fun k => match k with
  | 0 => ("MovingGuest$Link", "pieces", "[LMovingGuest$Piece;", true)
  | _ => ("MovingGuest$Link", "size", "I", false)
def ty_L : Nat → FieldType := fun k => match k with
  | 0 => (.array (.object "MovingGuest$Piece"))
  | _ => .int
theorem nm_L : ∀ a, a < 2 → ∀ b, b < 2 → a ≠ b → (T_L a).2.1 ≠ (T_L b).2.1 := by decide +kernel
theorem tyok_L : ∀ k, k < 2 → parseFieldDescriptor (T_L k).2.2.1 = some (ty_L k) := by decide +kernel
theorem in_L : ∀ w ∈ u_ws R_L T_L 2, w ∈ wAll := by decide +kernel
theorem df_L : ∀ j, j < 2 → defaultValue (ty_L j) = vp_V [.null, .int 0] j := fun j hj => by
  match j, hj with
  | 0, _ => rfl
  | 1, _ => rfl
  | k + 2, h => exact absurd h (by omega)
def R_A : String := "MovingGuest$Machine"
def T_A : u_T := fun k => match k with
  | 0 => ("MovingGuest$Machine", "memory", "[I", true)
  | 1 => ("MovingGuest$Machine", "registers", "[I", true)
  | 2 => ("MovingGuest$Machine", "input", "[I", true)
  | 3 => ("MovingGuest$Machine", "output", "[I", true)
  | 4 => ("MovingGuest$Machine", "counter", "I", false)
  | 5 => ("MovingGuest$Machine", "timer", "I", false)
  | 6 => ("MovingGuest$Machine", "inputs", "I", false)
  | 7 => ("MovingGuest$Machine", "outputs", "I", false)
  | 8 => ("MovingGuest$Machine", "retired", "I", false)
  | 9 => ("MovingGuest$Machine", "hasRequest", "Z", false)
  | 10 => ("MovingGuest$Machine", "requestBlock", "I", false)
  | _ => ("MovingGuest$Machine", "requestWord", "I", false)
def ty_A : Nat → FieldType := fun k => match k with
  | 0 => (.array .int)
  | 1 => (.array .int)
  | 2 => (.array .int)
  | 3 => (.array .int)
  | 4 => .int
  | 5 => .int
  | 6 => .int
  | 7 => .int
  | 8 => .int
  | 9 => .boolean
  | 10 => .int
  | _ => .int
theorem nm_A : ∀ a, a < 12 → ∀ b, b < 12 → a ≠ b → (T_A a).2.1 ≠ (T_A b).2.1 := by decide +kernel
theorem tyok_A : ∀ k, k < 12 → parseFieldDescriptor (T_A k).2.2.1 = some (ty_A k) := by decide +kernel
theorem in_A : ∀ w ∈ u_ws R_A T_A 12, w ∈ wAll := by decide +kernel
theorem df_A : ∀ j, j < 12 → defaultValue (ty_A j) = vp_V [.null, .null, .null, .null, .int 0, .int 0, .int 0, .int 0, .int 0, .int 0, .int 0, .int 0] j := fun j hj => by
  match j, hj with
  | 0, _ => rfl
  | 1, _ => rfl
  | 2, _ => rfl
  | 3, _ => rfl
  | 4, _ => rfl
  | 5, _ => rfl
  | 6, _ => rfl
  | 7, _ => rfl
  | 8, _ => rfl
  | 9, _ => rfl
  | 10, _ => rfl
  | 11, _ => rfl
  | k + 12, h => exact absurd h (by omega)
def R_V : String := "MovingGuest$Move"
def T_V : u_T := fun k => match k with
  | 0 => ("MovingGuest$Move", "standing", "[I", true)
  | 1 => ("MovingGuest$Move", "serials", "[I", true)
  | 2 => ("MovingGuest$Move", "goesOn", "Z", false)
  | 3 => ("MovingGuest$Move", "stopped", "Z", false)
  | 4 => ("MovingGuest$Move", "number", "I", false)
  | 5 => ("MovingGuest$Move", "source", "I", false)
  | 6 => ("MovingGuest$Move", "steps", "I", false)
  | 7 => ("MovingGuest$Move", "serial", "I", false)
  | _ => ("MovingGuest$Move", "firstPage", "I", false)
def ty_V : Nat → FieldType := fun k => match k with
  | 0 => (.array .int)
  | 1 => (.array .int)
  | 2 => .boolean
  | 3 => .boolean
  | 4 => .int
  | 5 => .int
  | 6 => .int
  | 7 => .int
  | _ => .int
theorem nm_V : ∀ a, a < 9 → ∀ b, b < 9 → a ≠ b → (T_V a).2.1 ≠ (T_V b).2.1 := by decide +kernel
theorem tyok_V : ∀ k, k < 9 → parseFieldDescriptor (T_V k).2.2.1 = some (ty_V k) := by decide +kernel
theorem in_V : ∀ w ∈ u_ws R_V T_V 9, w ∈ wAll := by decide +kernel
theorem df_V : ∀ j, j < 9 → defaultValue (ty_V j) = vp_V [.null, .null, .int 0, .int 0, .int 0, .int 0, .int 0, .int 0, .int 0] j := fun j hj => by
  match j, hj with
  | 0, _ => rfl
  | 1, _ => rfl
  | 2, _ => rfl
  | 3, _ => rfl
  | 4, _ => rfl
  | 5, _ => rfl
  | 6, _ => rfl
  | 7, _ => rfl
  | 8, _ => rfl
  | k + 9, h => exact absurd h (by omega)
def R_P : String := "MovingGuest$Piece"
def T_P : u_T := fun k => match k with
  | 0 => ("MovingGuest$Piece", "kind", "I", true)
  | 1 => ("MovingGuest$Piece", "move", "I", true)
  | 2 => ("MovingGuest$Piece", "page", "I", true)
  | 3 => ("MovingGuest$Piece", "serial", "I", true)
  | _ => ("MovingGuest$Piece", "words", "[I", true)
def ty_P : Nat → FieldType := fun k => match k with
  | 0 => .int
  | 1 => .int
  | 2 => .int
  | 3 => .int
  | _ => (.array .int)
theorem nm_P : ∀ a, a < 5 → ∀ b, b < 5 → a ≠ b → (T_P a).2.1 ≠ (T_P b).2.1 := by decide +kernel
theorem tyok_P : ∀ k, k < 5 → parseFieldDescriptor (T_P k).2.2.1 = some (ty_P k) := by decide +kernel
theorem in_P : ∀ w ∈ u_ws R_P T_P 5, w ∈ wAll := by decide +kernel
theorem df_P : ∀ j, j < 5 → defaultValue (ty_P j) = vp_V [.int 0, .int 0, .int 0, .int 0, .null] j := fun j hj => by
  match j, hj with
  | 0, _ => rfl
  | 1, _ => rfl
  | 2, _ => rfl
  | 3, _ => rfl
  | 4, _ => rfl
  | k + 5, h => exact absurd h (by omega)
def R_G : String := "MovingGuest"
def T_G : u_T := fun k => match k with
  | 0 => ("MovingGuest", "imageWords", "[I", true)
  | 1 => ("MovingGuest", "blocks", "[I", true)
  | 2 => ("MovingGuest", "hosts", "[LMovingGuest$Host;", true)
  | 3 => ("MovingGuest", "course", "LMovingGuest$Move;", true)
  | 4 => ("MovingGuest", "link", "LMovingGuest$Link;", true)
  | 5 => ("MovingGuest", "owner", "I", false)
  | _ => ("MovingGuest", "number", "I", false)
def ty_G : Nat → FieldType := fun k => match k with
  | 0 => (.array .int)
  | 1 => (.array .int)
  | 2 => (.array (.object "MovingGuest$Host"))
  | 3 => (.object "MovingGuest$Move")
  | 4 => (.object "MovingGuest$Link")
  | 5 => .int
  | _ => .int
theorem nm_G : ∀ a, a < 7 → ∀ b, b < 7 → a ≠ b → (T_G a).2.1 ≠ (T_G b).2.1 := by decide +kernel
theorem tyok_G : ∀ k, k < 7 → parseFieldDescriptor (T_G k).2.2.1 = some (ty_G k) := by decide +kernel
theorem in_G : ∀ w ∈ u_ws R_G T_G 7, w ∈ wAll := by decide +kernel
theorem df_G : ∀ j, j < 7 → defaultValue (ty_G j) = vp_V [.null, .null, .null, .null, .null, .int 0, .int 0] j := fun j hj => by
  match j, hj with
  | 0, _ => rfl
  | 1, _ => rfl
  | 2, _ => rfl
  | 3, _ => rfl
  | 4, _ => rfl
  | 5, _ => rfl
  | 6, _ => rfl
  | k + 7, h => exact absurd h (by omega)
def R_M : String := "MovingGuestModel"
def T_M : u_T := fun k => match k with
  | 0 => ("MovingGuestModel", "image", "[I", true)
  | 1 => ("MovingGuestModel", "memory", "[I", true)
  | 2 => ("MovingGuestModel", "rows", "[I", true)
  | 3 => ("MovingGuestModel", "up", "[Z", true)
  | 4 => ("MovingGuestModel", "holds", "[Z", true)
  | 5 => ("MovingGuestModel", "stopped", "Z", false)
  | 6 => ("MovingGuestModel", "disk", "[I", true)
  | 7 => ("MovingGuestModel", "owner", "I", false)
  | 8 => ("MovingGuestModel", "number", "I", false)
  | 9 => ("MovingGuestModel", "orders", "[Z", true)
  | 10 => ("MovingGuestModel", "orderBlock", "[I", true)
  | 11 => ("MovingGuestModel", "orderWord", "[I", true)
  | 12 => ("MovingGuestModel", "orderNumber", "[I", true)
  | 13 => ("MovingGuestModel", "going", "Z", false)
  | 14 => ("MovingGuestModel", "latest", "I", false)
  | 15 => ("MovingGuestModel", "source", "I", false)
  | 16 => ("MovingGuestModel", "pages", "[I", true)
  | 17 => ("MovingGuestModel", "serial", "I", false)
  | 18 => ("MovingGuestModel", "lastSent", "I", false)
  | 19 => ("MovingGuestModel", "steps", "I", false)
  | 20 => ("MovingGuestModel", "takesPart", "Z", false)
  | 21 => ("MovingGuestModel", "ready", "Z", false)
  | 22 => ("MovingGuestModel", "targetMemory", "[I", true)
  | 23 => ("MovingGuestModel", "targetSerials", "[I", true)
  | 24 => ("MovingGuestModel", "targetRow", "[I", true)
  | 25 => ("MovingGuestModel", "pieces", "I", false)
  | 26 => ("MovingGuestModel", "kinds", "[I", true)
  | 27 => ("MovingGuestModel", "moves", "[I", true)
  | 28 => ("MovingGuestModel", "pagesOf", "[I", true)
  | 29 => ("MovingGuestModel", "serials", "[I", true)
  | _ => ("MovingGuestModel", "loads", "[I", true)
def ty_M : Nat → FieldType := fun k => match k with
  | 0 => (.array .int)
  | 1 => (.array .int)
  | 2 => (.array .int)
  | 3 => (.array .boolean)
  | 4 => (.array .boolean)
  | 5 => .boolean
  | 6 => (.array .int)
  | 7 => .int
  | 8 => .int
  | 9 => (.array .boolean)
  | 10 => (.array .int)
  | 11 => (.array .int)
  | 12 => (.array .int)
  | 13 => .boolean
  | 14 => .int
  | 15 => .int
  | 16 => (.array .int)
  | 17 => .int
  | 18 => .int
  | 19 => .int
  | 20 => .boolean
  | 21 => .boolean
  | 22 => (.array .int)
  | 23 => (.array .int)
  | 24 => (.array .int)
  | 25 => .int
  | 26 => (.array .int)
  | 27 => (.array .int)
  | 28 => (.array .int)
  | 29 => (.array .int)
  | _ => (.array .int)
theorem nm_M : ∀ a, a < 31 → ∀ b, b < 31 → a ≠ b → (T_M a).2.1 ≠ (T_M b).2.1 := by decide +kernel
theorem tyok_M : ∀ k, k < 31 → parseFieldDescriptor (T_M k).2.2.1 = some (ty_M k) := by decide +kernel
theorem in_M : ∀ w ∈ u_ws R_M T_M 31, w ∈ wAll := by decide +kernel
theorem df_M : ∀ j, j < 31 → defaultValue (ty_M j) = vp_V [.null, .null, .null, .null, .null, .int 0, .null, .int 0, .int 0, .null, .null, .null, .null, .int 0, .int 0, .int 0, .null, .int 0, .int 0, .int 0, .int 0, .int 0, .null, .null, .null, .int 0, .null, .null, .null, .null, .null] j := fun j hj => by
  match j, hj with
  | 0, _ => rfl
  | 1, _ => rfl
  | 2, _ => rfl
  | 3, _ => rfl
  | 4, _ => rfl
  | 5, _ => rfl
  | 6, _ => rfl
  | 7, _ => rfl
  | 8, _ => rfl
  | 9, _ => rfl
  | 10, _ => rfl
  | 11, _ => rfl
  | 12, _ => rfl
  | 13, _ => rfl
  | 14, _ => rfl
  | 15, _ => rfl
  | 16, _ => rfl
  | 17, _ => rfl
  | 18, _ => rfl
  | 19, _ => rfl
  | 20, _ => rfl
  | 21, _ => rfl
  | 22, _ => rfl
  | 23, _ => rfl
  | 24, _ => rfl
  | 25, _ => rfl
  | 26, _ => rfl
  | 27, _ => rfl
  | 28, _ => rfl
  | 29, _ => rfl
  | 30, _ => rfl
  | k + 31, h => exact absurd h (by omega)
abbrev vwCl : List vw_C := [(R_H, T_H, 10), (R_L, T_L, 2), (R_A, T_A, 12), (R_V, T_V, 9), (R_P, T_P, 5), (R_G, T_G, 7), (R_M, T_M, 31)]
abbrev b_G_init : ByteArray := prog_1_method_1_code
def y_G_init : MethodName := ⟨"MovingGuest", "<init>", "()V"⟩
def ws_G_init : List Cond := .code y_G_init b_G_init 2 none :: wAll
abbrev b_G_image : ByteArray := prog_1_method_2_code
def y_G_image : MethodName := ⟨"MovingGuest", "image", "(II)Z"⟩
def ws_G_image : List Cond := .code y_G_image b_G_image 3 (some .boolean) :: wAll
abbrev b_G_create : ByteArray := prog_1_method_3_code
def y_G_create : MethodName := ⟨"MovingGuest", "create", "(I)I"⟩
def ws_G_create : List Cond := .code y_G_create b_G_create 2 (some .int) :: wAll
abbrev b_G_run : ByteArray := prog_1_method_4_code
def y_G_run : MethodName := ⟨"MovingGuest", "run", "(II)I"⟩
def ws_G_run : List Cond := .code y_G_run b_G_run 4 (some .int) :: wAll
abbrev b_G_input : ByteArray := prog_1_method_5_code
def y_G_input : MethodName := ⟨"MovingGuest", "input", "(II)I"⟩
def ws_G_input : List Cond := .code y_G_input b_G_input 4 (some .int) :: wAll
abbrev b_G_disk : ByteArray := prog_1_method_6_code
def y_G_disk : MethodName := ⟨"MovingGuest", "disk", "(I)I"⟩
def ws_G_disk : List Cond := .code y_G_disk b_G_disk 3 (some .int) :: wAll
abbrev b_G_move : ByteArray := prog_1_method_7_code
def y_G_move : MethodName := ⟨"MovingGuest", "move", "()I"⟩
def ws_G_move : List Cond := .code y_G_move b_G_move 1 (some .int) :: wAll
abbrev b_G_step : ByteArray := prog_1_method_8_code
def y_G_step : MethodName := ⟨"MovingGuest", "step", "()I"⟩
def ws_G_step : List Cond := .code y_G_step b_G_step 2 (some .int) :: wAll
abbrev b_G_deliver : ByteArray := prog_1_method_9_code
def y_G_deliver : MethodName := ⟨"MovingGuest", "deliver", "(I)I"⟩
def ws_G_deliver : List Cond := .code y_G_deliver b_G_deliver 3 (some .int) :: wAll
abbrev b_G_lose : ByteArray := prog_1_method_10_code
def y_G_lose : MethodName := ⟨"MovingGuest", "lose", "(I)I"⟩
def ws_G_lose : List Cond := .code y_G_lose b_G_lose 2 (some .int) :: wAll
abbrev b_G_twice : ByteArray := prog_1_method_11_code
def y_G_twice : MethodName := ⟨"MovingGuest", "twice", "(I)I"⟩
def ws_G_twice : List Cond := .code y_G_twice b_G_twice 2 (some .int) :: wAll
abbrev b_G_abort : ByteArray := prog_1_method_12_code
def y_G_abort : MethodName := ⟨"MovingGuest", "abort", "()Z"⟩
def ws_G_abort : List Cond := .code y_G_abort b_G_abort 1 (some .boolean) :: wAll
abbrev b_G_crash : ByteArray := prog_1_method_13_code
def y_G_crash : MethodName := ⟨"MovingGuest", "crash", "(I)Z"⟩
def ws_G_crash : List Cond := .code y_G_crash b_G_crash 2 (some .boolean) :: wAll
abbrev b_G_back : ByteArray := prog_1_method_14_code
def y_G_back : MethodName := ⟨"MovingGuest", "back", "(I)Z"⟩
def ws_G_back : List Cond := .code y_G_back b_G_back 2 (some .boolean) :: wAll
abbrev b_G_takeOver : ByteArray := prog_1_method_15_code
def y_G_takeOver : MethodName := ⟨"MovingGuest", "takeOver", "()Z"⟩
def ws_G_takeOver : List Cond := .code y_G_takeOver b_G_takeOver 1 (some .boolean) :: wAll
abbrev b_G_holder : ByteArray := prog_1_method_16_code
def y_G_holder : MethodName := ⟨"MovingGuest", "holder", "()I"⟩
def ws_G_holder : List Cond := .code y_G_holder b_G_holder 2 (some .int) :: wAll
abbrev b_G_told : ByteArray := prog_1_method_17_code
def y_G_told : MethodName := ⟨"MovingGuest", "told", "(I)I"⟩
def ws_G_told : List Cond := .code y_G_told b_G_told 2 (some .int) :: wAll
abbrev b_G_piece : ByteArray := prog_1_method_18_code
def y_G_piece : MethodName := ⟨"MovingGuest", "piece", "(II)I"⟩
def ws_G_piece : List Cond := .code y_G_piece b_G_piece 4 (some .int) :: wAll
abbrev b_G_isUp : ByteArray := prog_1_method_19_code
def y_G_isUp : MethodName := ⟨"MovingGuest", "isUp", "(I)Z"⟩
def ws_G_isUp : List Cond := .code y_G_isUp b_G_isUp 2 (some .boolean) :: wAll
abbrev b_G_guest : ByteArray := prog_1_method_20_code
def y_G_guest : MethodName := ⟨"MovingGuest", "guest", "(II)I"⟩
def ws_G_guest : List Cond := .code y_G_guest b_G_guest 4 (some .int) :: wAll
abbrev b_G_memory : ByteArray := prog_1_method_21_code
def y_G_memory : MethodName := ⟨"MovingGuest", "memory", "(II)I"⟩
def ws_G_memory : List Cond := .code y_G_memory b_G_memory 4 (some .int) :: wAll
abbrev b_G_output : ByteArray := prog_1_method_22_code
def y_G_output : MethodName := ⟨"MovingGuest", "output", "(II)I"⟩
def ws_G_output : List Cond := .code y_G_output b_G_output 4 (some .int) :: wAll
abbrev b_G_block : ByteArray := prog_1_method_23_code
def y_G_block : MethodName := ⟨"MovingGuest", "block", "(I)I"⟩
def ws_G_block : List Cond := .code y_G_block b_G_block 2 (some .int) :: wAll
abbrev b_G_isBelow : ByteArray := prog_1_method_24_code
def y_G_isBelow : MethodName := ⟨"MovingGuest", "isBelow", "(II)Z"⟩
def ws_G_isBelow : List Cond := .code y_G_isBelow b_G_isBelow 2 (some .boolean) :: wAll
abbrev b_G_other : ByteArray := prog_1_method_25_code
def y_G_other : MethodName := ⟨"MovingGuest", "other", "(I)I"⟩
def ws_G_other : List Cond := .code y_G_other b_G_other 1 (some .int) :: wAll
abbrev b_G_source : ByteArray := prog_1_method_26_code
def y_G_source : MethodName := ⟨"MovingGuest", "source", "()LMovingGuest$Host;"⟩
def ws_G_source : List Cond := .code y_G_source b_G_source 1 (some (.object "MovingGuest$Host")) :: wAll
abbrev b_G_target : ByteArray := prog_1_method_27_code
def y_G_target : MethodName := ⟨"MovingGuest", "target", "()LMovingGuest$Host;"⟩
def ws_G_target : List Cond := .code y_G_target b_G_target 1 (some (.object "MovingGuest$Host")) :: wAll
abbrev b_G_holdsStopped : ByteArray := prog_1_method_28_code
def y_G_holdsStopped : MethodName := ⟨"MovingGuest", "holdsStopped", "(I)Z"⟩
def ws_G_holdsStopped : List Cond := .code y_G_holdsStopped b_G_holdsStopped 2 (some .boolean) :: wAll
abbrev b_G_runsGuest : ByteArray := prog_1_method_29_code
def y_G_runsGuest : MethodName := ⟨"MovingGuest", "runsGuest", "(I)Z"⟩
def ws_G_runsGuest : List Cond := .code y_G_runsGuest b_G_runsGuest 2 (some .boolean) :: wAll
abbrev b_G_retireNext : ByteArray := prog_1_method_30_code
def y_G_retireNext : MethodName := ⟨"MovingGuest", "retireNext", "(LMovingGuest$Host;)Z"⟩
def ws_G_retireNext : List Cond := .code y_G_retireNext b_G_retireNext 4 (some .boolean) :: wAll
abbrev b_G_perform : ByteArray := prog_1_method_31_code
def y_G_perform : MethodName := ⟨"MovingGuest", "perform", "(LMovingGuest$Host;I)V"⟩
def ws_G_perform : List Cond := .code y_G_perform b_G_perform 6 none :: wAll
abbrev b_G_storeWord : ByteArray := prog_1_method_32_code
def y_G_storeWord : MethodName := ⟨"MovingGuest", "storeWord", "(LMovingGuest$Machine;II)V"⟩
def ws_G_storeWord : List Cond := .code y_G_storeWord b_G_storeWord 4 none :: wAll
abbrev b_G_sendPage : ByteArray := prog_1_method_33_code
def y_G_sendPage : MethodName := ⟨"MovingGuest", "sendPage", "(I)V"⟩
def ws_G_sendPage : List Cond := .code y_G_sendPage b_G_sendPage 4 none :: wAll
abbrev b_G_arrive : ByteArray := prog_1_method_34_code
def y_G_arrive : MethodName := ⟨"MovingGuest", "arrive", "(LMovingGuest$Piece;)V"⟩
def ws_G_arrive : List Cond := .code y_G_arrive b_G_arrive 2 none :: wAll
abbrev b_G_pageArrives : ByteArray := prog_1_method_35_code
def y_G_pageArrives : MethodName := ⟨"MovingGuest", "pageArrives", "(LMovingGuest$Piece;)V"⟩
def ws_G_pageArrives : List Cond := .code y_G_pageArrives b_G_pageArrives 3 none :: wAll
abbrev b_G_stateArrives : ByteArray := prog_1_method_36_code
def y_G_stateArrives : MethodName := ⟨"MovingGuest", "stateArrives", "(LMovingGuest$Piece;)V"⟩
def ws_G_stateArrives : List Cond := .code y_G_stateArrives b_G_stateArrives 3 none :: wAll
abbrev b_G_handOver : ByteArray := prog_1_method_37_code
def y_G_handOver : MethodName := ⟨"MovingGuest", "handOver", "()V"⟩
def ws_G_handOver : List Cond := .code y_G_handOver b_G_handOver 2 none :: wAll
abbrev b_G_endMove : ByteArray := prog_1_method_38_code
def y_G_endMove : MethodName := ⟨"MovingGuest", "endMove", "()V"⟩
def ws_G_endMove : List Cond := .code y_G_endMove b_G_endMove 1 none :: wAll
abbrev b_G_renewNumber : ByteArray := prog_1_method_39_code
def y_G_renewNumber : MethodName := ⟨"MovingGuest", "renewNumber", "(LMovingGuest$Host;)V"⟩
def ws_G_renewNumber : List Cond := .code y_G_renewNumber b_G_renewNumber 2 none :: wAll
abbrev b_M_init : ByteArray := prog_8_method_1_code
def y_M_init : MethodName := ⟨"MovingGuestModel", "<init>", "()V"⟩
def ws_M_init : List Cond := .code y_M_init b_M_init 1 none :: wAll
abbrev b_M_isHost : ByteArray := prog_8_method_2_code
def y_M_isHost : MethodName := ⟨"MovingGuestModel", "isHost", "(I)Z"⟩
def ws_M_isHost : List Cond := .code y_M_isHost b_M_isHost 1 (some .boolean) :: wAll
abbrev b_M_runs : ByteArray := prog_8_method_3_code
def y_M_runs : MethodName := ⟨"MovingGuestModel", "runs", "(I)Z"⟩
def ws_M_runs : List Cond := .code y_M_runs b_M_runs 2 (some .boolean) :: wAll
abbrev b_M_image : ByteArray := prog_8_method_4_code
def y_M_image : MethodName := ⟨"MovingGuestModel", "image", "(II)Z"⟩
def ws_M_image : List Cond := .code y_M_image b_M_image 3 (some .boolean) :: wAll
abbrev b_M_create : ByteArray := prog_8_method_5_code
def y_M_create : MethodName := ⟨"MovingGuestModel", "create", "(I)I"⟩
def ws_M_create : List Cond := .code y_M_create b_M_create 3 (some .int) :: wAll
abbrev b_M_order : ByteArray := prog_8_method_6_code
def y_M_order : MethodName := ⟨"MovingGuestModel", "order", "(I)V"⟩
def ws_M_order : List Cond := .code y_M_order b_M_order 2 none :: wAll
abbrev b_M_taken : ByteArray := prog_8_method_7_code
def y_M_taken : MethodName := ⟨"MovingGuestModel", "taken", "(I)I"⟩
def ws_M_taken : List Cond := .code y_M_taken b_M_taken 4 (some .int) :: wAll
abbrev b_M_written : ByteArray := prog_8_method_8_code
def y_M_written : MethodName := ⟨"MovingGuestModel", "written", "(III)V"⟩
def ws_M_written : List Cond := .code y_M_written b_M_written 4 none :: wAll
abbrev b_M_instruct : ByteArray := prog_8_method_9_code
def y_M_instruct : MethodName := ⟨"MovingGuestModel", "instruct", "(I)Z"⟩
def ws_M_instruct : List Cond := .code y_M_instruct b_M_instruct 10 (some .boolean) :: wAll
abbrev b_M_tick : ByteArray := prog_8_method_10_code
def y_M_tick : MethodName := ⟨"MovingGuestModel", "tick", "(I)V"⟩
def ws_M_tick : List Cond := .code y_M_tick b_M_tick 2 none :: wAll
abbrev b_M_run : ByteArray := prog_8_method_11_code
def y_M_run : MethodName := ⟨"MovingGuestModel", "run", "(II)I"⟩
def ws_M_run : List Cond := .code y_M_run b_M_run 4 (some .int) :: wAll
abbrev b_M_input : ByteArray := prog_8_method_12_code
def y_M_input : MethodName := ⟨"MovingGuestModel", "input", "(II)I"⟩
def ws_M_input : List Cond := .code y_M_input b_M_input 4 (some .int) :: wAll
abbrev b_M_disk : ByteArray := prog_8_method_13_code
def y_M_disk : MethodName := ⟨"MovingGuestModel", "disk", "(I)I"⟩
def ws_M_disk : List Cond := .code y_M_disk b_M_disk 2 (some .int) :: wAll
abbrev b_M_end : ByteArray := prog_8_method_14_code
def y_M_end : MethodName := ⟨"MovingGuestModel", "end", "()V"⟩
def ws_M_end : List Cond := .code y_M_end b_M_end 1 none :: wAll
abbrev b_M_move : ByteArray := prog_8_method_15_code
def y_M_move : MethodName := ⟨"MovingGuestModel", "move", "()I"⟩
def ws_M_move : List Cond := .code y_M_move b_M_move 2 (some .int) :: wAll
abbrev b_M_unknown : ByteArray := prog_8_method_16_code
def y_M_unknown : MethodName := ⟨"MovingGuestModel", "unknown", "()I"⟩
def ws_M_unknown : List Cond := .code y_M_unknown b_M_unknown 3 (some .int) :: wAll
abbrev b_M_due : ByteArray := prog_8_method_17_code
def y_M_due : MethodName := ⟨"MovingGuestModel", "due", "()I"⟩
def ws_M_due : List Cond := .code y_M_due b_M_due 2 (some .int) :: wAll
abbrev b_M_come : ByteArray := prog_8_method_18_code
def y_M_come : MethodName := ⟨"MovingGuestModel", "come", "(IIII)I"⟩
def ws_M_come : List Cond := .code y_M_come b_M_come 6 (some .int) :: wAll
abbrev b_M_sendPage : ByteArray := prog_8_method_19_code
def y_M_sendPage : MethodName := ⟨"MovingGuestModel", "sendPage", "(I)V"⟩
def ws_M_sendPage : List Cond := .code y_M_sendPage b_M_sendPage 4 none :: wAll
abbrev b_M_step : ByteArray := prog_8_method_20_code
def y_M_step : MethodName := ⟨"MovingGuestModel", "step", "()I"⟩
def ws_M_step : List Cond := .code y_M_step b_M_step 4 (some .int) :: wAll
abbrev b_M_handOver : ByteArray := prog_8_method_21_code
def y_M_handOver : MethodName := ⟨"MovingGuestModel", "handOver", "()V"⟩
def ws_M_handOver : List Cond := .code y_M_handOver b_M_handOver 3 none :: wAll
abbrev b_M_isPiece : ByteArray := prog_8_method_22_code
def y_M_isPiece : MethodName := ⟨"MovingGuestModel", "isPiece", "(I)Z"⟩
def ws_M_isPiece : List Cond := .code y_M_isPiece b_M_isPiece 2 (some .boolean) :: wAll
abbrev b_M_copy : ByteArray := prog_8_method_23_code
def y_M_copy : MethodName := ⟨"MovingGuestModel", "copy", "(II)V"⟩
def ws_M_copy : List Cond := .code y_M_copy b_M_copy 4 none :: wAll
abbrev b_M_leave : ByteArray := prog_8_method_24_code
def y_M_leave : MethodName := ⟨"MovingGuestModel", "leave", "(I)V"⟩
def ws_M_leave : List Cond := .code y_M_leave b_M_leave 3 none :: wAll
abbrev b_M_pageArrives : ByteArray := prog_8_method_25_code
def y_M_pageArrives : MethodName := ⟨"MovingGuestModel", "pageArrives", "(III)V"⟩
def ws_M_pageArrives : List Cond := .code y_M_pageArrives b_M_pageArrives 5 none :: wAll
abbrev b_M_stateArrives : ByteArray := prog_8_method_26_code
def y_M_stateArrives : MethodName := ⟨"MovingGuestModel", "stateArrives", "(I)V"⟩
def ws_M_stateArrives : List Cond := .code y_M_stateArrives b_M_stateArrives 3 none :: wAll
abbrev b_M_arrive : ByteArray := prog_8_method_27_code
def y_M_arrive : MethodName := ⟨"MovingGuestModel", "arrive", "()V"⟩
def ws_M_arrive : List Cond := .code y_M_arrive b_M_arrive 4 none :: wAll
abbrev b_M_deliver : ByteArray := prog_8_method_28_code
def y_M_deliver : MethodName := ⟨"MovingGuestModel", "deliver", "(I)I"⟩
def ws_M_deliver : List Cond := .code y_M_deliver b_M_deliver 3 (some .int) :: wAll
abbrev b_M_lose : ByteArray := prog_8_method_29_code
def y_M_lose : MethodName := ⟨"MovingGuestModel", "lose", "(I)I"⟩
def ws_M_lose : List Cond := .code y_M_lose b_M_lose 3 (some .int) :: wAll
abbrev b_M_twice : ByteArray := prog_8_method_30_code
def y_M_twice : MethodName := ⟨"MovingGuestModel", "twice", "(I)I"⟩
def ws_M_twice : List Cond := .code y_M_twice b_M_twice 2 (some .int) :: wAll
abbrev b_M_abort : ByteArray := prog_8_method_31_code
def y_M_abort : MethodName := ⟨"MovingGuestModel", "abort", "()Z"⟩
def ws_M_abort : List Cond := .code y_M_abort b_M_abort 2 (some .boolean) :: wAll
abbrev b_M_crash : ByteArray := prog_8_method_32_code
def y_M_crash : MethodName := ⟨"MovingGuestModel", "crash", "(I)Z"⟩
def ws_M_crash : List Cond := .code y_M_crash b_M_crash 2 (some .boolean) :: wAll
abbrev b_M_back : ByteArray := prog_8_method_33_code
def y_M_back : MethodName := ⟨"MovingGuestModel", "back", "(I)Z"⟩
def ws_M_back : List Cond := .code y_M_back b_M_back 2 (some .boolean) :: wAll
abbrev b_M_takeOver : ByteArray := prog_8_method_34_code
def y_M_takeOver : MethodName := ⟨"MovingGuestModel", "takeOver", "()Z"⟩
def ws_M_takeOver : List Cond := .code y_M_takeOver b_M_takeOver 1 (some .boolean) :: wAll
abbrev b_M_holder : ByteArray := prog_8_method_35_code
def y_M_holder : MethodName := ⟨"MovingGuestModel", "holder", "()I"⟩
def ws_M_holder : List Cond := .code y_M_holder b_M_holder 1 (some .int) :: wAll
abbrev b_M_told : ByteArray := prog_8_method_36_code
def y_M_told : MethodName := ⟨"MovingGuestModel", "told", "(I)I"⟩
def ws_M_told : List Cond := .code y_M_told b_M_told 2 (some .int) :: wAll
abbrev b_M_piece : ByteArray := prog_8_method_37_code
def y_M_piece : MethodName := ⟨"MovingGuestModel", "piece", "(II)I"⟩
def ws_M_piece : List Cond := .code y_M_piece b_M_piece 3 (some .int) :: wAll
abbrev b_M_isUp : ByteArray := prog_8_method_38_code
def y_M_isUp : MethodName := ⟨"MovingGuestModel", "isUp", "(I)Z"⟩
def ws_M_isUp : List Cond := .code y_M_isUp b_M_isUp 2 (some .boolean) :: wAll
abbrev b_M_guest : ByteArray := prog_8_method_39_code
def y_M_guest : MethodName := ⟨"MovingGuestModel", "guest", "(II)I"⟩
def ws_M_guest : List Cond := .code y_M_guest b_M_guest 4 (some .int) :: wAll
abbrev b_M_memory : ByteArray := prog_8_method_40_code
def y_M_memory : MethodName := ⟨"MovingGuestModel", "memory", "(II)I"⟩
def ws_M_memory : List Cond := .code y_M_memory b_M_memory 3 (some .int) :: wAll
abbrev b_M_output : ByteArray := prog_8_method_41_code
def y_M_output : MethodName := ⟨"MovingGuestModel", "output", "(II)I"⟩
def ws_M_output : List Cond := .code y_M_output b_M_output 3 (some .int) :: wAll
abbrev b_M_block : ByteArray := prog_8_method_42_code
def y_M_block : MethodName := ⟨"MovingGuestModel", "block", "(I)I"⟩
def ws_M_block : List Cond := .code y_M_block b_M_block 2 (some .int) :: wAll
abbrev b_H_init : ByteArray := prog_2_method_1_code
def y_H_init : MethodName := ⟨"MovingGuest$Host", "<init>", "()V"⟩
def ws_H_init : List Cond := .code y_H_init b_H_init 1 none :: wAll
abbrev b_H_order : ByteArray := prog_2_method_2_code
def y_H_order : MethodName := ⟨"MovingGuest$Host", "order", "(I)V"⟩
def ws_H_order : List Cond := .code y_H_order b_H_order 2 none :: wAll
abbrev b_H_joinAsTarget : ByteArray := prog_2_method_3_code
def y_H_joinAsTarget : MethodName := ⟨"MovingGuest$Host", "joinAsTarget", "()V"⟩
def ws_H_joinAsTarget : List Cond := .code y_H_joinAsTarget b_H_joinAsTarget 1 none :: wAll
abbrev b_H_leaveMove : ByteArray := prog_2_method_4_code
def y_H_leaveMove : MethodName := ⟨"MovingGuest$Host", "leaveMove", "()V"⟩
def ws_H_leaveMove : List Cond := .code y_H_leaveMove b_H_leaveMove 1 none :: wAll
abbrev b_H_fall : ByteArray := prog_2_method_5_code
def y_H_fall : MethodName := ⟨"MovingGuest$Host", "fall", "()V"⟩
def ws_H_fall : List Cond := .code y_H_fall b_H_fall 1 none :: wAll
abbrev b_L_init : ByteArray := prog_3_method_1_code
def y_L_init : MethodName := ⟨"MovingGuest$Link", "<init>", "()V"⟩
def ws_L_init : List Cond := .code y_L_init b_L_init 1 none :: wAll
abbrev b_L_add : ByteArray := prog_3_method_2_code
def y_L_add : MethodName := ⟨"MovingGuest$Link", "add", "(LMovingGuest$Piece;)V"⟩
def ws_L_add : List Cond := .code y_L_add b_L_add 2 none :: wAll
abbrev b_L_remove : ByteArray := prog_3_method_3_code
def y_L_remove : MethodName := ⟨"MovingGuest$Link", "remove", "(I)LMovingGuest$Piece;"⟩
def ws_L_remove : List Cond := .code y_L_remove b_L_remove 4 (some (.object "MovingGuest$Piece")) :: wAll
abbrev b_A_init : ByteArray := prog_4_method_1_code
def y_A_init : MethodName := ⟨"MovingGuest$Machine", "<init>", "()V"⟩
def ws_A_init : List Cond := .code y_A_init b_A_init 1 none :: wAll
abbrev b_A_clear : ByteArray := prog_4_method_2_code
def y_A_clear : MethodName := ⟨"MovingGuest$Machine", "clear", "()V"⟩
def ws_A_clear : List Cond := .code y_A_clear b_A_clear 1 none :: wAll
abbrev b_A_takeState : ByteArray := prog_4_method_3_code
def y_A_takeState : MethodName := ⟨"MovingGuest$Machine", "takeState", "(LMovingGuest$Machine;)V"⟩
def ws_A_takeState : List Cond := .code y_A_takeState b_A_takeState 2 none :: wAll
abbrev b_A_haltsOrWaits : ByteArray := prog_4_method_4_code
def y_A_haltsOrWaits : MethodName := ⟨"MovingGuest$Machine", "haltsOrWaits", "(I)Z"⟩
def ws_A_haltsOrWaits : List Cond := .code y_A_haltsOrWaits b_A_haltsOrWaits 4 (some .boolean) :: wAll
abbrev b_A_address : ByteArray := prog_4_method_5_code
def y_A_address : MethodName := ⟨"MovingGuest$Machine", "address", "(I)I"⟩
def ws_A_address : List Cond := .code y_A_address b_A_address 2 (some .int) :: wAll
abbrev b_A_request : ByteArray := prog_4_method_6_code
def y_A_request : MethodName := ⟨"MovingGuest$Machine", "request", "(II)V"⟩
def ws_A_request : List Cond := .code y_A_request b_A_request 3 none :: wAll
abbrev b_A_compute : ByteArray := prog_4_method_7_code
def y_A_compute : MethodName := ⟨"MovingGuest$Machine", "compute", "(I)V"⟩
def ws_A_compute : List Cond := .code y_A_compute b_A_compute 5 none :: wAll
abbrev b_A_write : ByteArray := prog_4_method_8_code
def y_A_write : MethodName := ⟨"MovingGuest$Machine", "write", "(I)V"⟩
def ws_A_write : List Cond := .code y_A_write b_A_write 2 none :: wAll
abbrev b_A_readOldest : ByteArray := prog_4_method_9_code
def y_A_readOldest : MethodName := ⟨"MovingGuest$Machine", "readOldest", "()I"⟩
def ws_A_readOldest : List Cond := .code y_A_readOldest b_A_readOldest 2 (some .int) :: wAll
abbrev b_A_tick : ByteArray := prog_4_method_10_code
def y_A_tick : MethodName := ⟨"MovingGuest$Machine", "tick", "()V"⟩
def ws_A_tick : List Cond := .code y_A_tick b_A_tick 1 none :: wAll
abbrev b_V_init : ByteArray := prog_5_method_1_code
def y_V_init : MethodName := ⟨"MovingGuest$Move", "<init>", "()V"⟩
def ws_V_init : List Cond := .code y_V_init b_V_init 1 none :: wAll
abbrev b_V_begin : ByteArray := prog_5_method_2_code
def y_V_begin : MethodName := ⟨"MovingGuest$Move", "begin", "(I)V"⟩
def ws_V_begin : List Cond := .code y_V_begin b_V_begin 2 none :: wAll
abbrev b_V_mustStop : ByteArray := prog_5_method_3_code
def y_V_mustStop : MethodName := ⟨"MovingGuest$Move", "mustStop", "()Z"⟩
def ws_V_mustStop : List Cond := .code y_V_mustStop b_V_mustStop 1 (some .boolean) :: wAll
abbrev b_V_unknownPages : ByteArray := prog_5_method_4_code
def y_V_unknownPages : MethodName := ⟨"MovingGuest$Move", "unknownPages", "()I"⟩
def ws_V_unknownPages : List Cond := .code y_V_unknownPages b_V_unknownPages 3 (some .int) :: wAll
abbrev b_V_nextDue : ByteArray := prog_5_method_5_code
def y_V_nextDue : MethodName := ⟨"MovingGuest$Move", "nextDue", "()I"⟩
def ws_V_nextDue : List Cond := .code y_V_nextDue b_V_nextDue 3 (some .int) :: wAll
abbrev b_V_markChanged : ByteArray := prog_5_method_6_code
def y_V_markChanged : MethodName := ⟨"MovingGuest$Move", "markChanged", "(I)V"⟩
def ws_V_markChanged : List Cond := .code y_V_markChanged b_V_markChanged 2 none :: wAll
abbrev b_V_markSent : ByteArray := prog_5_method_7_code
def y_V_markSent : MethodName := ⟨"MovingGuest$Move", "markSent", "(I)V"⟩
def ws_V_markSent : List Cond := .code y_V_markSent b_V_markSent 2 none :: wAll
abbrev b_V_makeSentDue : ByteArray := prog_5_method_8_code
def y_V_makeSentDue : MethodName := ⟨"MovingGuest$Move", "makeSentDue", "()V"⟩
def ws_V_makeSentDue : List Cond := .code y_V_makeSentDue b_V_makeSentDue 2 none :: wAll
abbrev b_V_markSeen : ByteArray := prog_5_method_9_code
def y_V_markSeen : MethodName := ⟨"MovingGuest$Move", "markSeen", "(II)V"⟩
def ws_V_markSeen : List Cond := .code y_V_markSeen b_V_markSeen 3 none :: wAll
abbrev b_P_init : ByteArray := prog_6_method_1_code
def y_P_init : MethodName := ⟨"MovingGuest$Piece", "<init>", "(IIII[I)V"⟩
def ws_P_init : List Cond := .code y_P_init b_P_init 6 none :: wAll
abbrev b_W_law : ByteArray := code
def y_W_law : MethodName := ⟨"MovingGuestLaw", "law", "([I)Z"⟩
def ws_W_law : List Cond := .code y_W_law b_W_law 4 (some .boolean) :: wAll
abbrev b_T_min : ByteArray := prog_10_method_69_code
def y_T_min : MethodName := ⟨"java/lang/Math", "min", "(II)I"⟩
def ws_T_min : List Cond := .code y_T_min b_T_min 2 (some .int) :: wAll
abbrev b_J_copyOfRange : ByteArray := prog_12_method_136_code
def y_J_copyOfRange : MethodName := ⟨"java/util/Arrays", "copyOfRange", "([III)[I"⟩
def ws_J_copyOfRange : List Cond := .code y_J_copyOfRange b_J_copyOfRange 3 (some (.array .int)) :: wAll
abbrev b_J_fill : ByteArray := prog_12_method_103_code
def y_J_fill : MethodName := ⟨"java/util/Arrays", "fill", "([II)V"⟩
def ws_J_fill : List Cond := .code y_J_fill b_J_fill 4 none :: wAll
end
section
/-! My own words over the kit's rows: a world with all that a walk keeps of it (Hw), a contract (Cti, Ctv, Ctq), its beginning (x_in*), its ends, its calls. -/
def bI (b : Bool) : Int32 := if b = true then 1 else 0
theorem bI_t : bI true = 1 := rfl
theorem bI_f : bI false = 0 := rfl
theorem bI_0 {b : Bool} (h : bI b = 0) : b = false := by cases b with
  | false => rfl
  | true => exact absurd h (by decide)
theorem bI_n {b : Bool} (h : ¬ bI b = 0) : b = true := by cases b with
  | true => rfl
  | false => exact absurd rfl h
theorem bI_nar (b : Bool) : narrow .boolean (.int (bI b)) = .int (bI b) := by cases b <;> rfl
theorem bI_fit (b : Bool) : fits .boolean (.int (bI b)) = true := by cases b <;> rfl
/-- the lowest k bits, as a number -/
def lo (k : Nat) (x : Int32) : Nat := x.toBitVec.toNat % 2 ^ k
theorem lo_lt (k : Nat) (x : Int32) : lo k x < 2 ^ k := Nat.mod_lt _ (Nat.two_pow_pos k)
theorem lo_and (k : Nat) (x m : Int32) (hm : m.toBitVec.toNat = 2 ^ k - 1) : x &&& m = nI (lo k x) := pk_and x k hm
def tN (x : Int32) : Nat := x.toNatClampNeg
theorem tN_nI {n : Nat} (h : n < 2 ^ 31) : tN (nI n) = n := nI_clamp h
/-- a number below b -/
def isN (x : Int32) (b : Nat) : Prop := x = nI (tN x) ∧ tN x < b
theorem isN_nI {n b : Nat} (h : n < b) (hb : b < 2 ^ 31) : isN (nI n) b := ⟨by rw [tN_nI (by omega)], by rw [tN_nI (by omega)]; exact h⟩
theorem isN_of {x y : Int32} {b : Nat} (h0 : ¬ x < 0) (hy : y.toInt = (b : Int)) (h : x < y) : isN x b := by
  obtain ⟨j, hj, rfl⟩ := nI_of h0
  have h1 : (nI j).toInt < y.toInt := Int32.lt_iff_toInt_lt.mp h
  rw [nI_toInt hj, hy] at h1
  exact ⟨by rw [tN_nI hj], by rw [tN_nI hj]; omega⟩
theorem isN_le {x y : Int32} {b : Nat} (h0 : ¬ x < 0) (hy : y.toInt = (b : Int)) (h : x ≤ y) : isN x (b + 1) := by
  obtain ⟨j, hj, rfl⟩ := nI_of h0
  have h1 : (nI j).toInt ≤ y.toInt := Int32.le_iff_toInt_le.mp h
  rw [nI_toInt hj, hy] at h1
  exact ⟨by rw [tN_nI hj], by rw [tN_nI hj]; omega⟩
theorem isN_nle {x y : Int32} {b : Nat} (h0 : ¬ x < 0) (hy : y.toInt = (b : Int)) (h : ¬ y ≤ x) : isN x b := by
  obtain ⟨j, hj, rfl⟩ := nI_of h0
  have h1 : ¬ y.toInt ≤ (nI j).toInt := fun q => h (Int32.le_iff_toInt_le.mpr q)
  rw [nI_toInt hj, hy] at h1
  exact ⟨by rw [tN_nI hj], by rw [tN_nI hj]; omega⟩
theorem x_add2 {x y : Int32} {a b : Nat} (hx : x = nI a) (hy : y = nI b) : x + y = nI (a + b) := by rw [hx, hy, nI_add]
theorem x_mul2 {x y : Int32} {a b : Nat} (hx : x = nI a) (hy : y = nI b) : x * y = nI (a * b) := by rw [hx, hy, pk_mul]
theorem x_sub2 {x y : Int32} {a b : Nat} (hx : x = nI a) (hy : y = nI b) (h : b ≤ a) : x - y = nI (a - b) := by rw [hx, hy, pk_sub h]
theorem x_div2 {x y : Int32} {a b : Nat} (hx : x = nI a) (hy : y = nI b) (ha : a < 2 ^ 31) (h0 : 0 < b) (hb : b < 2 ^ 31) : x / y = nI (a / b) := by rw [hx, hy, pk_div ha h0 hb]
theorem x_rem2 {x y : Int32} {a b : Nat} (hx : x = nI a) (hy : y = nI b) (ha : a < 2 ^ 31) (h0 : 0 < b) (hb : b < 2 ^ 31) : x - x / y * y = nI (a % b) := by rw [hx, hy, pk_rem ha h0 hb]
theorem cpy_0 {α : Type} (f g : Nat → α) (sp dp : Nat) : va_cpy f g sp dp 0 = g := by
  funext k
  exact pk_cpy_out (by omega)
theorem cpy_s (f g : Nat → Int32) (sp dp n : Nat) : upd (va_cpy f g sp dp n) (dp + n) (f (sp + n)) = va_cpy f g sp dp (n + 1) := by
  funext k
  by_cases h : k = dp + n
  · subst h
    rw [pk_us, pk_cpy_in (by omega) (by omega)]
    congr 1
    omega
  · rw [pk_un h]
    by_cases h2 : dp ≤ k ∧ k < dp + n
    · rw [pk_cpy_in h2.1 h2.2, pk_cpy_in h2.1 (by omega)]
    · rw [pk_cpy_out (by omega), pk_cpy_out (by omega)]
theorem cpy_s2 {f g : Nat → Int32} {sp dp n d : Nat} {v : Int32} (hd : d = dp + n) (hv : v = f (sp + n)) : upd (va_cpy f g sp dp n) d v = va_cpy f g sp dp (n + 1) := by
  rw [hd, hv, cpy_s]
theorem cpy_blk {f : Nat → Int32} {sp dp n s d c N : Nat} (hs : s = sp + n) (hd : d = dp + n) (hle : dp ≤ sp) (hN : n + c = N) : va_cpy (va_cpy f f sp dp n) (va_cpy f f sp dp n) s d c = va_cpy f f sp dp N := by
  funext k
  by_cases h1 : d ≤ k ∧ k < d + c
  · rw [pk_cpy_in h1.1 h1.2, pk_cpy_out (by omega), pk_cpy_in (by omega) (by omega)]
    congr 1
    omega
  · rw [pk_cpy_out (by omega)]
    by_cases h2 : dp ≤ k ∧ k < dp + n
    · rw [pk_cpy_in h2.1 h2.2, pk_cpy_in h2.1 (by omega)]
    · rw [pk_cpy_out (by omega), pk_cpy_out (by omega)]
theorem cpy_k {f g : Nat → Int32} {sp dp n : Nat} (hv : f (sp + n) = g (dp + n)) : va_cpy f g sp dp n = va_cpy f g sp dp (n + 1) := by
  rw [← cpy_s]
  funext k
  by_cases h : k = dp + n
  · subst h
    rw [pk_us, pk_cpy_out (by omega), hv]
  · rw [pk_un h]
/-- the same of the class's pages: 0 due, 1 sent, 2 known -/
def cnt2 (sg : Nat → Int32) : Nat → Nat
  | 0 => 0
  | n + 1 => cnt2 sg n + (if sg n = 2 then 0 else 1)
def dueG (sg : Nat → Int32) (l0 : Nat) : Nat → Nat → Int32 × Unit
  | 0, _ => ((-2), ())
  | n + 1, k => if sg ((l0 + k) % 8) = 0 then (nI ((l0 + k) % 8), ()) else dueG sg l0 n (k + 1)
def sentDue (sg : Nat → Int32) : Nat → Int32 := fun j => if sg j = 1 then 0 else sg j
theorem nle_nat {n m : Nat} (h : ¬ nI m ≤ nI n) (hn : n < 2 ^ 31) (hm : m < 2 ^ 31) : n < m := by
  have h1 : ¬ m ≤ n := fun q => h ((nI_leI hm hn).mpr q)
  omega
theorem isN_ltn {x : Int32} {n : Nat} (h0 : ¬ x < 0) (hn : n < 2 ^ 31) (h : ¬ nI n ≤ x) : isN x n := isN_nle (y := nI n) h0 (nI_toInt hn) h
theorem isN_le1 {x y : Int32} {b : Nat} (h0 : ¬ x < 1) (hy : y.toInt = (b : Int)) (h : x ≤ y) : isN x (b + 1) := isN_le (fun q => h0 (Int32.lt_iff_toInt_lt.mpr (by have := Int32.lt_iff_toInt_lt.mp q; have h1 : (1 : Int32).toInt = 1 := rfl; have h2 : (0 : Int32).toInt = 0 := rfl; omega))) hy h
theorem tab_out (n : Nat) {x : Int32} (h : ∀ k, k ≤ n → ¬ x = nI k) : x.toInt < (0 : Int) ∨ (n : Int) < x.toInt := by
  by_cases h0 : x < 0
  · exact Or.inl (Int32.lt_iff_toInt_lt.mp h0)
  · obtain ⟨j, hj, rfl⟩ := nI_of h0
    rw [nI_toInt hj]
    by_cases h1 : j ≤ n
    · exact absurd rfl (h j h1)
    · omega
theorem tab_out1 (m n : Nat) {x : Int32} (h : ∀ k, m ≤ k → k ≤ n → ¬ x = nI k) : x.toInt < (m : Int) ∨ (n : Int) < x.toInt := by
  by_cases h0 : x < 0
  · exact Or.inl (by have := Int32.lt_iff_toInt_lt.mp h0; have h2 : (0 : Int32).toInt = 0 := rfl; omega)
  · obtain ⟨j, hj, rfl⟩ := nI_of h0
    rw [nI_toInt hj]
    by_cases h1 : m ≤ j ∧ j ≤ n
    · exact absurd rfl (h j h1.1 h1.2)
    · omega
/-- how many of the first pages aren't known; the next page that is due; all that aren't known are due again -/
def cnt (pg : Nat → Int32) : Nat → Nat
  | 0 => 0
  | n + 1 => cnt pg n + (if pg n = (-2) then 0 else 1)
def dueF (pg : Nat → Int32) (l0 : Nat) : Nat → Nat → Int32 × Unit
  | 0, _ => ((-1), ())
  | n + 1, k => if pg ((l0 + k) % 8) = (-1) then (nI ((l0 + k) % 8), ()) else dueF pg l0 n (k + 1)
def again (pg : Nat → Int32) : Nat → Int32 := fun j => if pg j = (-2) then (-2) else (-1)
theorem due_natF {pg : Nat → Int32} {l0 : Nat} : ∀ (n k : Nat) (r : Int32) (u : Unit), dueF pg l0 n k = (r, u) → ¬ r < 0 → isN r 8
  | 0, k, r, u, e, h => by
    rw [dueF] at e
    cases e
    exact absurd (by decide) h
  | n + 1, k, r, u, e, h => by
    rw [dueF] at e
    by_cases h1 : pg ((l0 + k) % 8) = (-1)
    · rw [if_pos h1] at e
      cases e
      exact isN_nI (Nat.mod_lt _ (by decide)) (by decide)
    · rw [if_neg h1] at e
      exact due_natF n (k + 1) r u e h
/-- what every contract takes beside its world: two array classes are there, and the static NO_WORDS lies outside -/
def Ex (A : Nat → Prop) (U : State) (H : Heap) : Prop := va_AO "MovingGuest$Host" U ∧ va_AO "MovingGuest$Piece" U ∧ ∃ t : Nat, va_Z "MovingGuest" "NO_WORDS" "[I" (.ref t) A U H
theorem Ex.moved {A : Nat → Prop} {u U : State} {H : Heap} (hvm : u.vm.Alike U.vm) (h : Ex A u H) : Ex A U H := by
  obtain ⟨h1, h2, t, h3⟩ := h
  exact ⟨h1.moved hvm, h2.moved hvm, t, h3.moved hvm⟩
theorem Ex.kept {A : Nat → Prop} {U : State} {H H1 : Heap} (h : Ex A U H) (hq : ∀ a : Nat, a < H.size → ¬ A a → H1[a]? = H[a]?) : Ex A U H1 := by
  obtain ⟨h1, h2, t, h3⟩ := h
  exact ⟨h1, h2, t, h3.kept hq⟩
theorem Ex.narrow {A B : Nat → Prop} {U : State} {H : Heap} (h : Ex A U H) (hAB : ∀ q, B q → A q) : Ex B U H := by
  obtain ⟨h1, h2, t, h3⟩ := h
  exact ⟨h1, h2, t, h3.narrow hAB⟩
def TYS (cT : Nat → ClassId) : List (ClassId × FieldType) := [(cT 0, .int), (cT 1, .boolean), (cT 2, .object "MovingGuest$Host"), (cT 3, .object "MovingGuest$Piece")]
/-- what a walk keeps of its world -/
def Hw (D : va_G) (cl : List vw_C) (tys : List (ClassId × FieldType)) (A : Nat → Prop) (s : State) (ws : va_W) (H : Heap) (locs : List Loc) : Prop :=
  va_K D cl tys s ∧ va_P D cl ws H ∧ va_D A ws ∧ va_S A s.heap H locs ∧ (∀ q : Nat, s.heap.size ≤ q → A q) ∧ Ex A s s.heap
/-- a contract's start, and what holds behind it -/
def Pr (D : va_G) (cl : List vw_C) (tys : List (ClassId × FieldType)) (sz : Nat) (ws : va_W) (U : State) : Prop :=
  U.heap.size = sz ∧ va_P D cl ws U.heap ∧ va_K D cl tys U ∧ va_D (fun _ => True) ws ∧ Ex (va_A ws sz) U U.heap
def Wt (D : va_G) (cl : List vw_C) (tys : List (ClassId × FieldType)) (A : Nat → Prop) (ws : va_W) (t : State) : Prop :=
  va_P D cl ws t.heap ∧ va_K D cl tys t ∧ va_D A ws
def Cti {S : Type} (l : Launch) (y : MethodName) (wds : List Cond) (rm : Room) (D : va_G) (cl : List vw_C) (tys : List (ClassId × FieldType)) (av : List Value) (wc : va_W) (post : Int32 → S → Prop) (w1 : S → va_W) (mc ms : Nat) : Prop :=
  ∀ sz : Nat, Met l y wds rm (va_Pc av (Pr D cl tys sz wc)) (va_Qi post (fun u t => Wt D cl tys (va_A wc sz) (w1 u) t) (va_A wc sz)) mc ms (va_A wc sz)
def Ctv {S : Type} (l : Launch) (y : MethodName) (wds : List Cond) (rm : Room) (D : va_G) (cl : List vw_C) (tys : List (ClassId × FieldType)) (av : List Value) (wc : va_W) (post : S → Prop) (w1 : S → va_W) (mc ms : Nat) : Prop :=
  ∀ sz : Nat, Met l y wds rm (va_Pc av (Pr D cl tys sz wc)) (va_Qv post (fun u t => Wt D cl tys (va_A wc sz) (w1 u) t) (va_A wc sz)) mc ms (va_A wc sz)
def Ctq {S : Type} (l : Launch) (y : MethodName) (wds : List Cond) (rm : Room) (D : va_G) (cl : List vw_C) (tys : List (ClassId × FieldType)) (av : List Value) (wc : va_W) (post : Option Nat → S → Prop) (w1 : S → va_W) (mc ms : Nat) : Prop :=
  ∀ sz : Nat, Met l y wds rm (va_Pc av (Pr D cl tys sz wc)) (va_Qq post (fun u t => Wt D cl tys (va_A wc sz) (w1 u) t) (va_A wc sz)) mc ms (va_A wc sz)
theorem Pr.blind {D : va_G} {cl : List vw_C} {tys : List (ClassId × FieldType)} {sz : Nat} {ws : va_W} {av : List Value} : FrameBlind (va_Pc av (Pr D cl tys sz ws)) := fun a U g mk q => by
  obtain ⟨q0, q1, qP, qK, qD, qE⟩ := q
  exact ⟨q0, q1, qP, va_K.moved (u := U) (U := U.calling g mk a) (Vm.Alike.refl U.vm) qK, qD, Ex.moved (u := U) (U := U.calling g mk a) (Vm.Alike.refl U.vm) qE⟩
section XB
variable {p : Program} {l : Launch} {e : Env} {R : Room} {s : State} {m : MethodId} {args : Array Value} {below : List Frame} {meth : Method} {c : Code} {H : Heap} {locs : List Loc} {cells slots : Nat} {Q : State → Prop}
variable {pc : Nat} {ls : Array Slot} {rest : List Value} {cc : ByteArray} {nL : Nat} {Ts : List Cond} {own : String} {A : Nat → Prop} {D : va_G} {cl : List vw_C} {ws : va_W} {tys : List (ClassId × FieldType)} {a : Nat}
theorem Hw.sub {ws' : va_W} (h : Hw D cl tys A s ws H locs) (is : List Nat) (hn : va_nd is = true) (hs : is.map (fun i => ws[i]?) = ws'.map some) : Hw D cl tys A s ws' H locs := by
  refine ⟨h.1, h.2.1.sub is ?_, h.2.2.1.sub is hn hs, h.2.2.2⟩
  have e2 : is.filterMap (fun i => ws[i]?) = (is.map (fun i => ws[i]?)).filterMap id := by rw [List.filterMap_map]; rfl
  rw [e2, hs, List.filterMap_map]
  exact List.filterMap_some
theorem Hw.pr (h : Hw D cl tys A s ws H locs) : ∀ U : State, U.heap = H → s.WarmedH U.vm → Pr D cl tys H.size ws U := fun U hU hW =>
  ⟨by rw [hU], by rw [hU]; exact h.2.1, va_K.moved hW.alike h.1, h.2.2.1.weaken (fun _ _ _ _ => trivial), by
    rw [hU]
    refine Ex.moved hW.alike (Ex.narrow (h.2.2.2.2.2.kept h.2.2.2.1.2.1) (fun q hq => ?_))
    rcases hq with ⟨k, e, hk⟩ | hq
    · exact h.2.2.1.2 k _ hk
    · exact h.2.2.2.2.1 q (Nat.le_trans h.2.2.2.1.1 hq)⟩
/-- fields -/
theorem x_get (F : CallFix p m c cc nL s args Ts own) (h : Hw D cl tys A s ws H locs) {C : String} {T : u_T} {N ci index : Nat} (q0 k : Nat) {fs : List Value} {v : Value} (hin : ∀ w ∈ u_ws C T N, w ∈ Ts) (he : ws[q0]? = some (a, .inr (ci, fs))) (hc : cl[ci]? = some (C, T, N)) (hk : k < N) (hlink : Cond.fieldLink own index (T k).1 (T k).2.1 (T k).2.2.1 ∈ Ts) (hv : fs[k]? = some v) (hdg : decode cc pc = .ok (.getfield index, 3))
    (kk : W p l e R s m args below meth c H locs cells slots Q (F0 m (pc + 3) ls (v :: rest))) : W p l e R s m args below meth c H locs cells slots Q (F0 m pc ls (.ref a :: rest)) :=
  va_get F.1 F.2.1 F.2.2.2.2 hin F.2.2.2.1 h.1 h.2.1 q0 he hc k hk (F.2.2.2.2 _ hlink) (fun _ h9 => h9) hv hdg kk
theorem x_put (F : CallFix p m c cc nL s args Ts own) (h : Hw D cl tys A s ws H locs) {C : String} {T : u_T} {N ci index : Nat} (q0 k : Nat) {fs : List Value} {v : Value} {ty : FieldType} {ws' : va_W} (hin : ∀ w ∈ u_ws C T N, w ∈ Ts) (ty0 : Nat → FieldType) (hty : ∀ k, k < N → parseFieldDescriptor (T k).2.2.1 = some (ty0 k)) (hnm : ∀ a, a < N → ∀ b, b < N → a ≠ b → (T a).2.1 ≠ (T b).2.1) (he : ws[q0]? = some (a, .inr (ci, fs))) (hc : cl[ci]? = some (C, T, N)) (hk : k < N) (hlink : Cond.fieldLink own index (T k).1 (T k).2.1 (T k).2.2.1 ∈ Ts) (hfin : (T k).2.2.2 = false) (hd : parseFieldDescriptor (T k).2.2.1 = some ty) (hn : narrow ty v = v) (hfit : fits ty v = true) (hl : k < fs.length) (hdg : decode cc pc = .ok (.putfield index, 3)) (hw' : ws.set q0 (a, .inr (ci, fs.set k v)) = ws')
    (kk : ∀ (H1 : Heap) (locs1 : List Loc), Hw D cl tys A s ws' H1 locs1 → W p l e R s m args below meth c H1 locs1 cells slots Q (F0 m (pc + 3) ls rest)) : W p l e R s m args below meth c H locs cells slots Q (F0 m pc ls (v :: .ref a :: rest)) := by
  subst hw'
  exact va_put F.1 F.2.1 F.2.2.2.2 hin ty0 hty hnm F.2.2.2.1 h.1 h.2.1 h.2.2.1 h.2.2.2.1 q0 he hc k hk (F.2.2.2.2 _ hlink) (fun _ h9 => h9) hfin hd hn hfit hl hdg (fun H1 locs1 hP hD hS => kk H1 locs1 ⟨h.1, hP, hD, hS, h.2.2.2.2⟩)
theorem x_putF (F : CallFix p m c cc nL s args Ts own) (h : Hw D cl tys A s ws H locs) (hin2 : meth.name = "<init>") {C : String} {T : u_T} {N ci index : Nat} (q0 k : Nat) {fs : List Value} {v : Value} {ty : FieldType} {ws' : va_W} (hin : ∀ w ∈ u_ws C T N, w ∈ Ts) (ty0 : Nat → FieldType) (hty : ∀ k, k < N → parseFieldDescriptor (T k).2.2.1 = some (ty0 k)) (hnm : ∀ a, a < N → ∀ b, b < N → a ≠ b → (T a).2.1 ≠ (T b).2.1) (he : ws[q0]? = some (a, .inr (ci, fs))) (hc : cl[ci]? = some (C, T, N)) (hk : k < N) (hlink : Cond.fieldLink own index (T k).1 (T k).2.1 (T k).2.2.1 ∈ Ts) (hfin : (T k).2.2.2 = true) (hdecl : (T k).1 = own) (hd : parseFieldDescriptor (T k).2.2.1 = some ty) (hn : narrow ty v = v) (hfit : fits ty v = true) (hl : k < fs.length) (hdg : decode cc pc = .ok (.putfield index, 3)) (hw' : ws.set q0 (a, .inr (ci, fs.set k v)) = ws')
    (kk : ∀ (H1 : Heap) (locs1 : List Loc), Hw D cl tys A s ws' H1 locs1 → W p l e R s m args below meth c H1 locs1 cells slots Q (F0 m (pc + 3) ls rest)) : W p l e R s m args below meth c H locs cells slots Q (F0 m pc ls (v :: .ref a :: rest)) := by
  subst hw'
  exact va_putF F.1 F.2.1 F.2.2.2.2 hin ty0 hty hnm F.2.2.2.1 h.1 h.2.1 h.2.2.1 h.2.2.2.1 q0 he hc k hk (F.2.2.2.2 _ hlink) (fun _ h9 => h9) hfin hin2 hdecl hd hn hfit hl hdg (fun H1 locs1 hP hD hS => kk H1 locs1 ⟨h.1, hP, hD, hS, h.2.2.2.2⟩)
/-- arrays of ints, of booleans, of references -/
theorem x_iald (F : CallFix p m c cc nL s args Ts own) (h : Hw D cl tys A s ws H locs) (q0 t0 n0 : Nat) {cA : ClassId} {n : Nat} {f : Nat → Int32} {i : Int32} (ha : ws[q0]? = some (a, .inl (cA, n, .inl f))) (ht : tys[t0]? = some (cA, .int)) (hi : i = nI n0) (hlt : n0 < n) (hN : n < 2 ^ 31) (hdg : decode cc pc = .ok (.iaload, 1))
    (kk : W p l e R s m args below meth c H locs cells slots Q (F0 m (pc + 1) ls (.int (f n0) :: rest))) : W p l e R s m args below meth c H locs cells slots Q (F0 m pc ls (.int i :: .ref a :: rest)) := by
  subst hi
  refine va_iald F.1 F.2.1 h.1 h.2.1 q0 t0 ha ht (vp_in_nI hlt hN) hdg ?_
  rw [nI_clamp (by omega)]
  exact kk
theorem x_zald (F : CallFix p m c cc nL s args Ts own) (h : Hw D cl tys A s ws H locs) (q0 t0 n0 : Nat) {cA : ClassId} {n : Nat} {f : Nat → Int32} {i : Int32} (ha : ws[q0]? = some (a, .inl (cA, n, .inl f))) (ht : tys[t0]? = some (cA, .boolean)) (hi : i = nI n0) (hlt : n0 < n) (hN : n < 2 ^ 31) (hdg : decode cc pc = .ok (.baload, 1))
    (kk : W p l e R s m args below meth c H locs cells slots Q (F0 m (pc + 1) ls (.int (f n0) :: rest))) : W p l e R s m args below meth c H locs cells slots Q (F0 m pc ls (.int i :: .ref a :: rest)) := by
  subst hi
  refine va_zald F.1 F.2.1 h.1 h.2.1 q0 t0 ha ht (vp_in_nI hlt hN) hdg ?_
  rw [nI_clamp (by omega)]
  exact kk
theorem x_aldq (F : CallFix p m c cc nL s args Ts own) (h : Hw D cl tys A s ws H locs) (q0 t0 n0 : Nat) {cA : ClassId} {C : String} {n : Nat} {f : Nat → Option Nat} {i : Int32} (ha : ws[q0]? = some (a, .inl (cA, n, .inr (.inr (.inr (.inr f)))))) (ht : tys[t0]? = some (cA, .object C)) (hi : i = nI n0) (hlt : n0 < n) (hN : n < 2 ^ 31) (hdg : decode cc pc = .ok (.aaload, 1))
    (kk : W p l e R s m args below meth c H locs cells slots Q (F0 m (pc + 1) ls (va_rf (f n0) :: rest))) : W p l e R s m args below meth c H locs cells slots Q (F0 m pc ls (.int i :: .ref a :: rest)) := by
  subst hi
  refine va_aldq F.1 F.2.1 h.1 h.2.1 q0 t0 ha ht (vp_in_nI hlt hN) hdg ?_
  rw [nI_clamp (by omega)]
  exact kk
theorem x_iast (F : CallFix p m c cc nL s args Ts own) (h : Hw D cl tys A s ws H locs) (q0 t0 n0 : Nat) {cA : ClassId} {n : Nat} {f : Nat → Int32} {i x : Int32} {ws' : va_W} (ha : ws[q0]? = some (a, .inl (cA, n, .inl f))) (ht : tys[t0]? = some (cA, .int)) (hi : i = nI n0) (hlt : n0 < n) (hN : n < 2 ^ 31) (hdg : decode cc pc = .ok (.iastore, 1)) (hw' : ws.set q0 (a, .inl (cA, n, .inl (upd f n0 x))) = ws')
    (kk : ∀ (H1 : Heap) (locs1 : List Loc), Hw D cl tys A s ws' H1 locs1 → W p l e R s m args below meth c H1 locs1 cells slots Q (F0 m (pc + 1) ls rest)) : W p l e R s m args below meth c H locs cells slots Q (F0 m pc ls (.int x :: .int i :: .ref a :: rest)) := by
  subst hi
  subst hw'
  refine va_iast F.1 F.2.1 h.1 h.2.1 h.2.2.1 h.2.2.2.1 q0 t0 ha ht (vp_in_nI hlt hN) hdg ?_
  rw [nI_clamp (by omega)]
  exact fun H1 locs1 hP hD hS => kk H1 locs1 ⟨h.1, hP, hD, hS, h.2.2.2.2⟩
theorem x_zast (F : CallFix p m c cc nL s args Ts own) (h : Hw D cl tys A s ws H locs) (q0 t0 n0 : Nat) {cA : ClassId} {n : Nat} {f : Nat → Int32} {i x : Int32} {ws' : va_W} (ha : ws[q0]? = some (a, .inl (cA, n, .inl f))) (ht : tys[t0]? = some (cA, .boolean)) (hi : i = nI n0) (hlt : n0 < n) (hN : n < 2 ^ 31) (hx : vp_nar .boolean x = x) (hdg : decode cc pc = .ok (.bastore, 1)) (hw' : ws.set q0 (a, .inl (cA, n, .inl (upd f n0 x))) = ws')
    (kk : ∀ (H1 : Heap) (locs1 : List Loc), Hw D cl tys A s ws' H1 locs1 → W p l e R s m args below meth c H1 locs1 cells slots Q (F0 m (pc + 1) ls rest)) : W p l e R s m args below meth c H locs cells slots Q (F0 m pc ls (.int x :: .int i :: .ref a :: rest)) := by
  subst hi
  subst hw'
  refine va_zast F.1 F.2.1 h.1 h.2.1 h.2.2.1 h.2.2.2.1 q0 t0 ha ht (vp_in_nI hlt hN) hdg ?_
  rw [nI_clamp (by omega), hx]
  exact fun H1 locs1 hP hD hS => kk H1 locs1 ⟨h.1, hP, hD, hS, h.2.2.2.2⟩
theorem x_zaldB (F : CallFix p m c cc nL s args Ts own) (h : Hw D cl tys A s ws H locs) (q0 t0 n0 : Nat) {cA : ClassId} {n : Nat} {g : Nat → Bool} {i : Int32} (ha : ws[q0]? = some (a, .inl (cA, n, .inl (fun j => bI (g j))))) (ht : tys[t0]? = some (cA, .boolean)) (hi : i = nI n0) (hlt : n0 < n) (hN : n < 2 ^ 31) (hdg : decode cc pc = .ok (.baload, 1))
    (kk : W p l e R s m args below meth c H locs cells slots Q (F0 m (pc + 1) ls (.int (bI (g n0)) :: rest))) : W p l e R s m args below meth c H locs cells slots Q (F0 m pc ls (.int i :: .ref a :: rest)) :=
  x_zald F h q0 t0 n0 ha ht hi hlt hN hdg kk
theorem bI_upd (g : Nat → Bool) (n : Nat) (b : Bool) : upd (fun j => bI (g j)) n (bI b) = fun j => bI (va_up g n b j) := by
  funext j
  unfold upd va_up
  by_cases h : j = n
  · rw [if_pos h, if_pos h]
  · rw [if_neg h, if_neg h]
theorem x_zastB (F : CallFix p m c cc nL s args Ts own) (h : Hw D cl tys A s ws H locs) (q0 t0 n0 : Nat) {cA : ClassId} {n : Nat} {g : Nat → Bool} {i : Int32} {b : Bool} {ws' : va_W} (ha : ws[q0]? = some (a, .inl (cA, n, .inl (fun j => bI (g j))))) (ht : tys[t0]? = some (cA, .boolean)) (hi : i = nI n0) (hlt : n0 < n) (hN : n < 2 ^ 31) (hdg : decode cc pc = .ok (.bastore, 1)) (hw' : ws.set q0 (a, .inl (cA, n, .inl (fun j => bI (va_up g n0 b j)))) = ws')
    (kk : ∀ (H1 : Heap) (locs1 : List Loc), Hw D cl tys A s ws' H1 locs1 → W p l e R s m args below meth c H1 locs1 cells slots Q (F0 m (pc + 1) ls rest)) : W p l e R s m args below meth c H locs cells slots Q (F0 m pc ls (.int (bI b) :: .int i :: .ref a :: rest)) :=
  x_zast F h q0 t0 n0 ha ht hi hlt hN (by cases b <;> rfl) hdg (by rw [bI_upd]; exact hw') kk
theorem x_ref {x : Nat} (k : W p l e R s m args below meth c H locs cells slots Q (F0 m pc ls (.ref x :: rest))) : W p l e R s m args below meth c H locs cells slots Q (F0 m pc ls (va_rf (some x) :: rest)) := k
/-- a masked number has a name that is a natural number -/
theorem x_top {x y : Int32} (hxy : x = y) (k : W p l e R s m args below meth c H locs cells slots Q (F0 m pc ls (.int y :: rest))) : W p l e R s m args below meth c H locs cells slots Q (F0 m pc ls (.int x :: rest)) := hxy ▸ k
theorem x_new (F : CallFix p m c cc nL s args Ts own) (h : Hw D cl tys A s ws H locs) {C : String} {T : u_T} {N ci index : Nat} {fs : List Value} (hin : ∀ w ∈ u_ws C T N, w ∈ Ts) (ty : Nat → FieldType) (hty : ∀ k, k < N → parseFieldDescriptor (T k).2.2.1 = some (ty k)) (hcl : Cond.classLink own index C ∈ Ts) (hinst : Cond.instantiable C N ∈ Ts) (hini : Cond.initialized C ∈ Ts) (hc : cl[ci]? = some (C, T, N)) (hfs : ∀ j, j < N → defaultValue (ty j) = vp_V fs j) (hcells : cells + 1 ≤ R.cells) (hslots : slots + N ≤ R.slots) (hdg : decode cc pc = .ok (.new index, 3))
    (kk : ∀ (q : Nat) (H1 : Heap), Hw D cl tys A s (ws ++ [(q, .inr (ci, fs))]) H1 locs → W p l e R s m args below meth c H1 locs (cells + 1) (slots + N) Q (F0 m (pc + 3) ls (.ref q :: rest))) : W p l e R s m args below meth c H locs cells slots Q (F0 m pc ls rest) := by
  refine va_new F.1 F.2.1 F.2.2.2.2 hin ty hty F.2.2.2.1 (F.2.2.2.2 _ hcl) (F.2.2.2.2 _ hinst) (F.2.2.2.2 _ hini) h.1 h.2.1 h.2.2.1 h.2.2.2.1 h.2.2.2.2.1 hc hfs hcells hslots hdg (fun q H1 hP hD hS => ?_)
  exact kk q H1 ⟨h.1, hP, hD, hS, h.2.2.2.2⟩
theorem k_same {c1 c2 : ClassId} (hK : va_K D cl tys s) (i j : Nat) (h1 : tys[i]? = some (c1, .int)) (h2 : tys[j]? = some (c2, .int)) : c1 = c2 := by
  have e1 : s.vm.findClass ("[" ++ FieldType.int.toString) = some c1 := (hK.2 i _ h1).2
  have e2 : s.vm.findClass ("[" ++ FieldType.int.toString) = some c2 := (hK.2 j _ h2).2
  exact Option.some.inj (e1.symm.trans e2)
theorem k_sameZ {c1 c2 : ClassId} (hK : va_K D cl tys s) (i j : Nat) (h1 : tys[i]? = some (c1, .boolean)) (h2 : tys[j]? = some (c2, .boolean)) : c1 = c2 := by
  have e1 : s.vm.findClass ("[" ++ FieldType.boolean.toString) = some c1 := (hK.2 i _ h1).2
  have e2 : s.vm.findClass ("[" ++ FieldType.boolean.toString) = some c2 := (hK.2 j _ h2).2
  exact Option.some.inj (e1.symm.trans e2)
theorem k_sameQ {c1 c2 : ClassId} {C : String} (hK : va_K D cl tys s) (i j : Nat) (h1 : tys[i]? = some (c1, .object C)) (h2 : tys[j]? = some (c2, .object C)) : c1 = c2 := by
  obtain ⟨k1, d1, a1, a2, a3, e1⟩ := (hK.2 i _ h1).2
  obtain ⟨k2, d2, b1, b2, b3, e2⟩ := (hK.2 j _ h2).2
  exact Option.some.inj (e1.symm.trans e2)
theorem x_newi (F : CallFix p m c cc nL s args Ts own) (h : Hw D cl tys A s ws H locs) (t0 : Nat) {cA : ClassId} (ht : tys[t0]? = some (cA, .int)) {n : Int32} {N' : Nat} (harr : Cond.arrayClass .int ∈ Ts) (hn : ¬ n < 0) (hN : n.toNatClampNeg = N') (hbytes : N' * 4 ≤ 536870912) (hcells : cells + 1 ≤ R.cells) (hslots : slots + N' ≤ R.slots) (hdg : decode cc pc = .ok (.newarray .int, 2))
    (kk : ∀ (q : Nat) (H1 : Heap), Hw D cl tys A s (ws ++ [(q, .inl (cA, N', .inl (fun _ => 0)))]) H1 locs → W p l e R s m args below meth c H1 locs (cells + 1) (slots + N') Q (F0 m (pc + 2) ls (.ref q :: rest))) : W p l e R s m args below meth c H locs cells slots Q (F0 m pc ls (.int n :: rest)) := by
  refine va_newa (atype := .int) (ty := .int) (a0 := (N', .inl (fun _ => 0))) F.1 F.2.1 (F.2.2.2.2 _ harr) rfl h.1 h.2.1 h.2.2.1 h.2.2.2.1 h.2.2.2.2.1 (fun _ => rfl) hn hN hbytes hcells hslots hdg (fun q cB H1 hK hP hD hS => ?_)
  have hl : t0 < tys.length := (List.getElem?_eq_some_iff.mp ht).1
  obtain rfl : cA = cB := k_same hK t0 tys.length (by rw [List.getElem?_append_left hl]; exact ht) (by rw [List.getElem?_append_right (Nat.le_refl _), Nat.sub_self]; rfl)
  exact kk q H1 ⟨h.1, hP, hD, hS, h.2.2.2.2⟩
theorem x_newz (F : CallFix p m c cc nL s args Ts own) (h : Hw D cl tys A s ws H locs) (t0 : Nat) {cA : ClassId} (ht : tys[t0]? = some (cA, .boolean)) {n : Int32} {N' : Nat} (harr : Cond.arrayClass .boolean ∈ Ts) (hn : ¬ n < 0) (hN : n.toNatClampNeg = N') (hbytes : N' * 1 ≤ 536870912) (hcells : cells + 1 ≤ R.cells) (hslots : slots + N' ≤ R.slots) (hdg : decode cc pc = .ok (.newarray .boolean, 2))
    (kk : ∀ (q : Nat) (H1 : Heap), Hw D cl tys A s (ws ++ [(q, .inl (cA, N', .inl (fun j => bI ((fun _ => false) j))))]) H1 locs → W p l e R s m args below meth c H1 locs (cells + 1) (slots + N') Q (F0 m (pc + 2) ls (.ref q :: rest))) : W p l e R s m args below meth c H locs cells slots Q (F0 m pc ls (.int n :: rest)) := by
  refine va_newa (atype := .boolean) (ty := .boolean) (a0 := (N', .inl (fun _ => 0))) F.1 F.2.1 (F.2.2.2.2 _ harr) rfl h.1 h.2.1 h.2.2.1 h.2.2.2.1 h.2.2.2.2.1 (fun _ => rfl) hn hN hbytes hcells hslots hdg (fun q cB H1 hK hP hD hS => ?_)
  have hl : t0 < tys.length := (List.getElem?_eq_some_iff.mp ht).1
  obtain rfl : cA = cB := k_sameZ hK t0 tys.length (by rw [List.getElem?_append_left hl]; exact ht) (by rw [List.getElem?_append_right (Nat.le_refl _), Nat.sub_self]; rfl)
  exact kk q H1 ⟨h.1, hP, hD, hS, h.2.2.2.2⟩
theorem x_newq (F : CallFix p m c cc nL s args Ts own) (h : Hw D cl tys A s ws H locs) (t0 : Nat) {cA : ClassId} {C : String} {index : Nat} (ht : tys[t0]? = some (cA, .object C)) (hcl : Cond.classLink own index C ∈ Ts) (hover : va_AO C s) {n : Int32} {N' : Nat} (hn : ¬ n < 0) (hN : n.toNatClampNeg = N') (hbytes : N' * 4 ≤ 536870912) (hcells : cells + 1 ≤ R.cells) (hslots : slots + N' ≤ R.slots) (hdg : decode cc pc = .ok (.anewarray index, 3))
    (kk : ∀ (q : Nat) (H1 : Heap), Hw D cl tys A s (ws ++ [(q, .inl (cA, N', .inr (.inr (.inr (.inr (fun _ => none))))))]) H1 locs → W p l e R s m args below meth c H1 locs (cells + 1) (slots + N') Q (F0 m (pc + 3) ls (.ref q :: rest))) : W p l e R s m args below meth c H locs cells slots Q (F0 m pc ls (.int n :: rest)) := by
  refine va_newq F.1 F.2.1 F.2.2.2.1 (F.2.2.2.2 _ hcl) hover h.1 h.2.1 h.2.2.1 h.2.2.2.1 h.2.2.2.2.1 hn hN hbytes hcells hslots hdg (fun q cB H1 hK hP hD hS => ?_)
  have hl : t0 < tys.length := (List.getElem?_eq_some_iff.mp ht).1
  obtain rfl : cA = cB := k_sameQ hK t0 tys.length (by rw [List.getElem?_append_left hl]; exact ht) (by rw [List.getElem?_append_right (Nat.le_refl _), Nat.sub_self]; rfl)
  exact kk q H1 ⟨h.1, hP, hD, hS, h.2.2.2.2⟩
theorem x_copyi {lvs : List (Nat × Value)} (F : CallFix p m c cc nL s args Ts own) (hl : lv_has ls nL lvs) (h : Hw D cl tys A s ws H locs) (q0 q1 t0 sN dN nN : Nat) {index a0 : Nat} {cA : ClassId} {n0 n1 : Nat} {f g : Nat → Int32} {sp dp n : Int32} {ws' : va_W} (hlink : Cond.methodLink own index arraycopyName ∈ Ts) (hnat : Cond.native arraycopyName ∈ Ts) (hstat : Cond.static arraycopyName ∈ Ts) (hini : Cond.initialized "java/lang/System" ∈ Ts)
    (ha0 : ws[q0]? = some (a0, .inl (cA, n0, .inl f))) (ha1 : ws[q1]? = some (a, .inl (cA, n1, .inl g))) (ht : tys[t0]? = some (cA, .int)) (hs : sp = nI sN) (hd : dp = nI dN) (hn : n = nI nN) (b1 : sN + nN ≤ n0) (b2 : dN + nN ≤ n1) (b3 : n0 < 2 ^ 31) (b4 : n1 < 2 ^ 31) (hframes : 1 ≤ R.frames) (hlocals : (rest.map fun v => v.category).sum + (nativeFrameWords "java/lang/System" "arraycopy" 5 + 11) ≤ R.locals) (hdg : decode cc pc = .ok (.invokestatic index, 3)) (hw' : ws.set q1 (a, .inl (cA, n1, .inl (va_cpy f g sN dN nN))) = ws')
    (kk : ∀ (H1 : Heap) (locs1 : List Loc), Hw D cl tys A s ws' H1 locs1 → W p l e R s m args below meth c H1 locs1 cells slots Q (F0 m (pc + 3) ls rest)) : W p l e R s m args below meth c H locs cells slots Q (F0 m pc ls (.int n :: .int dp :: .ref a :: .int sp :: .ref a0 :: rest)) := by
  subst hs
  subst hd
  subst hn
  subst hw'
  have e1 : (nI sN).toNatClampNeg = sN := nI_clamp (by omega)
  have e2 : (nI dN).toNatClampNeg = dN := nI_clamp (by omega)
  have e3 : (nI nN).toNatClampNeg = nN := nI_clamp (by omega)
  refine va_copyi F.1 F.2.1 (F.2.2.1.trans hl.1.symm) F.2.2.2.1 (F.2.2.2.2 _ hlink) (F.2.2.2.2 _ hnat) (F.2.2.2.2 _ hstat) (F.2.2.2.2 _ hini) h.1 h.2.1 h.2.2.1 h.2.2.2.1 q0 q1 t0 t0 ha0 ha1 ht ht rfl (nI_pos (by omega)) (nI_pos (by omega)) (nI_pos (by omega)) (by rw [e1, e3]; exact b1) (by rw [e2, e3]; exact b2) (fun _ _ => rfl) hframes hlocals hdg ?_
  rw [e1, e2, e3]
  exact fun H1 locs1 hP hD hS => kk H1 locs1 ⟨h.1, hP, hD, hS, h.2.2.2.2⟩
theorem x_astq (F : CallFix p m c cc nL s args Ts own) (h : Hw D cl tys A s ws H locs) (q0 t0 qk n0 : Nat) {ci : Nat} {cA : ClassId} {C : String} {T : u_T} {N n v : Nat} {vs : List Value} {f : Nat → Option Nat} {i : Int32} {ws' : va_W} (ha : ws[q0]? = some (a, .inl (cA, n, .inr (.inr (.inr (.inr f)))))) (ht : tys[t0]? = some (cA, .object C)) (hv : ws[qk]? = some (v, .inr (ci, vs))) (hc : cl[ci]? = some (C, T, N)) (hi : i = nI n0) (hlt : n0 < n) (hN : n < 2 ^ 31) (hdg : decode cc pc = .ok (.aastore, 1)) (hw' : ws.set q0 (a, .inl (cA, n, .inr (.inr (.inr (.inr (va_up f n0 (some v))))))) = ws')
    (kk : ∀ (H1 : Heap) (locs1 : List Loc), Hw D cl tys A s ws' H1 locs1 → W p l e R s m args below meth c H1 locs1 cells slots Q (F0 m (pc + 1) ls rest)) : W p l e R s m args below meth c H locs cells slots Q (F0 m pc ls (.ref v :: .int i :: .ref a :: rest)) := by
  subst hi
  subst hw'
  refine va_astq F.1 F.2.1 h.1 h.2.1 h.2.2.1 h.2.2.2.1 q0 t0 qk ci ha ht hv hc (vp_in_nI hlt hN) hdg ?_
  rw [nI_clamp (by omega)]
  exact fun H1 locs1 hP hD hS => kk H1 locs1 ⟨h.1, hP, hD, hS, h.2.2.2.2⟩
/-- branches on a boolean -/
theorem x_ifeqB (F : CallFix p m c cc nL s args Ts own) {b : Bool} {off : Int} {tgt : Nat} (hdg : decode cc pc = .ok (.ifCond .eq off, 3)) (ht : (pc : Int) + off = (tgt : Int))
    (kt : ¬ b = true → W p l e R s m args below meth c H locs cells slots Q (F0 m tgt ls rest)) (kf : b = true → W p l e R s m args below meth c H locs cells slots Q (F0 m (pc + 3) ls rest)) : W p l e R s m args below meth c H locs cells slots Q (F0 m pc ls (.int (bI b) :: rest)) :=
  lv_if_eq F.1 F.2.1 hdg ht (fun h => kt (by rw [bI_0 h]; decide)) (fun h => kf (bI_n h))
theorem x_ifneB (F : CallFix p m c cc nL s args Ts own) {b : Bool} {off : Int} {tgt : Nat} (hdg : decode cc pc = .ok (.ifCond .ne off, 3)) (ht : (pc : Int) + off = (tgt : Int))
    (kt : b = true → W p l e R s m args below meth c H locs cells slots Q (F0 m tgt ls rest)) (kf : ¬ b = true → W p l e R s m args below meth c H locs cells slots Q (F0 m (pc + 3) ls rest)) : W p l e R s m args below meth c H locs cells slots Q (F0 m pc ls (.int (bI b) :: rest)) :=
  lv_if_ne F.1 F.2.1 hdg ht (fun h => kt (bI_n h)) (fun h => kf (by rw [bI_0 h]; decide))
end XB
section XE
variable {l : Launch} {y : MethodName} {wds wds' : List Cond} {rm : Room} {D : va_G} {cl : List vw_C} {tys : List (ClassId × FieldType)} {av : List Value} {wc : va_W} {mc ms : Nat} {cc : ByteArray} {maxL : Nat}
/-- a contract's walk begins: an int, a boolean, nothing, a reference comes back -/
theorem x_in {ret : Option FieldType} {Qc : (Nat → Prop) → Array Value → State → Outcome → State → Prop} (sz : Nat) (hy : plainName y.cls = true) (hw : wds = Cond.code y cc maxL ret :: wds') (hlen : (lg_sl av).length ≤ maxL)
    (body : ∀ (p : Program) (e : Env) (s : State) (m : MethodId) (args : Array Value) (below : List Frame) (meth : Method) (c : Code) (A : Nat → Prop) (ls : Array Slot), CallFix p m c cc maxL s args wds y.cls → meth.sig.returnType = ret → meth.locks = false → meth.name = y.name → lv_has ls maxL (lv_args 0 av) → Hw D cl tys A s wc s.heap [] →
      W p l e rm s m args below meth c s.heap [] 0 0 (MQ below (Qc A) args s mc ms A) (F0 m 0 ls [])) :
    Met l y wds rm (va_Pc av (Pr D cl tys sz wc)) (Qc (va_A wc sz)) mc ms (va_A wc sz) := by
  refine Met.ofW (cc := cc) (maxL := maxL) (ret := ret) hy hw ?_
  intro p e s m args below meth c s₁ B hml hv
  obtain ⟨rfl, hsz, hP, hK, hD0, hE⟩ := hv
  have hts := atoms_spec (ws := wds) B.pre
  have hown : s.vm.findClass y.cls = some m.cls := findClass_of_methodNamed B.named
  have hin : meth.name = y.name := (name_of_methodNamed B.named B.method).1
  subst hsz
  have hD := hD0.self (sz := s.heap.size)
  have hl := lv_entry av (n := maxL) hlen
  rw [lg_entry_eq]
  exact body p e s m _ below meth c (va_A wc s.heap.size) _ ⟨B.exec, B.bytes, hml, hown, hts⟩ B.returns B.notSynchronized hin hl ⟨hK, hP, hD, va_S.rf, fun q h => Or.inr h, hE⟩
theorem x_ini {S : Type} {post : Int32 → S → Prop} {w1 : S → va_W} (hy : plainName y.cls = true) (hw : wds = Cond.code y cc maxL (some .int) :: wds') (hlen : (lg_sl av).length ≤ maxL)
    (body : ∀ (p : Program) (e : Env) (s : State) (m : MethodId) (args : Array Value) (below : List Frame) (meth : Method) (c : Code) (A : Nat → Prop) (ls : Array Slot) (Q : State → Prop), CallFix p m c cc maxL s args wds y.cls → lv_has ls maxL (lv_args 0 av) → Hw D cl tys A s wc s.heap [] →
      (∀ (v : Int32) (u : S) (H : Heap) (locs : List Loc) (pc : Nat) (ls : Array Slot), post v u → Hw D cl tys A s (w1 u) H locs → decode cc pc = .ok (.ireturn, 1) → W p l e rm s m args below meth c H locs mc ms Q (F0 m pc ls [.int v])) →
      W p l e rm s m args below meth c s.heap [] 0 0 Q (F0 m 0 ls [])) :
    Cti l y wds rm D cl tys av wc post w1 mc ms := fun sz =>
  x_in (Qc := fun A => va_Qi post (fun u t => Wt D cl tys A (w1 u) t) A) sz hy hw hlen (fun p e s m args below meth c A ls F hr hlocks _ hl hh =>
    body p e s m args below meth c A ls _ F hl hh (fun v u H locs pc ls hp h hdg =>
      W.iret (v := v) F.1 F.2.1 hr (fun t ht hW => ⟨⟨v, u, rfl, hp, by rw [ht]; exact h.2.1, va_K.moved hW.alike h.1, h.2.2.1⟩, h.2.2.2.1.F ht⟩) h.2.2.2.1.2.2 hdg hlocks))
theorem x_inz {S : Type} {post : Int32 → S → Prop} {w1 : S → va_W} (hy : plainName y.cls = true) (hw : wds = Cond.code y cc maxL (some .boolean) :: wds') (hlen : (lg_sl av).length ≤ maxL)
    (body : ∀ (p : Program) (e : Env) (s : State) (m : MethodId) (args : Array Value) (below : List Frame) (meth : Method) (c : Code) (A : Nat → Prop) (ls : Array Slot) (Q : State → Prop), CallFix p m c cc maxL s args wds y.cls → lv_has ls maxL (lv_args 0 av) → Hw D cl tys A s wc s.heap [] →
      (∀ (v : Int32) (u : S) (H : Heap) (locs : List Loc) (pc : Nat) (ls : Array Slot), narrow .boolean (.int v) = .int v → post v u → Hw D cl tys A s (w1 u) H locs → decode cc pc = .ok (.ireturn, 1) → W p l e rm s m args below meth c H locs mc ms Q (F0 m pc ls [.int v])) →
      W p l e rm s m args below meth c s.heap [] 0 0 Q (F0 m 0 ls [])) :
    Cti l y wds rm D cl tys av wc post w1 mc ms := fun sz =>
  x_in (Qc := fun A => va_Qi post (fun u t => Wt D cl tys A (w1 u) t) A) sz hy hw hlen (fun p e s m args below meth c A ls F hr hlocks _ hl hh =>
    body p e s m args below meth c A ls _ F hl hh (fun v u H locs pc ls hn hp h hdg =>
      W.zret (v := v) F.1 F.2.1 hr hn (fun t ht hW => ⟨⟨v, u, rfl, hp, by rw [ht]; exact h.2.1, va_K.moved hW.alike h.1, h.2.2.1⟩, h.2.2.2.1.F ht⟩) h.2.2.2.1.2.2 hdg hlocks))
theorem x_inv {S : Type} {post : S → Prop} {w1 : S → va_W} (hy : plainName y.cls = true) (hw : wds = Cond.code y cc maxL none :: wds') (hlen : (lg_sl av).length ≤ maxL)
    (body : ∀ (p : Program) (e : Env) (s : State) (m : MethodId) (args : Array Value) (below : List Frame) (meth : Method) (c : Code) (A : Nat → Prop) (ls : Array Slot) (Q : State → Prop), CallFix p m c cc maxL s args wds y.cls → meth.name = y.name → lv_has ls maxL (lv_args 0 av) → Hw D cl tys A s wc s.heap [] →
      (∀ (u : S) (H : Heap) (locs : List Loc) (pc : Nat) (ls : Array Slot), post u → Hw D cl tys A s (w1 u) H locs → decode cc pc = .ok (.return_, 1) → W p l e rm s m args below meth c H locs mc ms Q (F0 m pc ls [])) →
      W p l e rm s m args below meth c s.heap [] 0 0 Q (F0 m 0 ls [])) :
    Ctv l y wds rm D cl tys av wc post w1 mc ms := fun sz =>
  x_in (Qc := fun A => va_Qv post (fun u t => Wt D cl tys A (w1 u) t) A) sz hy hw hlen (fun p e s m args below meth c A ls F hr hlocks hin hl hh =>
    body p e s m args below meth c A ls _ F hin hl hh (fun u H locs pc ls hp h hdg =>
      W.vret F.1 F.2.1 hr (fun t ht hW => ⟨⟨u, rfl, hp, by rw [ht]; exact h.2.1, va_K.moved hW.alike h.1, h.2.2.1⟩, h.2.2.2.1.F ht⟩) h.2.2.2.1.2.2 hdg hlocks))
end XE
section XC
variable {p : Program} {l : Launch} {e : Env} {R : Room} {s : State} {m : MethodId} {args : Array Value} {below : List Frame} {meth : Method} {c : Code} {H : Heap} {locs : List Loc} {cells slots : Nat} {Q : State → Prop}
variable {pc : Nat} {ls : Array Slot} {rest st0 : List Value} {cc : ByteArray} {nL : Nat} {Ts : List Cond} {own : String} {A : Nat → Prop} {D : va_G} {cl : List vw_C} {ws wc wr : va_W} {tys : List (ClassId × FieldType)} {a : Nat} {mc ms : Nat} {av : Array Value}
/-- behind a call: the rest, and what came back -/
theorem Hw.join {w1 : va_W} {H1 : Heap} {locs1 : List Loc} {t : State} (h : Hw D cl tys A s ws H locs) (isC isR : List Nat) (hC : isC.map (fun i => ws[i]?) = wc.map some) (hR : isR.map (fun i => ws[i]?) = wr.map some) (hn : va_nd isR = true) (hdis : ∀ i ∈ isR, i ∉ isC) (ht : t.heap = H1) (hB : Wt D cl tys (va_A wc H.size) w1 t) (hk : ∀ q : Nat, q < H.size → ¬ va_A wc H.size q → H1[q]? = H[q]?) (hS : va_S A s.heap H1 locs1) : Hw D cl tys A s (wr ++ w1) H1 locs1 := by
  obtain ⟨hP1, hK1, hD1⟩ := hB
  rw [ht] at hP1
  obtain ⟨hP, hD⟩ := va_join h.2.1 h.2.2.1 isC isR hC hR hn hdis hk (va_free h.2.2.1 h.2.2.2.1 h.2.2.2.2.1 isC hC) hP1 hD1
  exact ⟨h.1, hP, hD, hS, h.2.2.2.2⟩
theorem x_calli {S : Type} {post : Int32 → S → Prop} {w1 : S → va_W} (h : Hw D cl tys A s ws H locs) (isC isR : List Nat) (hC : isC.map (fun i => ws[i]?) = wc.map some) (hR : isR.map (fun i => ws[i]?) = wr.map some) (hn : va_nd isR = true) (hdis : ∀ i ∈ isR, i ∉ isC)
    (hr : va_Run p l e R s m args below meth c H locs cells slots mc ms (F0 m pc ls st0) rest (va_Qi post (fun u t => Wt D cl tys (va_A wc H.size) (w1 u) t) (va_A wc H.size) av) (va_A wc H.size))
    (kk : ∀ (r : Int32) (u : S) (H1 : Heap) (locs1 : List Loc), post r u → Hw D cl tys A s (wr ++ w1 u) H1 locs1 → W p l e R s m args below meth c H1 locs1 (cells + mc) (slots + ms) Q (F0 m (pc + 3) ls (.int r :: rest))) : W p l e R s m args below meth c H locs cells slots Q (F0 m pc ls st0) :=
  va_calli hr h.2.2.2.1 (fun q _ h9 => va_free h.2.2.1 h.2.2.2.1 h.2.2.2.2.1 isC hC q h9) (va_free h.2.2.1 h.2.2.2.1 h.2.2.2.2.1 isC hC) (fun r u t H1 locs1 ht _ hp hB _ hk hS => kk r u H1 locs1 hp (h.join isC isR hC hR hn hdis ht hB hk hS))
theorem x_callv {S : Type} {post : S → Prop} {w1 : S → va_W} (h : Hw D cl tys A s ws H locs) (isC isR : List Nat) (hC : isC.map (fun i => ws[i]?) = wc.map some) (hR : isR.map (fun i => ws[i]?) = wr.map some) (hn : va_nd isR = true) (hdis : ∀ i ∈ isR, i ∉ isC)
    (hr : va_Run p l e R s m args below meth c H locs cells slots mc ms (F0 m pc ls st0) rest (va_Qv post (fun u t => Wt D cl tys (va_A wc H.size) (w1 u) t) (va_A wc H.size) av) (va_A wc H.size))
    (kk : ∀ (u : S) (H1 : Heap) (locs1 : List Loc), post u → Hw D cl tys A s (wr ++ w1 u) H1 locs1 → W p l e R s m args below meth c H1 locs1 (cells + mc) (slots + ms) Q (F0 m (pc + 3) ls rest)) : W p l e R s m args below meth c H locs cells slots Q (F0 m pc ls st0) :=
  va_callv hr h.2.2.2.1 (fun q _ h9 => va_free h.2.2.1 h.2.2.2.1 h.2.2.2.2.1 isC hC q h9) (va_free h.2.2.1 h.2.2.2.1 h.2.2.2.2.1 isC hC) (fun u t H1 locs1 ht _ hp hB _ hk hS => kk u H1 locs1 hp (h.join isC isR hC hR hn hdis ht hB hk hS))
theorem x_callq {S : Type} {post : Option Nat → S → Prop} {w1 : S → va_W} (h : Hw D cl tys A s ws H locs) (isC isR : List Nat) (hC : isC.map (fun i => ws[i]?) = wc.map some) (hR : isR.map (fun i => ws[i]?) = wr.map some) (hn : va_nd isR = true) (hdis : ∀ i ∈ isR, i ∉ isC)
    (hr : va_Run p l e R s m args below meth c H locs cells slots mc ms (F0 m pc ls st0) rest (va_Qq post (fun u t => Wt D cl tys (va_A wc H.size) (w1 u) t) (va_A wc H.size) av) (va_A wc H.size))
    (kk : ∀ (r : Option Nat) (u : S) (H1 : Heap) (locs1 : List Loc), post r u → Hw D cl tys A s (wr ++ w1 u) H1 locs1 → W p l e R s m args below meth c H1 locs1 (cells + mc) (slots + ms) Q (F0 m (pc + 3) ls (va_rf r :: rest))) : W p l e R s m args below meth c H locs cells slots Q (F0 m pc ls st0) :=
  va_callq hr h.2.2.2.1 (fun q _ h9 => va_free h.2.2.1 h.2.2.2.1 h.2.2.2.2.1 isC hC q h9) (va_free h.2.2.1 h.2.2.2.1 h.2.2.2.2.1 isC hC) (fun r u t H1 locs1 ht _ hp hB _ hk hS => kk r u H1 locs1 hp (h.join isC isR hC hR hn hdis ht hB hk hS))
/-- a call's start -/
theorem Hw.preS {As : List Value} (h : Hw D cl tys A s ws H locs) (isC : List Nat) (hn : va_nd isC = true) (hC : isC.map (fun i => ws[i]?) = wc.map some) : PreS s H (va_Pc As (Pr D cl tys H.size wc)) As :=
  ⟨Pr.blind, fun U hU hW => ⟨rfl, (h.sub isC hn hC).pr U hU hW⟩⟩
theorem Hw.preV {As fs : List Value} {b q0 ci : Nat} {C : String} {T : u_T} {N : Nat} (h : Hw D cl tys A s ws H locs) (isC : List Nat) (hn : va_nd isC = true) (hC : isC.map (fun i => ws[i]?) = wc.map some) (he : ws[q0]? = some (b, .inr (ci, fs))) (hc : cl[ci]? = some (C, T, N)) : PreV s H C b (va_Pc (.ref b :: As) (Pr D cl tys H.size wc)) As :=
  ⟨Pr.blind, va_recv h.1 h.2.1 hc he, fun U hU hW => ⟨rfl, (h.sub isC hn hC).pr U hU hW⟩⟩
end XC
section XW
variable {p : Program} {s : State} {m : MethodId} {c : Code} {cc bytes : ByteArray} {nL maxL mc ms index : Nat} {args : Array Value} {Ts ws ws' : List Cond} {own C : String} {R rm : Room} {y : MethodName} {ret : Option FieldType}
theorem x_cw (n : Nat) (F : CallFix p m c cc nL s args Ts own) (hG : GoodIn Ts ws) (hw : ws = Cond.code y bytes maxL ret :: ws') (hrc : rm.cells = mc) (hrs : rm.slots = ms) (hini : (Cond.initialized y.cls).before args s = true) (hl : (Cond.methodLink own index y).before args s = true) (hi : (Cond.instanceMethod y).before args s = true) (hs : (Cond.selects C y y).before args s = true)
    (hd : y.cls ≠ "java/lang/invoke/MethodHandle" ∧ y.cls ≠ "java/lang/invoke/VarHandle" ∧ (parseMethodDescriptor y.desc).map (fun d => d.parameters.length) = some n) (hR : rm.frames + 1 ≤ R.frames ∧ 8 + (maxL + 11) + rm.locals ≤ R.locals) : CallW R s args own C index y bytes maxL ret ws rm mc ms n :=
  ⟨callB_of n F.2.2.2.2 hG hw hrc hrs hini hl hd hR, hi, hs⟩
theorem x_cwS (n : Nat) (F : CallFix p m c cc nL s args Ts own) (hG : GoodIn Ts ws) (hw : ws = Cond.code y bytes maxL ret :: ws') (hrc : rm.cells = mc) (hrs : rm.slots = ms) (hini : (Cond.initialized y.cls).before args s = true) (hl : (Cond.methodLink own index y).before args s = true) (hst : (Cond.static y).before args s = true)
    (hd : y.cls ≠ "java/lang/invoke/MethodHandle" ∧ y.cls ≠ "java/lang/invoke/VarHandle" ∧ (parseMethodDescriptor y.desc).map (fun d => d.parameters.length) = some n) (hR : rm.frames + 1 ≤ R.frames ∧ 8 + (maxL + 11) + rm.locals ≤ R.locals) : CallB R s args own index y bytes maxL ret ws rm mc ms n ∧ (Cond.static y).before args s = true :=
  ⟨callB_of n F.2.2.2.2 hG hw hrc hrs hini hl hd hR, hst⟩
end XW
end
section
theorem m_16 : (Cond.selects "MovingGuestModel" ⟨"MovingGuestModel", "runs", "(I)Z"⟩ ⟨"MovingGuestModel", "runs", "(I)Z"⟩) ∈ wAll := List.mem_of_getElem? (i := 16) (by decide +kernel)
theorem m_17 : (Cond.selects "MovingGuestModel" ⟨"MovingGuestModel", "instruct", "(I)Z"⟩ ⟨"MovingGuestModel", "instruct", "(I)Z"⟩) ∈ wAll := List.mem_of_getElem? (i := 17) (by decide +kernel)
theorem m_18 : (Cond.selects "MovingGuestModel" ⟨"MovingGuestModel", "written", "(III)V"⟩ ⟨"MovingGuestModel", "written", "(III)V"⟩) ∈ wAll := List.mem_of_getElem? (i := 18) (by decide +kernel)
theorem m_19 : (Cond.selects "MovingGuestModel" ⟨"MovingGuestModel", "taken", "(I)I"⟩ ⟨"MovingGuestModel", "taken", "(I)I"⟩) ∈ wAll := List.mem_of_getElem? (i := 19) (by decide +kernel)
theorem m_20 : (Cond.selects "MovingGuestModel" ⟨"MovingGuestModel", "order", "(I)V"⟩ ⟨"MovingGuestModel", "order", "(I)V"⟩) ∈ wAll := List.mem_of_getElem? (i := 20) (by decide +kernel)
theorem m_21 : (Cond.selects "MovingGuestModel" ⟨"MovingGuestModel", "tick", "(I)V"⟩ ⟨"MovingGuestModel", "tick", "(I)V"⟩) ∈ wAll := List.mem_of_getElem? (i := 21) (by decide +kernel)
theorem m_22 : (Cond.selects "MovingGuestModel" ⟨"MovingGuestModel", "unknown", "()I"⟩ ⟨"MovingGuestModel", "unknown", "()I"⟩) ∈ wAll := List.mem_of_getElem? (i := 22) (by decide +kernel)
theorem m_23 : (Cond.selects "MovingGuestModel" ⟨"MovingGuestModel", "due", "()I"⟩ ⟨"MovingGuestModel", "due", "()I"⟩) ∈ wAll := List.mem_of_getElem? (i := 23) (by decide +kernel)
theorem m_24 : (Cond.selects "MovingGuestModel" ⟨"MovingGuestModel", "sendPage", "(I)V"⟩ ⟨"MovingGuestModel", "sendPage", "(I)V"⟩) ∈ wAll := List.mem_of_getElem? (i := 24) (by decide +kernel)
theorem m_25 : (Cond.selects "MovingGuestModel" ⟨"MovingGuestModel", "come", "(IIII)I"⟩ ⟨"MovingGuestModel", "come", "(IIII)I"⟩) ∈ wAll := List.mem_of_getElem? (i := 25) (by decide +kernel)
theorem m_26 : (Cond.selects "MovingGuestModel" ⟨"MovingGuestModel", "isPiece", "(I)Z"⟩ ⟨"MovingGuestModel", "isPiece", "(I)Z"⟩) ∈ wAll := List.mem_of_getElem? (i := 26) (by decide +kernel)
theorem m_27 : (Cond.selects "MovingGuestModel" ⟨"MovingGuestModel", "leave", "(I)V"⟩ ⟨"MovingGuestModel", "leave", "(I)V"⟩) ∈ wAll := List.mem_of_getElem? (i := 27) (by decide +kernel)
theorem m_28 : (Cond.selects "MovingGuestModel" ⟨"MovingGuestModel", "copy", "(II)V"⟩ ⟨"MovingGuestModel", "copy", "(II)V"⟩) ∈ wAll := List.mem_of_getElem? (i := 28) (by decide +kernel)
theorem m_29 : (Cond.selects "MovingGuestModel" ⟨"MovingGuestModel", "arrive", "()V"⟩ ⟨"MovingGuestModel", "arrive", "()V"⟩) ∈ wAll := List.mem_of_getElem? (i := 29) (by decide +kernel)
theorem m_30 : (Cond.selects "MovingGuestModel" ⟨"MovingGuestModel", "pageArrives", "(III)V"⟩ ⟨"MovingGuestModel", "pageArrives", "(III)V"⟩) ∈ wAll := List.mem_of_getElem? (i := 30) (by decide +kernel)
theorem m_31 : (Cond.selects "MovingGuestModel" ⟨"MovingGuestModel", "stateArrives", "(I)V"⟩ ⟨"MovingGuestModel", "stateArrives", "(I)V"⟩) ∈ wAll := List.mem_of_getElem? (i := 31) (by decide +kernel)
theorem m_32 : (Cond.selects "MovingGuestModel" ⟨"MovingGuestModel", "handOver", "()V"⟩ ⟨"MovingGuestModel", "handOver", "()V"⟩) ∈ wAll := List.mem_of_getElem? (i := 32) (by decide +kernel)
theorem m_33 : (Cond.selects "MovingGuestModel" ⟨"MovingGuestModel", "end", "()V"⟩ ⟨"MovingGuestModel", "end", "()V"⟩) ∈ wAll := List.mem_of_getElem? (i := 33) (by decide +kernel)
theorem m_40 : (Cond.initialized "MovingGuestModel") ∈ wAll := List.mem_of_getElem? (i := 40) (by decide +kernel)
theorem m_523 : (Cond.fieldLink "MovingGuestModel" 7 "MovingGuestModel" "image" "[I") ∈ wAll := List.mem_of_getElem? (i := 523) (by decide +kernel)
theorem m_524 : (Cond.fieldLink "MovingGuestModel" 13 "MovingGuestModel" "memory" "[I") ∈ wAll := List.mem_of_getElem? (i := 524) (by decide +kernel)
theorem m_525 : (Cond.fieldLink "MovingGuestModel" 16 "MovingGuestModel" "rows" "[I") ∈ wAll := List.mem_of_getElem? (i := 525) (by decide +kernel)
theorem m_526 : (Cond.fieldLink "MovingGuestModel" 19 "MovingGuestModel" "up" "[Z") ∈ wAll := List.mem_of_getElem? (i := 526) (by decide +kernel)
theorem m_527 : (Cond.fieldLink "MovingGuestModel" 23 "MovingGuestModel" "holds" "[Z") ∈ wAll := List.mem_of_getElem? (i := 527) (by decide +kernel)
theorem m_528 : (Cond.fieldLink "MovingGuestModel" 72 "MovingGuestModel" "stopped" "Z") ∈ wAll := List.mem_of_getElem? (i := 528) (by decide +kernel)
theorem m_529 : (Cond.fieldLink "MovingGuestModel" 26 "MovingGuestModel" "disk" "[I") ∈ wAll := List.mem_of_getElem? (i := 529) (by decide +kernel)
theorem m_530 : (Cond.fieldLink "MovingGuestModel" 29 "MovingGuestModel" "owner" "I") ∈ wAll := List.mem_of_getElem? (i := 530) (by decide +kernel)
theorem m_531 : (Cond.fieldLink "MovingGuestModel" 83 "MovingGuestModel" "number" "I") ∈ wAll := List.mem_of_getElem? (i := 531) (by decide +kernel)
theorem m_532 : (Cond.fieldLink "MovingGuestModel" 33 "MovingGuestModel" "orders" "[Z") ∈ wAll := List.mem_of_getElem? (i := 532) (by decide +kernel)
theorem m_533 : (Cond.fieldLink "MovingGuestModel" 36 "MovingGuestModel" "orderBlock" "[I") ∈ wAll := List.mem_of_getElem? (i := 533) (by decide +kernel)
theorem m_534 : (Cond.fieldLink "MovingGuestModel" 39 "MovingGuestModel" "orderWord" "[I") ∈ wAll := List.mem_of_getElem? (i := 534) (by decide +kernel)
theorem m_535 : (Cond.fieldLink "MovingGuestModel" 42 "MovingGuestModel" "orderNumber" "[I") ∈ wAll := List.mem_of_getElem? (i := 535) (by decide +kernel)
theorem m_536 : (Cond.fieldLink "MovingGuestModel" 80 "MovingGuestModel" "going" "Z") ∈ wAll := List.mem_of_getElem? (i := 536) (by decide +kernel)
theorem m_537 : (Cond.fieldLink "MovingGuestModel" 116 "MovingGuestModel" "latest" "I") ∈ wAll := List.mem_of_getElem? (i := 537) (by decide +kernel)
theorem m_538 : (Cond.fieldLink "MovingGuestModel" 86 "MovingGuestModel" "source" "I") ∈ wAll := List.mem_of_getElem? (i := 538) (by decide +kernel)
theorem m_539 : (Cond.fieldLink "MovingGuestModel" 45 "MovingGuestModel" "pages" "[I") ∈ wAll := List.mem_of_getElem? (i := 539) (by decide +kernel)
theorem m_540 : (Cond.fieldLink "MovingGuestModel" 119 "MovingGuestModel" "serial" "I") ∈ wAll := List.mem_of_getElem? (i := 540) (by decide +kernel)
theorem m_541 : (Cond.fieldLink "MovingGuestModel" 122 "MovingGuestModel" "lastSent" "I") ∈ wAll := List.mem_of_getElem? (i := 541) (by decide +kernel)
theorem m_542 : (Cond.fieldLink "MovingGuestModel" 125 "MovingGuestModel" "steps" "I") ∈ wAll := List.mem_of_getElem? (i := 542) (by decide +kernel)
theorem m_543 : (Cond.fieldLink "MovingGuestModel" 110 "MovingGuestModel" "takesPart" "Z") ∈ wAll := List.mem_of_getElem? (i := 543) (by decide +kernel)
theorem m_544 : (Cond.fieldLink "MovingGuestModel" 113 "MovingGuestModel" "ready" "Z") ∈ wAll := List.mem_of_getElem? (i := 544) (by decide +kernel)
theorem m_545 : (Cond.fieldLink "MovingGuestModel" 48 "MovingGuestModel" "targetMemory" "[I") ∈ wAll := List.mem_of_getElem? (i := 545) (by decide +kernel)
theorem m_546 : (Cond.fieldLink "MovingGuestModel" 51 "MovingGuestModel" "targetSerials" "[I") ∈ wAll := List.mem_of_getElem? (i := 546) (by decide +kernel)
theorem m_547 : (Cond.fieldLink "MovingGuestModel" 54 "MovingGuestModel" "targetRow" "[I") ∈ wAll := List.mem_of_getElem? (i := 547) (by decide +kernel)
theorem m_548 : (Cond.fieldLink "MovingGuestModel" 128 "MovingGuestModel" "pieces" "I") ∈ wAll := List.mem_of_getElem? (i := 548) (by decide +kernel)
theorem m_549 : (Cond.fieldLink "MovingGuestModel" 57 "MovingGuestModel" "kinds" "[I") ∈ wAll := List.mem_of_getElem? (i := 549) (by decide +kernel)
theorem m_550 : (Cond.fieldLink "MovingGuestModel" 60 "MovingGuestModel" "moves" "[I") ∈ wAll := List.mem_of_getElem? (i := 550) (by decide +kernel)
theorem m_551 : (Cond.fieldLink "MovingGuestModel" 63 "MovingGuestModel" "pagesOf" "[I") ∈ wAll := List.mem_of_getElem? (i := 551) (by decide +kernel)
theorem m_552 : (Cond.fieldLink "MovingGuestModel" 66 "MovingGuestModel" "serials" "[I") ∈ wAll := List.mem_of_getElem? (i := 552) (by decide +kernel)
theorem m_553 : (Cond.fieldLink "MovingGuestModel" 69 "MovingGuestModel" "loads" "[I") ∈ wAll := List.mem_of_getElem? (i := 553) (by decide +kernel)
theorem m_626 : (Cond.methodLink "MovingGuestModel" 76 ⟨"MovingGuestModel", "isHost", "(I)Z"⟩) ∈ wAll := List.mem_of_getElem? (i := 626) (by decide +kernel)
theorem m_627 : (Cond.static ⟨"MovingGuestModel", "isHost", "(I)Z"⟩) ∈ wAll := List.mem_of_getElem? (i := 627) (by decide +kernel)
theorem m_628 : (Cond.code ⟨"MovingGuestModel", "isHost", "(I)Z"⟩ prog_8_method_2_code 1 (some .boolean)) ∈ wAll := List.mem_of_getElem? (i := 628) (by decide +kernel)
theorem m_633 : (Cond.methodLink "MovingGuestModel" 104 ⟨"MovingGuestModel", "runs", "(I)Z"⟩) ∈ wAll := List.mem_of_getElem? (i := 633) (by decide +kernel)
theorem m_634 : (Cond.instanceMethod ⟨"MovingGuestModel", "runs", "(I)Z"⟩) ∈ wAll := List.mem_of_getElem? (i := 634) (by decide +kernel)
theorem m_635 : (Cond.code ⟨"MovingGuestModel", "runs", "(I)Z"⟩ prog_8_method_3_code 2 (some .boolean)) ∈ wAll := List.mem_of_getElem? (i := 635) (by decide +kernel)
theorem m_636 : (Cond.methodLink "MovingGuestModel" 107 ⟨"MovingGuestModel", "instruct", "(I)Z"⟩) ∈ wAll := List.mem_of_getElem? (i := 636) (by decide +kernel)
theorem m_637 : (Cond.instanceMethod ⟨"MovingGuestModel", "instruct", "(I)Z"⟩) ∈ wAll := List.mem_of_getElem? (i := 637) (by decide +kernel)
theorem m_638 : (Cond.code ⟨"MovingGuestModel", "instruct", "(I)Z"⟩ prog_8_method_9_code 10 (some .boolean)) ∈ wAll := List.mem_of_getElem? (i := 638) (by decide +kernel)
theorem m_639 : (Cond.methodLink "MovingGuestModel" 89 ⟨"MovingGuestModel", "written", "(III)V"⟩) ∈ wAll := List.mem_of_getElem? (i := 639) (by decide +kernel)
theorem m_640 : (Cond.instanceMethod ⟨"MovingGuestModel", "written", "(III)V"⟩) ∈ wAll := List.mem_of_getElem? (i := 640) (by decide +kernel)
theorem m_641 : (Cond.code ⟨"MovingGuestModel", "written", "(III)V"⟩ prog_8_method_8_code 4 none) ∈ wAll := List.mem_of_getElem? (i := 641) (by decide +kernel)
theorem m_642 : (Cond.methodLink "MovingGuestModel" 93 ⟨"MovingGuestModel", "taken", "(I)I"⟩) ∈ wAll := List.mem_of_getElem? (i := 642) (by decide +kernel)
theorem m_643 : (Cond.instanceMethod ⟨"MovingGuestModel", "taken", "(I)I"⟩) ∈ wAll := List.mem_of_getElem? (i := 643) (by decide +kernel)
theorem m_644 : (Cond.code ⟨"MovingGuestModel", "taken", "(I)I"⟩ prog_8_method_7_code 4 (some .int)) ∈ wAll := List.mem_of_getElem? (i := 644) (by decide +kernel)
theorem m_645 : (Cond.methodLink "MovingGuestModel" 97 ⟨"MovingGuestModel", "order", "(I)V"⟩) ∈ wAll := List.mem_of_getElem? (i := 645) (by decide +kernel)
theorem m_646 : (Cond.instanceMethod ⟨"MovingGuestModel", "order", "(I)V"⟩) ∈ wAll := List.mem_of_getElem? (i := 646) (by decide +kernel)
theorem m_647 : (Cond.code ⟨"MovingGuestModel", "order", "(I)V"⟩ prog_8_method_6_code 2 none) ∈ wAll := List.mem_of_getElem? (i := 647) (by decide +kernel)
theorem m_648 : (Cond.methodLink "MovingGuestModel" 101 ⟨"MovingGuestModel", "tick", "(I)V"⟩) ∈ wAll := List.mem_of_getElem? (i := 648) (by decide +kernel)
theorem m_649 : (Cond.instanceMethod ⟨"MovingGuestModel", "tick", "(I)V"⟩) ∈ wAll := List.mem_of_getElem? (i := 649) (by decide +kernel)
theorem m_650 : (Cond.code ⟨"MovingGuestModel", "tick", "(I)V"⟩ prog_8_method_10_code 2 none) ∈ wAll := List.mem_of_getElem? (i := 650) (by decide +kernel)
theorem m_667 : (Cond.methodLink "MovingGuestModel" 135 ⟨"MovingGuestModel", "unknown", "()I"⟩) ∈ wAll := List.mem_of_getElem? (i := 667) (by decide +kernel)
theorem m_668 : (Cond.instanceMethod ⟨"MovingGuestModel", "unknown", "()I"⟩) ∈ wAll := List.mem_of_getElem? (i := 668) (by decide +kernel)
theorem m_669 : (Cond.code ⟨"MovingGuestModel", "unknown", "()I"⟩ prog_8_method_16_code 3 (some .int)) ∈ wAll := List.mem_of_getElem? (i := 669) (by decide +kernel)
theorem m_670 : (Cond.methodLink "MovingGuestModel" 139 ⟨"MovingGuestModel", "due", "()I"⟩) ∈ wAll := List.mem_of_getElem? (i := 670) (by decide +kernel)
theorem m_671 : (Cond.instanceMethod ⟨"MovingGuestModel", "due", "()I"⟩) ∈ wAll := List.mem_of_getElem? (i := 671) (by decide +kernel)
theorem m_672 : (Cond.code ⟨"MovingGuestModel", "due", "()I"⟩ prog_8_method_17_code 2 (some .int)) ∈ wAll := List.mem_of_getElem? (i := 672) (by decide +kernel)
theorem m_673 : (Cond.methodLink "MovingGuestModel" 142 ⟨"MovingGuestModel", "sendPage", "(I)V"⟩) ∈ wAll := List.mem_of_getElem? (i := 673) (by decide +kernel)
theorem m_674 : (Cond.instanceMethod ⟨"MovingGuestModel", "sendPage", "(I)V"⟩) ∈ wAll := List.mem_of_getElem? (i := 674) (by decide +kernel)
theorem m_675 : (Cond.code ⟨"MovingGuestModel", "sendPage", "(I)V"⟩ prog_8_method_19_code 4 none) ∈ wAll := List.mem_of_getElem? (i := 675) (by decide +kernel)
theorem m_676 : (Cond.methodLink "MovingGuestModel" 131 ⟨"MovingGuestModel", "come", "(IIII)I"⟩) ∈ wAll := List.mem_of_getElem? (i := 676) (by decide +kernel)
theorem m_677 : (Cond.instanceMethod ⟨"MovingGuestModel", "come", "(IIII)I"⟩) ∈ wAll := List.mem_of_getElem? (i := 677) (by decide +kernel)
theorem m_678 : (Cond.code ⟨"MovingGuestModel", "come", "(IIII)I"⟩ prog_8_method_18_code 6 (some .int)) ∈ wAll := List.mem_of_getElem? (i := 678) (by decide +kernel)
theorem m_683 : (Cond.methodLink "MovingGuestModel" 161 ⟨"MovingGuestModel", "isPiece", "(I)Z"⟩) ∈ wAll := List.mem_of_getElem? (i := 683) (by decide +kernel)
theorem m_684 : (Cond.instanceMethod ⟨"MovingGuestModel", "isPiece", "(I)Z"⟩) ∈ wAll := List.mem_of_getElem? (i := 684) (by decide +kernel)
theorem m_685 : (Cond.code ⟨"MovingGuestModel", "isPiece", "(I)Z"⟩ prog_8_method_22_code 2 (some .boolean)) ∈ wAll := List.mem_of_getElem? (i := 685) (by decide +kernel)
theorem m_686 : (Cond.methodLink "MovingGuestModel" 164 ⟨"MovingGuestModel", "leave", "(I)V"⟩) ∈ wAll := List.mem_of_getElem? (i := 686) (by decide +kernel)
theorem m_687 : (Cond.instanceMethod ⟨"MovingGuestModel", "leave", "(I)V"⟩) ∈ wAll := List.mem_of_getElem? (i := 687) (by decide +kernel)
theorem m_688 : (Cond.code ⟨"MovingGuestModel", "leave", "(I)V"⟩ prog_8_method_24_code 3 none) ∈ wAll := List.mem_of_getElem? (i := 688) (by decide +kernel)
theorem m_689 : (Cond.methodLink "MovingGuestModel" 148 ⟨"MovingGuestModel", "copy", "(II)V"⟩) ∈ wAll := List.mem_of_getElem? (i := 689) (by decide +kernel)
theorem m_690 : (Cond.instanceMethod ⟨"MovingGuestModel", "copy", "(II)V"⟩) ∈ wAll := List.mem_of_getElem? (i := 690) (by decide +kernel)
theorem m_691 : (Cond.code ⟨"MovingGuestModel", "copy", "(II)V"⟩ prog_8_method_23_code 4 none) ∈ wAll := List.mem_of_getElem? (i := 691) (by decide +kernel)
theorem m_692 : (Cond.methodLink "MovingGuestModel" 167 ⟨"MovingGuestModel", "arrive", "()V"⟩) ∈ wAll := List.mem_of_getElem? (i := 692) (by decide +kernel)
theorem m_693 : (Cond.instanceMethod ⟨"MovingGuestModel", "arrive", "()V"⟩) ∈ wAll := List.mem_of_getElem? (i := 693) (by decide +kernel)
theorem m_694 : (Cond.code ⟨"MovingGuestModel", "arrive", "()V"⟩ prog_8_method_27_code 4 none) ∈ wAll := List.mem_of_getElem? (i := 694) (by decide +kernel)
theorem m_695 : (Cond.methodLink "MovingGuestModel" 152 ⟨"MovingGuestModel", "pageArrives", "(III)V"⟩) ∈ wAll := List.mem_of_getElem? (i := 695) (by decide +kernel)
theorem m_696 : (Cond.instanceMethod ⟨"MovingGuestModel", "pageArrives", "(III)V"⟩) ∈ wAll := List.mem_of_getElem? (i := 696) (by decide +kernel)
theorem m_697 : (Cond.code ⟨"MovingGuestModel", "pageArrives", "(III)V"⟩ prog_8_method_25_code 5 none) ∈ wAll := List.mem_of_getElem? (i := 697) (by decide +kernel)
theorem m_698 : (Cond.methodLink "MovingGuestModel" 155 ⟨"MovingGuestModel", "stateArrives", "(I)V"⟩) ∈ wAll := List.mem_of_getElem? (i := 698) (by decide +kernel)
theorem m_699 : (Cond.instanceMethod ⟨"MovingGuestModel", "stateArrives", "(I)V"⟩) ∈ wAll := List.mem_of_getElem? (i := 699) (by decide +kernel)
theorem m_700 : (Cond.code ⟨"MovingGuestModel", "stateArrives", "(I)V"⟩ prog_8_method_26_code 3 none) ∈ wAll := List.mem_of_getElem? (i := 700) (by decide +kernel)
theorem m_701 : (Cond.methodLink "MovingGuestModel" 158 ⟨"MovingGuestModel", "handOver", "()V"⟩) ∈ wAll := List.mem_of_getElem? (i := 701) (by decide +kernel)
theorem m_702 : (Cond.instanceMethod ⟨"MovingGuestModel", "handOver", "()V"⟩) ∈ wAll := List.mem_of_getElem? (i := 702) (by decide +kernel)
theorem m_703 : (Cond.code ⟨"MovingGuestModel", "handOver", "()V"⟩ prog_8_method_21_code 3 none) ∈ wAll := List.mem_of_getElem? (i := 703) (by decide +kernel)
theorem m_704 : (Cond.methodLink "MovingGuestModel" 145 ⟨"MovingGuestModel", "end", "()V"⟩) ∈ wAll := List.mem_of_getElem? (i := 704) (by decide +kernel)
theorem m_705 : (Cond.instanceMethod ⟨"MovingGuestModel", "end", "()V"⟩) ∈ wAll := List.mem_of_getElem? (i := 705) (by decide +kernel)
theorem m_706 : (Cond.code ⟨"MovingGuestModel", "end", "()V"⟩ prog_8_method_14_code 1 none) ∈ wAll := List.mem_of_getElem? (i := 706) (by decide +kernel)
end
section
theorem d_M_isHost_0 : decode b_M_isHost 0 = .ok (.iload_n 0, 1) := by decide +kernel
theorem d_M_isHost_1 : decode b_M_isHost 1 = .ok (.ifCond .eq 8, 3) := by decide +kernel
theorem d_M_isHost_4 : decode b_M_isHost 4 = .ok (.iload_n 0, 1) := by decide +kernel
theorem d_M_isHost_5 : decode b_M_isHost 5 = .ok (.iconst 1, 1) := by decide +kernel
theorem d_M_isHost_6 : decode b_M_isHost 6 = .ok (.if_icmp .ne 7, 3) := by decide +kernel
theorem d_M_isHost_9 : decode b_M_isHost 9 = .ok (.iconst 1, 1) := by decide +kernel
theorem d_M_isHost_10 : decode b_M_isHost 10 = .ok (.goto 4, 3) := by decide +kernel
theorem d_M_isHost_13 : decode b_M_isHost 13 = .ok (.iconst 0, 1) := by decide +kernel
theorem d_M_isHost_14 : decode b_M_isHost 14 = .ok (.ireturn, 1) := by decide +kernel
theorem d_M_runs_0 : decode b_M_runs 0 = .ok (.aload_n 0, 1) := by decide +kernel
theorem d_M_runs_1 : decode b_M_runs 1 = .ok (.getfield 19, 3) := by decide +kernel
theorem d_M_runs_4 : decode b_M_runs 4 = .ok (.iload_n 1, 1) := by decide +kernel
theorem d_M_runs_5 : decode b_M_runs 5 = .ok (.baload, 1) := by decide +kernel
theorem d_M_runs_6 : decode b_M_runs 6 = .ok (.ifCond .eq 31, 3) := by decide +kernel
theorem d_M_runs_9 : decode b_M_runs 9 = .ok (.aload_n 0, 1) := by decide +kernel
theorem d_M_runs_10 : decode b_M_runs 10 = .ok (.getfield 23, 3) := by decide +kernel
theorem d_M_runs_13 : decode b_M_runs 13 = .ok (.iload_n 1, 1) := by decide +kernel
theorem d_M_runs_14 : decode b_M_runs 14 = .ok (.baload, 1) := by decide +kernel
theorem d_M_runs_15 : decode b_M_runs 15 = .ok (.ifCond .eq 22, 3) := by decide +kernel
theorem d_M_runs_18 : decode b_M_runs 18 = .ok (.aload_n 0, 1) := by decide +kernel
theorem d_M_runs_19 : decode b_M_runs 19 = .ok (.getfield 29, 3) := by decide +kernel
theorem d_M_runs_22 : decode b_M_runs 22 = .ok (.iload_n 1, 1) := by decide +kernel
theorem d_M_runs_23 : decode b_M_runs 23 = .ok (.if_icmp .ne 14, 3) := by decide +kernel
theorem d_M_runs_26 : decode b_M_runs 26 = .ok (.aload_n 0, 1) := by decide +kernel
theorem d_M_runs_27 : decode b_M_runs 27 = .ok (.getfield 72, 3) := by decide +kernel
theorem d_M_runs_30 : decode b_M_runs 30 = .ok (.ifCond .ne 7, 3) := by decide +kernel
theorem d_M_runs_33 : decode b_M_runs 33 = .ok (.iconst 1, 1) := by decide +kernel
theorem d_M_runs_34 : decode b_M_runs 34 = .ok (.goto 4, 3) := by decide +kernel
theorem d_M_runs_37 : decode b_M_runs 37 = .ok (.iconst 0, 1) := by decide +kernel
theorem d_M_runs_38 : decode b_M_runs 38 = .ok (.ireturn, 1) := by decide +kernel
theorem d_M_image_0 : decode b_M_image 0 = .ok (.iload_n 1, 1) := by decide +kernel
theorem d_M_image_1 : decode b_M_image 1 = .ok (.ifCond .lt 9, 3) := by decide +kernel
theorem d_M_image_4 : decode b_M_image 4 = .ok (.iload_n 1, 1) := by decide +kernel
theorem d_M_image_5 : decode b_M_image 5 = .ok (.bipush 63, 2) := by decide +kernel
theorem d_M_image_7 : decode b_M_image 7 = .ok (.if_icmp .le 5, 3) := by decide +kernel
theorem d_M_image_10 : decode b_M_image 10 = .ok (.iconst 0, 1) := by decide +kernel
theorem d_M_image_11 : decode b_M_image 11 = .ok (.ireturn, 1) := by decide +kernel
theorem d_M_image_12 : decode b_M_image 12 = .ok (.aload_n 0, 1) := by decide +kernel
theorem d_M_image_13 : decode b_M_image 13 = .ok (.getfield 7, 3) := by decide +kernel
theorem d_M_image_16 : decode b_M_image 16 = .ok (.iload_n 1, 1) := by decide +kernel
theorem d_M_image_17 : decode b_M_image 17 = .ok (.iload_n 2, 1) := by decide +kernel
theorem d_M_image_18 : decode b_M_image 18 = .ok (.iastore, 1) := by decide +kernel
theorem d_M_image_19 : decode b_M_image 19 = .ok (.iconst 1, 1) := by decide +kernel
theorem d_M_image_20 : decode b_M_image 20 = .ok (.ireturn, 1) := by decide +kernel
theorem d_M_order_0 : decode b_M_order 0 = .ok (.aload_n 0, 1) := by decide +kernel
theorem d_M_order_1 : decode b_M_order 1 = .ok (.getfield 33, 3) := by decide +kernel
theorem d_M_order_4 : decode b_M_order 4 = .ok (.iload_n 1, 1) := by decide +kernel
theorem d_M_order_5 : decode b_M_order 5 = .ok (.iconst 1, 1) := by decide +kernel
theorem d_M_order_6 : decode b_M_order 6 = .ok (.bastore, 1) := by decide +kernel
theorem d_M_order_7 : decode b_M_order 7 = .ok (.aload_n 0, 1) := by decide +kernel
theorem d_M_order_8 : decode b_M_order 8 = .ok (.getfield 36, 3) := by decide +kernel
theorem d_M_order_11 : decode b_M_order 11 = .ok (.iload_n 1, 1) := by decide +kernel
theorem d_M_order_12 : decode b_M_order 12 = .ok (.aload_n 0, 1) := by decide +kernel
theorem d_M_order_13 : decode b_M_order 13 = .ok (.getfield 16, 3) := by decide +kernel
theorem d_M_order_16 : decode b_M_order 16 = .ok (.bipush 60, 2) := by decide +kernel
theorem d_M_order_18 : decode b_M_order 18 = .ok (.iload_n 1, 1) := by decide +kernel
theorem d_M_order_19 : decode b_M_order 19 = .ok (.imul, 1) := by decide +kernel
theorem d_M_order_20 : decode b_M_order 20 = .ok (.bipush 57, 2) := by decide +kernel
theorem d_M_order_22 : decode b_M_order 22 = .ok (.iadd, 1) := by decide +kernel
theorem d_M_order_23 : decode b_M_order 23 = .ok (.iaload, 1) := by decide +kernel
theorem d_M_order_24 : decode b_M_order 24 = .ok (.iastore, 1) := by decide +kernel
theorem d_M_order_25 : decode b_M_order 25 = .ok (.aload_n 0, 1) := by decide +kernel
theorem d_M_order_26 : decode b_M_order 26 = .ok (.getfield 39, 3) := by decide +kernel
theorem d_M_order_29 : decode b_M_order 29 = .ok (.iload_n 1, 1) := by decide +kernel
theorem d_M_order_30 : decode b_M_order 30 = .ok (.aload_n 0, 1) := by decide +kernel
theorem d_M_order_31 : decode b_M_order 31 = .ok (.getfield 16, 3) := by decide +kernel
theorem d_M_order_34 : decode b_M_order 34 = .ok (.bipush 60, 2) := by decide +kernel
theorem d_M_order_36 : decode b_M_order 36 = .ok (.iload_n 1, 1) := by decide +kernel
theorem d_M_order_37 : decode b_M_order 37 = .ok (.imul, 1) := by decide +kernel
theorem d_M_order_38 : decode b_M_order 38 = .ok (.bipush 58, 2) := by decide +kernel
theorem d_M_order_40 : decode b_M_order 40 = .ok (.iadd, 1) := by decide +kernel
theorem d_M_order_41 : decode b_M_order 41 = .ok (.iaload, 1) := by decide +kernel
theorem d_M_order_42 : decode b_M_order 42 = .ok (.iastore, 1) := by decide +kernel
theorem d_M_order_43 : decode b_M_order 43 = .ok (.aload_n 0, 1) := by decide +kernel
theorem d_M_order_44 : decode b_M_order 44 = .ok (.getfield 42, 3) := by decide +kernel
theorem d_M_order_47 : decode b_M_order 47 = .ok (.iload_n 1, 1) := by decide +kernel
theorem d_M_order_48 : decode b_M_order 48 = .ok (.aload_n 0, 1) := by decide +kernel
theorem d_M_order_49 : decode b_M_order 49 = .ok (.getfield 83, 3) := by decide +kernel
theorem d_M_order_52 : decode b_M_order 52 = .ok (.iastore, 1) := by decide +kernel
theorem d_M_order_53 : decode b_M_order 53 = .ok (.return_, 1) := by decide +kernel
theorem d_M_tick_0 : decode b_M_tick 0 = .ok (.aload_n 0, 1) := by decide +kernel
theorem d_M_tick_1 : decode b_M_tick 1 = .ok (.getfield 16, 3) := by decide +kernel
theorem d_M_tick_4 : decode b_M_tick 4 = .ok (.iload_n 1, 1) := by decide +kernel
theorem d_M_tick_5 : decode b_M_tick 5 = .ok (.iconst 5, 1) := by decide +kernel
theorem d_M_tick_6 : decode b_M_tick 6 = .ok (.iadd, 1) := by decide +kernel
theorem d_M_tick_7 : decode b_M_tick 7 = .ok (.iaload, 1) := by decide +kernel
theorem d_M_tick_8 : decode b_M_tick 8 = .ok (.ifCond .ne 4, 3) := by decide +kernel
theorem d_M_tick_11 : decode b_M_tick 11 = .ok (.return_, 1) := by decide +kernel
theorem d_M_tick_12 : decode b_M_tick 12 = .ok (.aload_n 0, 1) := by decide +kernel
theorem d_M_tick_13 : decode b_M_tick 13 = .ok (.getfield 16, 3) := by decide +kernel
theorem d_M_tick_16 : decode b_M_tick 16 = .ok (.iload_n 1, 1) := by decide +kernel
theorem d_M_tick_17 : decode b_M_tick 17 = .ok (.iconst 5, 1) := by decide +kernel
theorem d_M_tick_18 : decode b_M_tick 18 = .ok (.iadd, 1) := by decide +kernel
theorem d_M_tick_19 : decode b_M_tick 19 = .ok (.dup2, 1) := by decide +kernel
theorem d_M_tick_20 : decode b_M_tick 20 = .ok (.iaload, 1) := by decide +kernel
theorem d_M_tick_21 : decode b_M_tick 21 = .ok (.iconst 1, 1) := by decide +kernel
theorem d_M_tick_22 : decode b_M_tick 22 = .ok (.isub, 1) := by decide +kernel
theorem d_M_tick_23 : decode b_M_tick 23 = .ok (.iastore, 1) := by decide +kernel
theorem d_M_tick_24 : decode b_M_tick 24 = .ok (.aload_n 0, 1) := by decide +kernel
theorem d_M_tick_25 : decode b_M_tick 25 = .ok (.getfield 16, 3) := by decide +kernel
theorem d_M_tick_28 : decode b_M_tick 28 = .ok (.iload_n 1, 1) := by decide +kernel
theorem d_M_tick_29 : decode b_M_tick 29 = .ok (.iconst 5, 1) := by decide +kernel
theorem d_M_tick_30 : decode b_M_tick 30 = .ok (.iadd, 1) := by decide +kernel
theorem d_M_tick_31 : decode b_M_tick 31 = .ok (.iaload, 1) := by decide +kernel
theorem d_M_tick_32 : decode b_M_tick 32 = .ok (.ifCond .le 4, 3) := by decide +kernel
theorem d_M_tick_35 : decode b_M_tick 35 = .ok (.return_, 1) := by decide +kernel
theorem d_M_tick_36 : decode b_M_tick 36 = .ok (.aload_n 0, 1) := by decide +kernel
theorem d_M_tick_37 : decode b_M_tick 37 = .ok (.getfield 16, 3) := by decide +kernel
theorem d_M_tick_40 : decode b_M_tick 40 = .ok (.iload_n 1, 1) := by decide +kernel
theorem d_M_tick_41 : decode b_M_tick 41 = .ok (.iconst 3, 1) := by decide +kernel
theorem d_M_tick_42 : decode b_M_tick 42 = .ok (.iadd, 1) := by decide +kernel
theorem d_M_tick_43 : decode b_M_tick 43 = .ok (.aload_n 0, 1) := by decide +kernel
theorem d_M_tick_44 : decode b_M_tick 44 = .ok (.getfield 16, 3) := by decide +kernel
theorem d_M_tick_47 : decode b_M_tick 47 = .ok (.iload_n 1, 1) := by decide +kernel
theorem d_M_tick_48 : decode b_M_tick 48 = .ok (.iconst 4, 1) := by decide +kernel
theorem d_M_tick_49 : decode b_M_tick 49 = .ok (.iadd, 1) := by decide +kernel
theorem d_M_tick_50 : decode b_M_tick 50 = .ok (.iaload, 1) := by decide +kernel
theorem d_M_tick_51 : decode b_M_tick 51 = .ok (.iastore, 1) := by decide +kernel
theorem d_M_tick_52 : decode b_M_tick 52 = .ok (.aload_n 0, 1) := by decide +kernel
theorem d_M_tick_53 : decode b_M_tick 53 = .ok (.getfield 16, 3) := by decide +kernel
theorem d_M_tick_56 : decode b_M_tick 56 = .ok (.iload_n 1, 1) := by decide +kernel
theorem d_M_tick_57 : decode b_M_tick 57 = .ok (.iconst 4, 1) := by decide +kernel
theorem d_M_tick_58 : decode b_M_tick 58 = .ok (.iadd, 1) := by decide +kernel
theorem d_M_tick_59 : decode b_M_tick 59 = .ok (.bipush 56, 2) := by decide +kernel
theorem d_M_tick_61 : decode b_M_tick 61 = .ok (.iastore, 1) := by decide +kernel
theorem d_M_tick_62 : decode b_M_tick 62 = .ok (.return_, 1) := by decide +kernel
theorem d_M_end_0 : decode b_M_end 0 = .ok (.aload_n 0, 1) := by decide +kernel
theorem d_M_end_1 : decode b_M_end 1 = .ok (.iconst 0, 1) := by decide +kernel
theorem d_M_end_2 : decode b_M_end 2 = .ok (.putfield 80, 3) := by decide +kernel
theorem d_M_end_5 : decode b_M_end 5 = .ok (.aload_n 0, 1) := by decide +kernel
theorem d_M_end_6 : decode b_M_end 6 = .ok (.iconst 0, 1) := by decide +kernel
theorem d_M_end_7 : decode b_M_end 7 = .ok (.putfield 110, 3) := by decide +kernel
theorem d_M_end_10 : decode b_M_end 10 = .ok (.aload_n 0, 1) := by decide +kernel
theorem d_M_end_11 : decode b_M_end 11 = .ok (.iconst 0, 1) := by decide +kernel
theorem d_M_end_12 : decode b_M_end 12 = .ok (.putfield 113, 3) := by decide +kernel
theorem d_M_end_15 : decode b_M_end 15 = .ok (.aload_n 0, 1) := by decide +kernel
theorem d_M_end_16 : decode b_M_end 16 = .ok (.iconst 0, 1) := by decide +kernel
theorem d_M_end_17 : decode b_M_end 17 = .ok (.putfield 72, 3) := by decide +kernel
theorem d_M_end_20 : decode b_M_end 20 = .ok (.return_, 1) := by decide +kernel
theorem d_M_written_0 : decode b_M_written 0 = .ok (.aload_n 0, 1) := by decide +kernel
theorem d_M_written_1 : decode b_M_written 1 = .ok (.getfield 13, 3) := by decide +kernel
theorem d_M_written_4 : decode b_M_written 4 = .ok (.bipush 64, 2) := by decide +kernel
theorem d_M_written_6 : decode b_M_written 6 = .ok (.iload_n 1, 1) := by decide +kernel
theorem d_M_written_7 : decode b_M_written 7 = .ok (.imul, 1) := by decide +kernel
theorem d_M_written_8 : decode b_M_written 8 = .ok (.iload_n 2, 1) := by decide +kernel
theorem d_M_written_9 : decode b_M_written 9 = .ok (.iadd, 1) := by decide +kernel
theorem d_M_written_10 : decode b_M_written 10 = .ok (.iload_n 3, 1) := by decide +kernel
theorem d_M_written_11 : decode b_M_written 11 = .ok (.iastore, 1) := by decide +kernel
theorem d_M_written_12 : decode b_M_written 12 = .ok (.aload_n 0, 1) := by decide +kernel
theorem d_M_written_13 : decode b_M_written 13 = .ok (.getfield 80, 3) := by decide +kernel
theorem d_M_written_16 : decode b_M_written 16 = .ok (.ifCond .eq 21, 3) := by decide +kernel
theorem d_M_written_19 : decode b_M_written 19 = .ok (.aload_n 0, 1) := by decide +kernel
theorem d_M_written_20 : decode b_M_written 20 = .ok (.getfield 86, 3) := by decide +kernel
theorem d_M_written_23 : decode b_M_written 23 = .ok (.iload_n 1, 1) := by decide +kernel
theorem d_M_written_24 : decode b_M_written 24 = .ok (.if_icmp .ne 13, 3) := by decide +kernel
theorem d_M_written_27 : decode b_M_written 27 = .ok (.aload_n 0, 1) := by decide +kernel
theorem d_M_written_28 : decode b_M_written 28 = .ok (.getfield 45, 3) := by decide +kernel
theorem d_M_written_31 : decode b_M_written 31 = .ok (.iload_n 2, 1) := by decide +kernel
theorem d_M_written_32 : decode b_M_written 32 = .ok (.bipush 8, 2) := by decide +kernel
theorem d_M_written_34 : decode b_M_written 34 = .ok (.idiv, 1) := by decide +kernel
theorem d_M_written_35 : decode b_M_written 35 = .ok (.iconst (-1), 1) := by decide +kernel
theorem d_M_written_36 : decode b_M_written 36 = .ok (.iastore, 1) := by decide +kernel
theorem d_M_written_37 : decode b_M_written 37 = .ok (.return_, 1) := by decide +kernel
theorem d_M_taken_0 : decode b_M_taken 0 = .ok (.aload_n 0, 1) := by decide +kernel
theorem d_M_taken_1 : decode b_M_taken 1 = .ok (.getfield 16, 3) := by decide +kernel
theorem d_M_taken_4 : decode b_M_taken 4 = .ok (.iload_n 1, 1) := by decide +kernel
theorem d_M_taken_5 : decode b_M_taken 5 = .ok (.bipush 6, 2) := by decide +kernel
theorem d_M_taken_7 : decode b_M_taken 7 = .ok (.iadd, 1) := by decide +kernel
theorem d_M_taken_8 : decode b_M_taken 8 = .ok (.iaload, 1) := by decide +kernel
theorem d_M_taken_9 : decode b_M_taken 9 = .ok (.ifCond .ne 5, 3) := by decide +kernel
theorem d_M_taken_12 : decode b_M_taken 12 = .ok (.iconst (-1), 1) := by decide +kernel
theorem d_M_taken_13 : decode b_M_taken 13 = .ok (.ireturn, 1) := by decide +kernel
theorem d_M_taken_14 : decode b_M_taken 14 = .ok (.aload_n 0, 1) := by decide +kernel
theorem d_M_taken_15 : decode b_M_taken 15 = .ok (.getfield 16, 3) := by decide +kernel
theorem d_M_taken_18 : decode b_M_taken 18 = .ok (.iload_n 1, 1) := by decide +kernel
theorem d_M_taken_19 : decode b_M_taken 19 = .ok (.bipush 7, 2) := by decide +kernel
theorem d_M_taken_21 : decode b_M_taken 21 = .ok (.iadd, 1) := by decide +kernel
theorem d_M_taken_22 : decode b_M_taken 22 = .ok (.iaload, 1) := by decide +kernel
theorem d_M_taken_23 : decode b_M_taken 23 = .ok (.istore_n 2, 1) := by decide +kernel
theorem d_M_taken_24 : decode b_M_taken 24 = .ok (.iconst 0, 1) := by decide +kernel
theorem d_M_taken_25 : decode b_M_taken 25 = .ok (.istore_n 3, 1) := by decide +kernel
theorem d_M_taken_26 : decode b_M_taken 26 = .ok (.iload_n 3, 1) := by decide +kernel
theorem d_M_taken_27 : decode b_M_taken 27 = .ok (.bipush 7, 2) := by decide +kernel
theorem d_M_taken_29 : decode b_M_taken 29 = .ok (.if_icmp .ge 33, 3) := by decide +kernel
theorem d_M_taken_32 : decode b_M_taken 32 = .ok (.aload_n 0, 1) := by decide +kernel
theorem d_M_taken_33 : decode b_M_taken 33 = .ok (.getfield 16, 3) := by decide +kernel
theorem d_M_taken_36 : decode b_M_taken 36 = .ok (.iload_n 1, 1) := by decide +kernel
theorem d_M_taken_37 : decode b_M_taken 37 = .ok (.bipush 7, 2) := by decide +kernel
theorem d_M_taken_39 : decode b_M_taken 39 = .ok (.iadd, 1) := by decide +kernel
theorem d_M_taken_40 : decode b_M_taken 40 = .ok (.iload_n 3, 1) := by decide +kernel
theorem d_M_taken_41 : decode b_M_taken 41 = .ok (.iadd, 1) := by decide +kernel
theorem d_M_taken_42 : decode b_M_taken 42 = .ok (.aload_n 0, 1) := by decide +kernel
theorem d_M_taken_43 : decode b_M_taken 43 = .ok (.getfield 16, 3) := by decide +kernel
theorem d_M_taken_46 : decode b_M_taken 46 = .ok (.iload_n 1, 1) := by decide +kernel
theorem d_M_taken_47 : decode b_M_taken 47 = .ok (.bipush 7, 2) := by decide +kernel
theorem d_M_taken_49 : decode b_M_taken 49 = .ok (.iadd, 1) := by decide +kernel
theorem d_M_taken_50 : decode b_M_taken 50 = .ok (.iload_n 3, 1) := by decide +kernel
theorem d_M_taken_51 : decode b_M_taken 51 = .ok (.iadd, 1) := by decide +kernel
theorem d_M_taken_52 : decode b_M_taken 52 = .ok (.iconst 1, 1) := by decide +kernel
theorem d_M_taken_53 : decode b_M_taken 53 = .ok (.iadd, 1) := by decide +kernel
theorem d_M_taken_54 : decode b_M_taken 54 = .ok (.iaload, 1) := by decide +kernel
theorem d_M_taken_55 : decode b_M_taken 55 = .ok (.iastore, 1) := by decide +kernel
theorem d_M_taken_56 : decode b_M_taken 56 = .ok (.iinc 3 1, 3) := by decide +kernel
theorem d_M_taken_59 : decode b_M_taken 59 = .ok (.goto (-33), 3) := by decide +kernel
theorem d_M_taken_62 : decode b_M_taken 62 = .ok (.aload_n 0, 1) := by decide +kernel
theorem d_M_taken_63 : decode b_M_taken 63 = .ok (.getfield 16, 3) := by decide +kernel
theorem d_M_taken_66 : decode b_M_taken 66 = .ok (.iload_n 1, 1) := by decide +kernel
theorem d_M_taken_67 : decode b_M_taken 67 = .ok (.bipush 6, 2) := by decide +kernel
theorem d_M_taken_69 : decode b_M_taken 69 = .ok (.iadd, 1) := by decide +kernel
theorem d_M_taken_70 : decode b_M_taken 70 = .ok (.dup2, 1) := by decide +kernel
theorem d_M_taken_71 : decode b_M_taken 71 = .ok (.iaload, 1) := by decide +kernel
theorem d_M_taken_72 : decode b_M_taken 72 = .ok (.iconst 1, 1) := by decide +kernel
theorem d_M_taken_73 : decode b_M_taken 73 = .ok (.isub, 1) := by decide +kernel
theorem d_M_taken_74 : decode b_M_taken 74 = .ok (.iastore, 1) := by decide +kernel
theorem d_M_taken_75 : decode b_M_taken 75 = .ok (.iload_n 2, 1) := by decide +kernel
theorem d_M_taken_76 : decode b_M_taken 76 = .ok (.ireturn, 1) := by decide +kernel
theorem d_M_create_0 : decode b_M_create 0 = .ok (.iload_n 1, 1) := by decide +kernel
theorem d_M_create_1 : decode b_M_create 1 = .ok (.invokestatic 76, 3) := by decide +kernel
theorem d_M_create_4 : decode b_M_create 4 = .ok (.ifCond .ne 5, 3) := by decide +kernel
theorem d_M_create_7 : decode b_M_create 7 = .ok (.iconst (-1), 1) := by decide +kernel
theorem d_M_create_8 : decode b_M_create 8 = .ok (.ireturn, 1) := by decide +kernel
theorem d_M_create_9 : decode b_M_create 9 = .ok (.aload_n 0, 1) := by decide +kernel
theorem d_M_create_10 : decode b_M_create 10 = .ok (.getfield 19, 3) := by decide +kernel
theorem d_M_create_13 : decode b_M_create 13 = .ok (.iload_n 1, 1) := by decide +kernel
theorem d_M_create_14 : decode b_M_create 14 = .ok (.baload, 1) := by decide +kernel
theorem d_M_create_15 : decode b_M_create 15 = .ok (.ifCond .eq 28, 3) := by decide +kernel
theorem d_M_create_18 : decode b_M_create 18 = .ok (.aload_n 0, 1) := by decide +kernel
theorem d_M_create_19 : decode b_M_create 19 = .ok (.getfield 23, 3) := by decide +kernel
theorem d_M_create_22 : decode b_M_create 22 = .ok (.iconst 0, 1) := by decide +kernel
theorem d_M_create_23 : decode b_M_create 23 = .ok (.baload, 1) := by decide +kernel
theorem d_M_create_24 : decode b_M_create 24 = .ok (.ifCond .ne 19, 3) := by decide +kernel
theorem d_M_create_27 : decode b_M_create 27 = .ok (.aload_n 0, 1) := by decide +kernel
theorem d_M_create_28 : decode b_M_create 28 = .ok (.getfield 23, 3) := by decide +kernel
theorem d_M_create_31 : decode b_M_create 31 = .ok (.iconst 1, 1) := by decide +kernel
theorem d_M_create_32 : decode b_M_create 32 = .ok (.baload, 1) := by decide +kernel
theorem d_M_create_33 : decode b_M_create 33 = .ok (.ifCond .ne 10, 3) := by decide +kernel
theorem d_M_create_36 : decode b_M_create 36 = .ok (.aload_n 0, 1) := by decide +kernel
theorem d_M_create_37 : decode b_M_create 37 = .ok (.getfield 80, 3) := by decide +kernel
theorem d_M_create_40 : decode b_M_create 40 = .ok (.ifCond .eq 6, 3) := by decide +kernel
theorem d_M_create_43 : decode b_M_create 43 = .ok (.bipush (-2), 2) := by decide +kernel
theorem d_M_create_45 : decode b_M_create 45 = .ok (.ireturn, 1) := by decide +kernel
theorem d_M_create_46 : decode b_M_create 46 = .ok (.aload_n 0, 1) := by decide +kernel
theorem d_M_create_47 : decode b_M_create 47 = .ok (.getfield 23, 3) := by decide +kernel
theorem d_M_create_50 : decode b_M_create 50 = .ok (.iload_n 1, 1) := by decide +kernel
theorem d_M_create_51 : decode b_M_create 51 = .ok (.iconst 1, 1) := by decide +kernel
theorem d_M_create_52 : decode b_M_create 52 = .ok (.bastore, 1) := by decide +kernel
theorem d_M_create_53 : decode b_M_create 53 = .ok (.iconst 0, 1) := by decide +kernel
theorem d_M_create_54 : decode b_M_create 54 = .ok (.istore_n 2, 1) := by decide +kernel
theorem d_M_create_55 : decode b_M_create 55 = .ok (.iload_n 2, 1) := by decide +kernel
theorem d_M_create_56 : decode b_M_create 56 = .ok (.bipush 64, 2) := by decide +kernel
theorem d_M_create_58 : decode b_M_create 58 = .ok (.if_icmp .ge 26, 3) := by decide +kernel
theorem d_M_create_61 : decode b_M_create 61 = .ok (.aload_n 0, 1) := by decide +kernel
theorem d_M_create_62 : decode b_M_create 62 = .ok (.getfield 13, 3) := by decide +kernel
theorem d_M_create_65 : decode b_M_create 65 = .ok (.bipush 64, 2) := by decide +kernel
theorem d_M_create_67 : decode b_M_create 67 = .ok (.iload_n 1, 1) := by decide +kernel
theorem d_M_create_68 : decode b_M_create 68 = .ok (.imul, 1) := by decide +kernel
theorem d_M_create_69 : decode b_M_create 69 = .ok (.iload_n 2, 1) := by decide +kernel
theorem d_M_create_70 : decode b_M_create 70 = .ok (.iadd, 1) := by decide +kernel
theorem d_M_create_71 : decode b_M_create 71 = .ok (.aload_n 0, 1) := by decide +kernel
theorem d_M_create_72 : decode b_M_create 72 = .ok (.getfield 7, 3) := by decide +kernel
theorem d_M_create_75 : decode b_M_create 75 = .ok (.iload_n 2, 1) := by decide +kernel
theorem d_M_create_76 : decode b_M_create 76 = .ok (.iaload, 1) := by decide +kernel
theorem d_M_create_77 : decode b_M_create 77 = .ok (.iastore, 1) := by decide +kernel
theorem d_M_create_78 : decode b_M_create 78 = .ok (.iinc 2 1, 3) := by decide +kernel
theorem d_M_create_81 : decode b_M_create 81 = .ok (.goto (-26), 3) := by decide +kernel
theorem d_M_create_84 : decode b_M_create 84 = .ok (.iconst 0, 1) := by decide +kernel
theorem d_M_create_85 : decode b_M_create 85 = .ok (.istore_n 2, 1) := by decide +kernel
theorem d_M_create_86 : decode b_M_create 86 = .ok (.iload_n 2, 1) := by decide +kernel
theorem d_M_create_87 : decode b_M_create 87 = .ok (.bipush 60, 2) := by decide +kernel
theorem d_M_create_89 : decode b_M_create 89 = .ok (.if_icmp .ge 21, 3) := by decide +kernel
theorem d_M_create_92 : decode b_M_create 92 = .ok (.aload_n 0, 1) := by decide +kernel
theorem d_M_create_93 : decode b_M_create 93 = .ok (.getfield 16, 3) := by decide +kernel
theorem d_M_create_96 : decode b_M_create 96 = .ok (.bipush 60, 2) := by decide +kernel
theorem d_M_create_98 : decode b_M_create 98 = .ok (.iload_n 1, 1) := by decide +kernel
theorem d_M_create_99 : decode b_M_create 99 = .ok (.imul, 1) := by decide +kernel
theorem d_M_create_100 : decode b_M_create 100 = .ok (.iload_n 2, 1) := by decide +kernel
theorem d_M_create_101 : decode b_M_create 101 = .ok (.iadd, 1) := by decide +kernel
theorem d_M_create_102 : decode b_M_create 102 = .ok (.iconst 0, 1) := by decide +kernel
theorem d_M_create_103 : decode b_M_create 103 = .ok (.iastore, 1) := by decide +kernel
theorem d_M_create_104 : decode b_M_create 104 = .ok (.iinc 2 1, 3) := by decide +kernel
theorem d_M_create_107 : decode b_M_create 107 = .ok (.goto (-21), 3) := by decide +kernel
theorem d_M_create_110 : decode b_M_create 110 = .ok (.aload_n 0, 1) := by decide +kernel
theorem d_M_create_111 : decode b_M_create 111 = .ok (.iload_n 1, 1) := by decide +kernel
theorem d_M_create_112 : decode b_M_create 112 = .ok (.putfield 29, 3) := by decide +kernel
theorem d_M_create_115 : decode b_M_create 115 = .ok (.aload_n 0, 1) := by decide +kernel
theorem d_M_create_116 : decode b_M_create 116 = .ok (.dup, 1) := by decide +kernel
theorem d_M_create_117 : decode b_M_create 117 = .ok (.getfield 83, 3) := by decide +kernel
theorem d_M_create_120 : decode b_M_create 120 = .ok (.iconst 1, 1) := by decide +kernel
theorem d_M_create_121 : decode b_M_create 121 = .ok (.iadd, 1) := by decide +kernel
theorem d_M_create_122 : decode b_M_create 122 = .ok (.putfield 83, 3) := by decide +kernel
theorem d_M_create_125 : decode b_M_create 125 = .ok (.aload_n 0, 1) := by decide +kernel
theorem d_M_create_126 : decode b_M_create 126 = .ok (.getfield 83, 3) := by decide +kernel
theorem d_M_create_129 : decode b_M_create 129 = .ok (.ireturn, 1) := by decide +kernel
theorem d_M_instruct_0 : decode b_M_instruct 0 = .ok (.bipush 60, 2) := by decide +kernel
theorem d_M_instruct_2 : decode b_M_instruct 2 = .ok (.iload_n 1, 1) := by decide +kernel
theorem d_M_instruct_3 : decode b_M_instruct 3 = .ok (.imul, 1) := by decide +kernel
theorem d_M_instruct_4 : decode b_M_instruct 4 = .ok (.istore_n 2, 1) := by decide +kernel
theorem d_M_instruct_5 : decode b_M_instruct 5 = .ok (.aload_n 0, 1) := by decide +kernel
theorem d_M_instruct_6 : decode b_M_instruct 6 = .ok (.getfield 13, 3) := by decide +kernel
theorem d_M_instruct_9 : decode b_M_instruct 9 = .ok (.bipush 64, 2) := by decide +kernel
theorem d_M_instruct_11 : decode b_M_instruct 11 = .ok (.iload_n 1, 1) := by decide +kernel
theorem d_M_instruct_12 : decode b_M_instruct 12 = .ok (.imul, 1) := by decide +kernel
theorem d_M_instruct_13 : decode b_M_instruct 13 = .ok (.aload_n 0, 1) := by decide +kernel
theorem d_M_instruct_14 : decode b_M_instruct 14 = .ok (.getfield 16, 3) := by decide +kernel
theorem d_M_instruct_17 : decode b_M_instruct 17 = .ok (.iload_n 2, 1) := by decide +kernel
theorem d_M_instruct_18 : decode b_M_instruct 18 = .ok (.iconst 4, 1) := by decide +kernel
theorem d_M_instruct_19 : decode b_M_instruct 19 = .ok (.iadd, 1) := by decide +kernel
theorem d_M_instruct_20 : decode b_M_instruct 20 = .ok (.iaload, 1) := by decide +kernel
theorem d_M_instruct_21 : decode b_M_instruct 21 = .ok (.iadd, 1) := by decide +kernel
theorem d_M_instruct_22 : decode b_M_instruct 22 = .ok (.iaload, 1) := by decide +kernel
theorem d_M_instruct_23 : decode b_M_instruct 23 = .ok (.istore_n 3, 1) := by decide +kernel
theorem d_M_instruct_24 : decode b_M_instruct 24 = .ok (.iload_n 3, 1) := by decide +kernel
theorem d_M_instruct_25 : decode b_M_instruct 25 = .ok (.bipush 15, 2) := by decide +kernel
theorem d_M_instruct_27 : decode b_M_instruct 27 = .ok (.iand, 1) := by decide +kernel
theorem d_M_instruct_28 : decode b_M_instruct 28 = .ok (.istore 4, 2) := by decide +kernel
theorem d_M_instruct_30 : decode b_M_instruct 30 = .ok (.iload_n 2, 1) := by decide +kernel
theorem d_M_instruct_31 : decode b_M_instruct 31 = .ok (.iload_n 3, 1) := by decide +kernel
theorem d_M_instruct_32 : decode b_M_instruct 32 = .ok (.iconst 4, 1) := by decide +kernel
theorem d_M_instruct_33 : decode b_M_instruct 33 = .ok (.ishr, 1) := by decide +kernel
theorem d_M_instruct_34 : decode b_M_instruct 34 = .ok (.iconst 3, 1) := by decide +kernel
theorem d_M_instruct_35 : decode b_M_instruct 35 = .ok (.iand, 1) := by decide +kernel
theorem d_M_instruct_36 : decode b_M_instruct 36 = .ok (.iadd, 1) := by decide +kernel
theorem d_M_instruct_37 : decode b_M_instruct 37 = .ok (.istore 5, 2) := by decide +kernel
theorem d_M_instruct_39 : decode b_M_instruct 39 = .ok (.aload_n 0, 1) := by decide +kernel
theorem d_M_instruct_40 : decode b_M_instruct 40 = .ok (.getfield 16, 3) := by decide +kernel
theorem d_M_instruct_43 : decode b_M_instruct 43 = .ok (.iload_n 2, 1) := by decide +kernel
theorem d_M_instruct_44 : decode b_M_instruct 44 = .ok (.iload_n 3, 1) := by decide +kernel
theorem d_M_instruct_45 : decode b_M_instruct 45 = .ok (.bipush 6, 2) := by decide +kernel
theorem d_M_instruct_47 : decode b_M_instruct 47 = .ok (.ishr, 1) := by decide +kernel
theorem d_M_instruct_48 : decode b_M_instruct 48 = .ok (.iconst 3, 1) := by decide +kernel
theorem d_M_instruct_49 : decode b_M_instruct 49 = .ok (.iand, 1) := by decide +kernel
theorem d_M_instruct_50 : decode b_M_instruct 50 = .ok (.iadd, 1) := by decide +kernel
theorem d_M_instruct_51 : decode b_M_instruct 51 = .ok (.iaload, 1) := by decide +kernel
theorem d_M_instruct_52 : decode b_M_instruct 52 = .ok (.istore 6, 2) := by decide +kernel
theorem d_M_instruct_54 : decode b_M_instruct 54 = .ok (.iload_n 3, 1) := by decide +kernel
theorem d_M_instruct_55 : decode b_M_instruct 55 = .ok (.bipush 8, 2) := by decide +kernel
theorem d_M_instruct_57 : decode b_M_instruct 57 = .ok (.ishr, 1) := by decide +kernel
theorem d_M_instruct_58 : decode b_M_instruct 58 = .ok (.bipush 63, 2) := by decide +kernel
theorem d_M_instruct_60 : decode b_M_instruct 60 = .ok (.iand, 1) := by decide +kernel
theorem d_M_instruct_61 : decode b_M_instruct 61 = .ok (.istore 7, 2) := by decide +kernel
theorem d_M_instruct_63 : decode b_M_instruct 63 = .ok (.iload 4, 2) := by decide +kernel
theorem d_M_instruct_65 : decode b_M_instruct 65 = .ok (.ifCond .eq 37, 3) := by decide +kernel
theorem d_M_instruct_68 : decode b_M_instruct 68 = .ok (.iload 4, 2) := by decide +kernel
theorem d_M_instruct_70 : decode b_M_instruct 70 = .ok (.bipush 13, 2) := by decide +kernel
theorem d_M_instruct_72 : decode b_M_instruct 72 = .ok (.if_icmp .gt 30, 3) := by decide +kernel
theorem d_M_instruct_75 : decode b_M_instruct 75 = .ok (.iload 4, 2) := by decide +kernel
theorem d_M_instruct_77 : decode b_M_instruct 77 = .ok (.bipush 11, 2) := by decide +kernel
theorem d_M_instruct_79 : decode b_M_instruct 79 = .ok (.if_icmp .eq 10, 3) := by decide +kernel
theorem d_M_instruct_82 : decode b_M_instruct 82 = .ok (.iload 4, 2) := by decide +kernel
theorem d_M_instruct_84 : decode b_M_instruct 84 = .ok (.bipush 12, 2) := by decide +kernel
theorem d_M_instruct_86 : decode b_M_instruct 86 = .ok (.if_icmp .ne 20, 3) := by decide +kernel
theorem d_M_instruct_89 : decode b_M_instruct 89 = .ok (.aload_n 0, 1) := by decide +kernel
theorem d_M_instruct_90 : decode b_M_instruct 90 = .ok (.getfield 16, 3) := by decide +kernel
theorem d_M_instruct_93 : decode b_M_instruct 93 = .ok (.iload_n 2, 1) := by decide +kernel
theorem d_M_instruct_94 : decode b_M_instruct 94 = .ok (.bipush 56, 2) := by decide +kernel
theorem d_M_instruct_96 : decode b_M_instruct 96 = .ok (.iadd, 1) := by decide +kernel
theorem d_M_instruct_97 : decode b_M_instruct 97 = .ok (.iaload, 1) := by decide +kernel
theorem d_M_instruct_98 : decode b_M_instruct 98 = .ok (.iconst 1, 1) := by decide +kernel
theorem d_M_instruct_99 : decode b_M_instruct 99 = .ok (.if_icmp .ne 7, 3) := by decide +kernel
theorem d_M_instruct_102 : decode b_M_instruct 102 = .ok (.iconst 1, 1) := by decide +kernel
theorem d_M_instruct_103 : decode b_M_instruct 103 = .ok (.goto 4, 3) := by decide +kernel
theorem d_M_instruct_106 : decode b_M_instruct 106 = .ok (.iconst 0, 1) := by decide +kernel
theorem d_M_instruct_107 : decode b_M_instruct 107 = .ok (.istore 8, 2) := by decide +kernel
theorem d_M_instruct_109 : decode b_M_instruct 109 = .ok (.iload 8, 2) := by decide +kernel
theorem d_M_instruct_111 : decode b_M_instruct 111 = .ok (.ifCond .eq 5, 3) := by decide +kernel
theorem d_M_instruct_114 : decode b_M_instruct 114 = .ok (.iconst 0, 1) := by decide +kernel
theorem d_M_instruct_115 : decode b_M_instruct 115 = .ok (.ireturn, 1) := by decide +kernel
theorem d_M_instruct_116 : decode b_M_instruct 116 = .ok (.iload 4, 2) := by decide +kernel
theorem d_M_instruct_118 : decode b_M_instruct 118 = .ok (.bipush 7, 2) := by decide +kernel
theorem d_M_instruct_120 : decode b_M_instruct 120 = .ok (.if_icmp .eq 20, 3) := by decide +kernel
theorem d_M_instruct_123 : decode b_M_instruct 123 = .ok (.iload 4, 2) := by decide +kernel
theorem d_M_instruct_125 : decode b_M_instruct 125 = .ok (.bipush 8, 2) := by decide +kernel
theorem d_M_instruct_127 : decode b_M_instruct 127 = .ok (.if_icmp .ne 17, 3) := by decide +kernel
theorem d_M_instruct_130 : decode b_M_instruct 130 = .ok (.aload_n 0, 1) := by decide +kernel
theorem d_M_instruct_131 : decode b_M_instruct 131 = .ok (.getfield 16, 3) := by decide +kernel
theorem d_M_instruct_134 : decode b_M_instruct 134 = .ok (.iload 5, 2) := by decide +kernel
theorem d_M_instruct_136 : decode b_M_instruct 136 = .ok (.iaload, 1) := by decide +kernel
theorem d_M_instruct_137 : decode b_M_instruct 137 = .ok (.ifCond .ne 7, 3) := by decide +kernel
theorem d_M_instruct_140 : decode b_M_instruct 140 = .ok (.iconst 1, 1) := by decide +kernel
theorem d_M_instruct_141 : decode b_M_instruct 141 = .ok (.goto 4, 3) := by decide +kernel
theorem d_M_instruct_144 : decode b_M_instruct 144 = .ok (.iconst 0, 1) := by decide +kernel
theorem d_M_instruct_145 : decode b_M_instruct 145 = .ok (.istore 9, 2) := by decide +kernel
theorem d_M_instruct_147 : decode b_M_instruct 147 = .ok (.iload 4, 2) := by decide +kernel
theorem d_M_instruct_149 : decode b_M_instruct 149 = .ok (.iconst 1, 1) := by decide +kernel
theorem d_M_instruct_150 : decode b_M_instruct 150 = .ok (.if_icmp .ne 14, 3) := by decide +kernel
theorem d_M_instruct_153 : decode b_M_instruct 153 = .ok (.aload_n 0, 1) := by decide +kernel
theorem d_M_instruct_154 : decode b_M_instruct 154 = .ok (.getfield 16, 3) := by decide +kernel
theorem d_M_instruct_157 : decode b_M_instruct 157 = .ok (.iload 5, 2) := by decide +kernel
theorem d_M_instruct_159 : decode b_M_instruct 159 = .ok (.iload_n 3, 1) := by decide +kernel
theorem d_M_instruct_160 : decode b_M_instruct 160 = .ok (.bipush 16, 2) := by decide +kernel
theorem d_M_instruct_162 : decode b_M_instruct 162 = .ok (.ishr, 1) := by decide +kernel
theorem d_M_instruct_163 : decode b_M_instruct 163 = .ok (.iastore, 1) := by decide +kernel
theorem d_M_instruct_164 : decode b_M_instruct 164 = .ok (.iload 4, 2) := by decide +kernel
theorem d_M_instruct_166 : decode b_M_instruct 166 = .ok (.iconst 2, 1) := by decide +kernel
theorem d_M_instruct_167 : decode b_M_instruct 167 = .ok (.if_icmp .ne 20, 3) := by decide +kernel
theorem d_M_instruct_170 : decode b_M_instruct 170 = .ok (.aload_n 0, 1) := by decide +kernel
theorem d_M_instruct_171 : decode b_M_instruct 171 = .ok (.getfield 16, 3) := by decide +kernel
theorem d_M_instruct_174 : decode b_M_instruct 174 = .ok (.iload 5, 2) := by decide +kernel
theorem d_M_instruct_176 : decode b_M_instruct 176 = .ok (.aload_n 0, 1) := by decide +kernel
theorem d_M_instruct_177 : decode b_M_instruct 177 = .ok (.getfield 16, 3) := by decide +kernel
theorem d_M_instruct_180 : decode b_M_instruct 180 = .ok (.iload 5, 2) := by decide +kernel
theorem d_M_instruct_182 : decode b_M_instruct 182 = .ok (.iaload, 1) := by decide +kernel
theorem d_M_instruct_183 : decode b_M_instruct 183 = .ok (.iload 6, 2) := by decide +kernel
theorem d_M_instruct_185 : decode b_M_instruct 185 = .ok (.iadd, 1) := by decide +kernel
theorem d_M_instruct_186 : decode b_M_instruct 186 = .ok (.iastore, 1) := by decide +kernel
theorem d_M_instruct_187 : decode b_M_instruct 187 = .ok (.iload 4, 2) := by decide +kernel
theorem d_M_instruct_189 : decode b_M_instruct 189 = .ok (.iconst 3, 1) := by decide +kernel
theorem d_M_instruct_190 : decode b_M_instruct 190 = .ok (.if_icmp .ne 20, 3) := by decide +kernel
theorem d_M_instruct_193 : decode b_M_instruct 193 = .ok (.aload_n 0, 1) := by decide +kernel
theorem d_M_instruct_194 : decode b_M_instruct 194 = .ok (.getfield 16, 3) := by decide +kernel
theorem d_M_instruct_197 : decode b_M_instruct 197 = .ok (.iload 5, 2) := by decide +kernel
theorem d_M_instruct_199 : decode b_M_instruct 199 = .ok (.aload_n 0, 1) := by decide +kernel
theorem d_M_instruct_200 : decode b_M_instruct 200 = .ok (.getfield 16, 3) := by decide +kernel
theorem d_M_instruct_203 : decode b_M_instruct 203 = .ok (.iload 5, 2) := by decide +kernel
theorem d_M_instruct_205 : decode b_M_instruct 205 = .ok (.iaload, 1) := by decide +kernel
theorem d_M_instruct_206 : decode b_M_instruct 206 = .ok (.iload 6, 2) := by decide +kernel
theorem d_M_instruct_208 : decode b_M_instruct 208 = .ok (.isub, 1) := by decide +kernel
theorem d_M_instruct_209 : decode b_M_instruct 209 = .ok (.iastore, 1) := by decide +kernel
theorem d_M_instruct_210 : decode b_M_instruct 210 = .ok (.iload 4, 2) := by decide +kernel
theorem d_M_instruct_212 : decode b_M_instruct 212 = .ok (.iconst 4, 1) := by decide +kernel
theorem d_M_instruct_213 : decode b_M_instruct 213 = .ok (.if_icmp .ne 20, 3) := by decide +kernel
theorem d_M_instruct_216 : decode b_M_instruct 216 = .ok (.aload_n 0, 1) := by decide +kernel
theorem d_M_instruct_217 : decode b_M_instruct 217 = .ok (.getfield 16, 3) := by decide +kernel
theorem d_M_instruct_220 : decode b_M_instruct 220 = .ok (.iload 5, 2) := by decide +kernel
theorem d_M_instruct_222 : decode b_M_instruct 222 = .ok (.aload_n 0, 1) := by decide +kernel
theorem d_M_instruct_223 : decode b_M_instruct 223 = .ok (.getfield 16, 3) := by decide +kernel
theorem d_M_instruct_226 : decode b_M_instruct 226 = .ok (.iload 5, 2) := by decide +kernel
theorem d_M_instruct_228 : decode b_M_instruct 228 = .ok (.iaload, 1) := by decide +kernel
theorem d_M_instruct_229 : decode b_M_instruct 229 = .ok (.iload 6, 2) := by decide +kernel
theorem d_M_instruct_231 : decode b_M_instruct 231 = .ok (.imul, 1) := by decide +kernel
theorem d_M_instruct_232 : decode b_M_instruct 232 = .ok (.iastore, 1) := by decide +kernel
theorem d_M_instruct_233 : decode b_M_instruct 233 = .ok (.iload 4, 2) := by decide +kernel
theorem d_M_instruct_235 : decode b_M_instruct 235 = .ok (.iconst 5, 1) := by decide +kernel
theorem d_M_instruct_236 : decode b_M_instruct 236 = .ok (.if_icmp .ne 28, 3) := by decide +kernel
theorem d_M_instruct_239 : decode b_M_instruct 239 = .ok (.aload_n 0, 1) := by decide +kernel
theorem d_M_instruct_240 : decode b_M_instruct 240 = .ok (.getfield 16, 3) := by decide +kernel
theorem d_M_instruct_243 : decode b_M_instruct 243 = .ok (.iload 5, 2) := by decide +kernel
theorem d_M_instruct_245 : decode b_M_instruct 245 = .ok (.aload_n 0, 1) := by decide +kernel
theorem d_M_instruct_246 : decode b_M_instruct 246 = .ok (.getfield 13, 3) := by decide +kernel
theorem d_M_instruct_249 : decode b_M_instruct 249 = .ok (.bipush 64, 2) := by decide +kernel
theorem d_M_instruct_251 : decode b_M_instruct 251 = .ok (.iload_n 1, 1) := by decide +kernel
theorem d_M_instruct_252 : decode b_M_instruct 252 = .ok (.imul, 1) := by decide +kernel
theorem d_M_instruct_253 : decode b_M_instruct 253 = .ok (.iload 6, 2) := by decide +kernel
theorem d_M_instruct_255 : decode b_M_instruct 255 = .ok (.iload 7, 2) := by decide +kernel
theorem d_M_instruct_257 : decode b_M_instruct 257 = .ok (.iadd, 1) := by decide +kernel
theorem d_M_instruct_258 : decode b_M_instruct 258 = .ok (.bipush 63, 2) := by decide +kernel
theorem d_M_instruct_260 : decode b_M_instruct 260 = .ok (.iand, 1) := by decide +kernel
theorem d_M_instruct_261 : decode b_M_instruct 261 = .ok (.iadd, 1) := by decide +kernel
theorem d_M_instruct_262 : decode b_M_instruct 262 = .ok (.iaload, 1) := by decide +kernel
theorem d_M_instruct_263 : decode b_M_instruct 263 = .ok (.iastore, 1) := by decide +kernel
theorem d_M_instruct_264 : decode b_M_instruct 264 = .ok (.iload 4, 2) := by decide +kernel
theorem d_M_instruct_266 : decode b_M_instruct 266 = .ok (.bipush 6, 2) := by decide +kernel
theorem d_M_instruct_268 : decode b_M_instruct 268 = .ok (.if_icmp .ne 23, 3) := by decide +kernel
theorem d_M_instruct_271 : decode b_M_instruct 271 = .ok (.aload_n 0, 1) := by decide +kernel
theorem d_M_instruct_272 : decode b_M_instruct 272 = .ok (.iload_n 1, 1) := by decide +kernel
theorem d_M_instruct_273 : decode b_M_instruct 273 = .ok (.iload 6, 2) := by decide +kernel
theorem d_M_instruct_275 : decode b_M_instruct 275 = .ok (.iload 7, 2) := by decide +kernel
theorem d_M_instruct_277 : decode b_M_instruct 277 = .ok (.iadd, 1) := by decide +kernel
theorem d_M_instruct_278 : decode b_M_instruct 278 = .ok (.bipush 63, 2) := by decide +kernel
theorem d_M_instruct_280 : decode b_M_instruct 280 = .ok (.iand, 1) := by decide +kernel
theorem d_M_instruct_281 : decode b_M_instruct 281 = .ok (.aload_n 0, 1) := by decide +kernel
theorem d_M_instruct_282 : decode b_M_instruct 282 = .ok (.getfield 16, 3) := by decide +kernel
theorem d_M_instruct_285 : decode b_M_instruct 285 = .ok (.iload 5, 2) := by decide +kernel
theorem d_M_instruct_287 : decode b_M_instruct 287 = .ok (.iaload, 1) := by decide +kernel
theorem d_M_instruct_288 : decode b_M_instruct 288 = .ok (.invokevirtual 89, 3) := by decide +kernel
theorem d_M_instruct_291 : decode b_M_instruct 291 = .ok (.iload 4, 2) := by decide +kernel
theorem d_M_instruct_293 : decode b_M_instruct 293 = .ok (.bipush 9, 2) := by decide +kernel
theorem d_M_instruct_295 : decode b_M_instruct 295 = .ok (.if_icmp .ne 56, 3) := by decide +kernel
theorem d_M_instruct_298 : decode b_M_instruct 298 = .ok (.aload_n 0, 1) := by decide +kernel
theorem d_M_instruct_299 : decode b_M_instruct 299 = .ok (.getfield 16, 3) := by decide +kernel
theorem d_M_instruct_302 : decode b_M_instruct 302 = .ok (.iload_n 2, 1) := by decide +kernel
theorem d_M_instruct_303 : decode b_M_instruct 303 = .ok (.bipush 15, 2) := by decide +kernel
theorem d_M_instruct_305 : decode b_M_instruct 305 = .ok (.iadd, 1) := by decide +kernel
theorem d_M_instruct_306 : decode b_M_instruct 306 = .ok (.iaload, 1) := by decide +kernel
theorem d_M_instruct_307 : decode b_M_instruct 307 = .ok (.bipush 40, 2) := by decide +kernel
theorem d_M_instruct_309 : decode b_M_instruct 309 = .ok (.if_icmp .ge 42, 3) := by decide +kernel
theorem d_M_instruct_312 : decode b_M_instruct 312 = .ok (.aload_n 0, 1) := by decide +kernel
theorem d_M_instruct_313 : decode b_M_instruct 313 = .ok (.getfield 16, 3) := by decide +kernel
theorem d_M_instruct_316 : decode b_M_instruct 316 = .ok (.iload_n 2, 1) := by decide +kernel
theorem d_M_instruct_317 : decode b_M_instruct 317 = .ok (.bipush 16, 2) := by decide +kernel
theorem d_M_instruct_319 : decode b_M_instruct 319 = .ok (.iadd, 1) := by decide +kernel
theorem d_M_instruct_320 : decode b_M_instruct 320 = .ok (.aload_n 0, 1) := by decide +kernel
theorem d_M_instruct_321 : decode b_M_instruct 321 = .ok (.getfield 16, 3) := by decide +kernel
theorem d_M_instruct_324 : decode b_M_instruct 324 = .ok (.iload_n 2, 1) := by decide +kernel
theorem d_M_instruct_325 : decode b_M_instruct 325 = .ok (.bipush 15, 2) := by decide +kernel
theorem d_M_instruct_327 : decode b_M_instruct 327 = .ok (.iadd, 1) := by decide +kernel
theorem d_M_instruct_328 : decode b_M_instruct 328 = .ok (.iaload, 1) := by decide +kernel
theorem d_M_instruct_329 : decode b_M_instruct 329 = .ok (.iadd, 1) := by decide +kernel
theorem d_M_instruct_330 : decode b_M_instruct 330 = .ok (.aload_n 0, 1) := by decide +kernel
theorem d_M_instruct_331 : decode b_M_instruct 331 = .ok (.getfield 16, 3) := by decide +kernel
theorem d_M_instruct_334 : decode b_M_instruct 334 = .ok (.iload 5, 2) := by decide +kernel
theorem d_M_instruct_336 : decode b_M_instruct 336 = .ok (.iaload, 1) := by decide +kernel
theorem d_M_instruct_337 : decode b_M_instruct 337 = .ok (.iastore, 1) := by decide +kernel
theorem d_M_instruct_338 : decode b_M_instruct 338 = .ok (.aload_n 0, 1) := by decide +kernel
theorem d_M_instruct_339 : decode b_M_instruct 339 = .ok (.getfield 16, 3) := by decide +kernel
theorem d_M_instruct_342 : decode b_M_instruct 342 = .ok (.iload_n 2, 1) := by decide +kernel
theorem d_M_instruct_343 : decode b_M_instruct 343 = .ok (.bipush 15, 2) := by decide +kernel
theorem d_M_instruct_345 : decode b_M_instruct 345 = .ok (.iadd, 1) := by decide +kernel
theorem d_M_instruct_346 : decode b_M_instruct 346 = .ok (.dup2, 1) := by decide +kernel
theorem d_M_instruct_347 : decode b_M_instruct 347 = .ok (.iaload, 1) := by decide +kernel
end
section
/-- the reference's cells -/
def MW (ad : Nat → Nat) (cT : Nat → ClassId) (im : Nat → Int32) (me : Nat → Int32) (ro : Nat → Int32) (up : Nat → Bool) (ho : Nat → Bool) (di : Nat → Int32) (os : Nat → Bool) (ob : Nat → Int32) (od : Nat → Int32) (on : Nat → Int32) (pg : Nat → Int32) (tm : Nat → Int32) (ts : Nat → Int32) (tr : Nat → Int32) (ki : Nat → Int32) (mo : Nat → Int32) (po : Nat → Int32) (sr : Nat → Int32) (ld : Nat → Int32) (st : Bool) (ow : Int32) (nu : Int32) (go : Bool) (la : Int32) (so : Int32) (se : Int32) (sl : Int32) (sp : Int32) (tp : Bool) (rd : Bool) (pn : Int32) : va_W := [(ad 0, .inr (6, [.ref (ad 1), .ref (ad 2), .ref (ad 3), .ref (ad 4), .ref (ad 5), .int (bI st), .ref (ad 6), .int ow, .int nu, .ref (ad 7), .ref (ad 8), .ref (ad 9), .ref (ad 10), .int (bI go), .int la, .int so, .ref (ad 11), .int se, .int sl, .int sp, .int (bI tp), .int (bI rd), .ref (ad 12), .ref (ad 13), .ref (ad 14), .int pn, .ref (ad 15), .ref (ad 16), .ref (ad 17), .ref (ad 18), .ref (ad 19)])), (ad 1, .inl (cT 0, 64, .inl im)), (ad 2, .inl (cT 0, 128, .inl me)), (ad 3, .inl (cT 0, 120, .inl ro)), (ad 4, .inl (cT 1, 2, .inl (fun j => bI (up j)))), (ad 5, .inl (cT 1, 2, .inl (fun j => bI (ho j)))), (ad 6, .inl (cT 0, 8, .inl di)), (ad 7, .inl (cT 1, 2, .inl (fun j => bI (os j)))), (ad 8, .inl (cT 0, 2, .inl ob)), (ad 9, .inl (cT 0, 2, .inl od)), (ad 10, .inl (cT 0, 2, .inl on)), (ad 11, .inl (cT 0, 8, .inl pg)), (ad 12, .inl (cT 0, 64, .inl tm)), (ad 13, .inl (cT 0, 8, .inl ts)), (ad 14, .inl (cT 0, 60, .inl tr)), (ad 15, .inl (cT 0, 9, .inl ki)), (ad 16, .inl (cT 0, 9, .inl mo)), (ad 17, .inl (cT 0, 9, .inl po)), (ad 18, .inl (cT 0, 9, .inl sr)), (ad 19, .inl (cT 0, 540, .inl ld))]
def F_M_isHost (h : Int32) : Int32 × Unit :=
  if h = 0 then
    (1, ())
  else
    if h = 1 then
      (1, ())
    else
      (0, ())
set_option maxHeartbeats 4000000 in
set_option maxRecDepth 100000 in
theorem c_M_isHost (l : Launch) (D : va_G) (cT : Nat → ClassId) (h : Int32)  : Cti l y_M_isHost ws_M_isHost { frames := 0, cells := 0, slots := 0, locals := 0 } D vwCl (TYS cT) [.int h] [] (fun (v : Int32) (u : Unit) => F_M_isHost h = (v, u)) (fun (u : Unit) => []) 0 0 := by
  refine x_inz (cc := b_M_isHost) (maxL := 1) (by decide) rfl (Nat.le_of_ble_eq_true rfl) ?_
  intro p e s m args below meth c A ls Q F hl hw ret
  have hl : lv_has ls 1 [(0, .int h)] := hl
  refine lv_iload_n (pc := 0) F.1 F.2.1 d_M_isHost_0 rfl (lv_at hl 0 rfl) ?_
  refine lv_if_eq (pc := 1) (tgt := 9) F.1 F.2.1 d_M_isHost_1 rfl (fun h1 => ?_) (fun h1 => ?_)
  · refine lv_iconst (pc := 9) (v := 1) F.1 F.2.1 d_M_isHost_9 (by decide) ?_
    refine lv_goto (pc := 10) (tgt := 14) F.1 F.2.1 d_M_isHost_10 rfl ?_
    refine W.widen (k := 0) (n := 0) (by decide) (by decide) ?_
    exact ret 1 () _ _ 14 _ rfl (by unfold F_M_isHost <;> rw [if_pos h1] <;> rfl) hw d_M_isHost_14
  · refine lv_iload_n (pc := 4) F.1 F.2.1 d_M_isHost_4 rfl (lv_at hl 0 rfl) ?_
    refine lv_iconst (pc := 5) (v := 1) F.1 F.2.1 d_M_isHost_5 (by decide) ?_
    refine lv_icmp_ne (pc := 6) (tgt := 13) F.1 F.2.1 d_M_isHost_6 rfl (fun h2 => ?_) (fun h2 => ?_)
    · refine lv_iconst (pc := 13) (v := 0) F.1 F.2.1 d_M_isHost_13 (by decide) ?_
      refine W.widen (k := 0) (n := 0) (by decide) (by decide) ?_
      exact ret 0 () _ _ 14 _ rfl (by unfold F_M_isHost <;> rw [if_neg h1] <;> rw [if_neg h2] <;> rfl) hw d_M_isHost_14
    · refine lv_iconst (pc := 9) (v := 1) F.1 F.2.1 d_M_isHost_9 (by decide) ?_
      refine lv_goto (pc := 10) (tgt := 14) F.1 F.2.1 d_M_isHost_10 rfl ?_
      refine W.widen (k := 0) (n := 0) (by decide) (by decide) ?_
      exact ret 1 () _ _ 14 _ rfl (by unfold F_M_isHost <;> rw [if_neg h1] <;> rw [if_pos h2] <;> rfl) hw d_M_isHost_14
theorem isHost_nat {h r : Int32} {u : Unit} (e : F_M_isHost h = (r, u)) (hr : ¬ r = 0) : isN h 2 := by
  unfold F_M_isHost at e
  by_cases h0 : h = 0
  · subst h0
    exact ⟨rfl, by decide⟩
  · rw [if_neg h0] at e
    by_cases h1 : h = 1
    · subst h1
      exact ⟨rfl, by decide⟩
    · rw [if_neg h1] at e
      cases e
      exact absurd rfl hr
def F_M_runs (up : Nat → Bool) (ho : Nat → Bool) (st : Bool) (ow : Int32) (h0 : Nat) : Int32 × Unit :=
  if up h0 = true then
    if ho h0 = true then
      if ow = (nI h0) then
        if st = true then
          (0, ())
        else
          (1, ())
      else
        (0, ())
    else
      (0, ())
  else
    (0, ())
set_option maxHeartbeats 4000000 in
set_option maxRecDepth 100000 in
theorem c_M_runs (l : Launch) (D : va_G) (cT : Nat → ClassId) (ad : Nat → Nat) (im : Nat → Int32) (me : Nat → Int32) (ro : Nat → Int32) (up : Nat → Bool) (ho : Nat → Bool) (di : Nat → Int32) (os : Nat → Bool) (ob : Nat → Int32) (od : Nat → Int32) (on : Nat → Int32) (pg : Nat → Int32) (tm : Nat → Int32) (ts : Nat → Int32) (tr : Nat → Int32) (ki : Nat → Int32) (mo : Nat → Int32) (po : Nat → Int32) (sr : Nat → Int32) (ld : Nat → Int32) (st : Bool) (ow : Int32) (nu : Int32) (go : Bool) (la : Int32) (so : Int32) (se : Int32) (sl : Int32) (sp : Int32) (tp : Bool) (rd : Bool) (pn : Int32) (h0 : Nat) (hh : h0 < 2) : Cti l y_M_runs ws_M_runs { frames := 0, cells := 0, slots := 0, locals := 0 } D vwCl (TYS cT) [.ref (ad 0), .int (nI h0)] (MW ad cT im me ro up ho di os ob od on pg tm ts tr ki mo po sr ld st ow nu go la so se sl sp tp rd pn) (fun (v : Int32) (u : Unit) => F_M_runs up ho st ow h0 = (v, u)) (fun (u : Unit) => MW ad cT im me ro up ho di os ob od on pg tm ts tr ki mo po sr ld st ow nu go la so se sl sp tp rd pn) 0 0 := by
  refine x_inz (cc := b_M_runs) (maxL := 2) (by decide) rfl (Nat.le_of_ble_eq_true rfl) ?_
  intro p e s m args below meth c A ls Q F hl hw ret
  have hl : lv_has ls 2 [(0, .ref (ad 0)), (1, .int (nI h0))] := hl
  refine lv_aload_n (pc := 0) F.1 F.2.1 d_M_runs_0 rfl (lv_at hl 0 rfl) ?_
  refine x_get (pc := 1) (v := .ref (ad 4)) F hw 0 3 (fun x h => List.mem_cons_of_mem _ (in_M x h)) rfl rfl (by decide) (List.mem_cons_of_mem _ m_526) rfl d_M_runs_1 ?_
  refine lv_iload_n (pc := 4) F.1 F.2.1 d_M_runs_4 rfl (lv_at hl 1 rfl) ?_
  refine x_zaldB (pc := 5) F hw 4 1 (h0) rfl rfl rfl (by omega) (by decide) d_M_runs_5 ?_
  refine x_ifeqB (pc := 6) (tgt := 37) F d_M_runs_6 rfl (fun h1 => ?_) (fun h1 => ?_)
  · refine lv_iconst (pc := 37) (v := 0) F.1 F.2.1 d_M_runs_37 (by decide) ?_
    refine W.widen (k := 0) (n := 0) (by decide) (by decide) ?_
    exact ret 0 () _ _ 38 _ rfl (by unfold F_M_runs <;> rw [if_neg h1] <;> rfl) hw d_M_runs_38
  · refine lv_aload_n (pc := 9) F.1 F.2.1 d_M_runs_9 rfl (lv_at hl 0 rfl) ?_
    refine x_get (pc := 10) (v := .ref (ad 5)) F hw 0 4 (fun x h => List.mem_cons_of_mem _ (in_M x h)) rfl rfl (by decide) (List.mem_cons_of_mem _ m_527) rfl d_M_runs_10 ?_
    refine lv_iload_n (pc := 13) F.1 F.2.1 d_M_runs_13 rfl (lv_at hl 1 rfl) ?_
    refine x_zaldB (pc := 14) F hw 5 1 (h0) rfl rfl rfl (by omega) (by decide) d_M_runs_14 ?_
    refine x_ifeqB (pc := 15) (tgt := 37) F d_M_runs_15 rfl (fun h2 => ?_) (fun h2 => ?_)
    · refine lv_iconst (pc := 37) (v := 0) F.1 F.2.1 d_M_runs_37 (by decide) ?_
      refine W.widen (k := 0) (n := 0) (by decide) (by decide) ?_
      exact ret 0 () _ _ 38 _ rfl (by unfold F_M_runs <;> rw [if_pos h1] <;> rw [if_neg h2] <;> rfl) hw d_M_runs_38
    · refine lv_aload_n (pc := 18) F.1 F.2.1 d_M_runs_18 rfl (lv_at hl 0 rfl) ?_
      refine x_get (pc := 19) (v := .int ow) F hw 0 7 (fun x h => List.mem_cons_of_mem _ (in_M x h)) rfl rfl (by decide) (List.mem_cons_of_mem _ m_530) rfl d_M_runs_19 ?_
      refine lv_iload_n (pc := 22) F.1 F.2.1 d_M_runs_22 rfl (lv_at hl 1 rfl) ?_
      refine lv_icmp_ne (pc := 23) (tgt := 37) F.1 F.2.1 d_M_runs_23 rfl (fun h3 => ?_) (fun h3 => ?_)
      · refine lv_iconst (pc := 37) (v := 0) F.1 F.2.1 d_M_runs_37 (by decide) ?_
        refine W.widen (k := 0) (n := 0) (by decide) (by decide) ?_
        exact ret 0 () _ _ 38 _ rfl (by unfold F_M_runs <;> rw [if_pos h1] <;> rw [if_pos h2] <;> rw [if_neg h3] <;> rfl) hw d_M_runs_38
      · refine lv_aload_n (pc := 26) F.1 F.2.1 d_M_runs_26 rfl (lv_at hl 0 rfl) ?_
        refine x_get (pc := 27) (v := .int (bI st)) F hw 0 5 (fun x h => List.mem_cons_of_mem _ (in_M x h)) rfl rfl (by decide) (List.mem_cons_of_mem _ m_528) rfl d_M_runs_27 ?_
        refine x_ifneB (pc := 30) (tgt := 37) F d_M_runs_30 rfl (fun h4 => ?_) (fun h4 => ?_)
        · refine lv_iconst (pc := 37) (v := 0) F.1 F.2.1 d_M_runs_37 (by decide) ?_
          refine W.widen (k := 0) (n := 0) (by decide) (by decide) ?_
          exact ret 0 () _ _ 38 _ rfl (by unfold F_M_runs <;> rw [if_pos h1] <;> rw [if_pos h2] <;> rw [if_pos h3] <;> rw [if_pos h4] <;> rfl) hw d_M_runs_38
        · refine lv_iconst (pc := 33) (v := 1) F.1 F.2.1 d_M_runs_33 (by decide) ?_
          refine lv_goto (pc := 34) (tgt := 38) F.1 F.2.1 d_M_runs_34 rfl ?_
          refine W.widen (k := 0) (n := 0) (by decide) (by decide) ?_
          exact ret 1 () _ _ 38 _ rfl (by unfold F_M_runs <;> rw [if_pos h1] <;> rw [if_pos h2] <;> rw [if_pos h3] <;> rw [if_neg h4] <;> rfl) hw d_M_runs_38
theorem runs_ho {up ho : Nat → Bool} {st : Bool} {ow r : Int32} {h0 : Nat} {u : Unit} (e : F_M_runs up ho st ow h0 = (r, u)) (hr : ¬ r = 0) : ho h0 = true := by
  unfold F_M_runs at e
  by_cases h1 : up h0 = true
  · rw [if_pos h1] at e
    by_cases h2 : ho h0 = true
    · exact h2
    · rw [if_neg h2] at e
      cases e
      exact absurd rfl hr
  · rw [if_neg h1] at e
    cases e
    exact absurd rfl hr
def F_M_image (im : Nat → Int32) (i : Int32) (x : Int32) : Int32 × (Nat → Int32) :=
  if i < 0 then
    (0, im)
  else
    if i ≤ 63 then
      (1, upd im (tN i) x)
    else
      (0, im)
set_option maxHeartbeats 4000000 in
set_option maxRecDepth 100000 in
theorem c_M_image (l : Launch) (D : va_G) (cT : Nat → ClassId) (ad : Nat → Nat) (im : Nat → Int32) (me : Nat → Int32) (ro : Nat → Int32) (up : Nat → Bool) (ho : Nat → Bool) (di : Nat → Int32) (os : Nat → Bool) (ob : Nat → Int32) (od : Nat → Int32) (on : Nat → Int32) (pg : Nat → Int32) (tm : Nat → Int32) (ts : Nat → Int32) (tr : Nat → Int32) (ki : Nat → Int32) (mo : Nat → Int32) (po : Nat → Int32) (sr : Nat → Int32) (ld : Nat → Int32) (st : Bool) (ow : Int32) (nu : Int32) (go : Bool) (la : Int32) (so : Int32) (se : Int32) (sl : Int32) (sp : Int32) (tp : Bool) (rd : Bool) (pn : Int32) (i : Int32) (x : Int32)  : Cti l y_M_image ws_M_image { frames := 0, cells := 0, slots := 0, locals := 0 } D vwCl (TYS cT) [.ref (ad 0), .int i, .int x] (MW ad cT im me ro up ho di os ob od on pg tm ts tr ki mo po sr ld st ow nu go la so se sl sp tp rd pn) (fun (v : Int32) (u : (Nat → Int32)) => F_M_image im i x = (v, u)) (fun (u : (Nat → Int32)) => MW ad cT u me ro up ho di os ob od on pg tm ts tr ki mo po sr ld st ow nu go la so se sl sp tp rd pn) 0 0 := by
  refine x_inz (cc := b_M_image) (maxL := 3) (by decide) rfl (Nat.le_of_ble_eq_true rfl) ?_
  intro p e s m args below meth c A ls Q F hl hw ret
  have hl : lv_has ls 3 [(0, .ref (ad 0)), (1, .int i), (2, .int x)] := hl
  refine lv_iload_n (pc := 0) F.1 F.2.1 d_M_image_0 rfl (lv_at hl 1 rfl) ?_
  refine lv_if_lt (pc := 1) (tgt := 10) F.1 F.2.1 d_M_image_1 rfl (fun h1 => ?_) (fun h1 => ?_)
  · refine lv_iconst (pc := 10) (v := 0) F.1 F.2.1 d_M_image_10 (by decide) ?_
    refine W.widen (k := 0) (n := 0) (by decide) (by decide) ?_
    exact ret 0 im _ _ 11 _ rfl (by unfold F_M_image <;> rw [if_pos h1] <;> rfl) hw d_M_image_11
  · refine lv_iload_n (pc := 4) F.1 F.2.1 d_M_image_4 rfl (lv_at hl 1 rfl) ?_
    refine lv_bipush (pc := 5) (v := 63) F.1 F.2.1 d_M_image_5 (by decide) ?_
    refine lv_icmp_le (pc := 7) (tgt := 12) F.1 F.2.1 d_M_image_7 rfl (fun h2 => ?_) (fun h2 => ?_)
    · have ni := isN_le h1 (y := 63) (b := 63) rfl h2
      have nib := ni.2
      refine lv_aload_n (pc := 12) F.1 F.2.1 d_M_image_12 rfl (lv_at hl 0 rfl) ?_
      refine x_get (pc := 13) (v := .ref (ad 1)) F hw 0 0 (fun x h => List.mem_cons_of_mem _ (in_M x h)) rfl rfl (by decide) (List.mem_cons_of_mem _ m_523) rfl d_M_image_13 ?_
      refine lv_iload_n (pc := 16) F.1 F.2.1 d_M_image_16 rfl (lv_at hl 1 rfl) ?_
      refine x_top (y := nI (tN i)) ni.1 ?_
      refine lv_iload_n (pc := 17) F.1 F.2.1 d_M_image_17 rfl (lv_at hl 2 rfl) ?_
      refine x_iast (pc := 18) (ws' := MW ad cT (upd im (tN i) x) me ro up ho di os ob od on pg tm ts tr ki mo po sr ld st ow nu go la so se sl sp tp rd pn) F hw 1 0 (tN i) rfl rfl rfl (by omega) (by decide) d_M_image_18 rfl (fun H locs hw => ?_)
      refine lv_iconst (pc := 19) (v := 1) F.1 F.2.1 d_M_image_19 (by decide) ?_
      refine W.widen (k := 0) (n := 0) (by decide) (by decide) ?_
      exact ret 1 (upd im (tN i) x) _ _ 20 _ rfl (by unfold F_M_image <;> rw [if_neg h1] <;> rw [if_pos h2] <;> rfl) hw d_M_image_20
    · refine lv_iconst (pc := 10) (v := 0) F.1 F.2.1 d_M_image_10 (by decide) ?_
      refine W.widen (k := 0) (n := 0) (by decide) (by decide) ?_
      exact ret 0 im _ _ 11 _ rfl (by unfold F_M_image <;> rw [if_neg h1] <;> rw [if_neg h2] <;> rfl) hw d_M_image_11
def F_M_order (ro : Nat → Int32) (os : Nat → Bool) (ob : Nat → Int32) (od : Nat → Int32) (on : Nat → Int32) (nu : Int32) (h0 : Nat) : (Nat → Bool) × (Nat → Int32) × (Nat → Int32) × (Nat → Int32) :=
  (va_up os h0 true, upd ob h0 (ro (60 * h0 + 57)), upd od h0 (ro (60 * h0 + 58)), upd on h0 nu)
set_option maxHeartbeats 4000000 in
set_option maxRecDepth 100000 in
theorem c_M_order (l : Launch) (D : va_G) (cT : Nat → ClassId) (ad : Nat → Nat) (im : Nat → Int32) (me : Nat → Int32) (ro : Nat → Int32) (up : Nat → Bool) (ho : Nat → Bool) (di : Nat → Int32) (os : Nat → Bool) (ob : Nat → Int32) (od : Nat → Int32) (on : Nat → Int32) (pg : Nat → Int32) (tm : Nat → Int32) (ts : Nat → Int32) (tr : Nat → Int32) (ki : Nat → Int32) (mo : Nat → Int32) (po : Nat → Int32) (sr : Nat → Int32) (ld : Nat → Int32) (st : Bool) (ow : Int32) (nu : Int32) (go : Bool) (la : Int32) (so : Int32) (se : Int32) (sl : Int32) (sp : Int32) (tp : Bool) (rd : Bool) (pn : Int32) (h0 : Nat) (hh : h0 < 2) : Ctv l y_M_order ws_M_order { frames := 0, cells := 0, slots := 0, locals := 0 } D vwCl (TYS cT) [.ref (ad 0), .int (nI h0)] (MW ad cT im me ro up ho di os ob od on pg tm ts tr ki mo po sr ld st ow nu go la so se sl sp tp rd pn) (fun (u : (Nat → Bool) × (Nat → Int32) × (Nat → Int32) × (Nat → Int32)) => F_M_order ro os ob od on nu h0 = u) (fun (u : (Nat → Bool) × (Nat → Int32) × (Nat → Int32) × (Nat → Int32)) => MW ad cT im me ro up ho di u.1 u.2.1 u.2.2.1 u.2.2.2 pg tm ts tr ki mo po sr ld st ow nu go la so se sl sp tp rd pn) 0 0 := by
  refine x_inv (cc := b_M_order) (maxL := 2) (by decide) rfl (Nat.le_of_ble_eq_true rfl) ?_
  intro p e s m args below meth c A ls Q F hin hl hw ret
  have hl : lv_has ls 2 [(0, .ref (ad 0)), (1, .int (nI h0))] := hl
  refine lv_aload_n (pc := 0) F.1 F.2.1 d_M_order_0 rfl (lv_at hl 0 rfl) ?_
  refine x_get (pc := 1) (v := .ref (ad 7)) F hw 0 9 (fun x h => List.mem_cons_of_mem _ (in_M x h)) rfl rfl (by decide) (List.mem_cons_of_mem _ m_532) rfl d_M_order_1 ?_
  refine lv_iload_n (pc := 4) F.1 F.2.1 d_M_order_4 rfl (lv_at hl 1 rfl) ?_
  refine lv_iconst (pc := 5) (v := 1) F.1 F.2.1 d_M_order_5 (by decide) ?_
  refine x_zastB (pc := 6) (b := true) (ws' := MW ad cT im me ro up ho di (va_up os h0 true) ob od on pg tm ts tr ki mo po sr ld st ow nu go la so se sl sp tp rd pn) F hw 7 1 (h0) rfl rfl rfl (by omega) (by decide) d_M_order_6 rfl (fun H locs hw => ?_)
  refine lv_aload_n (pc := 7) F.1 F.2.1 d_M_order_7 rfl (lv_at hl 0 rfl) ?_
  refine x_get (pc := 8) (v := .ref (ad 8)) F hw 0 10 (fun x h => List.mem_cons_of_mem _ (in_M x h)) rfl rfl (by decide) (List.mem_cons_of_mem _ m_533) rfl d_M_order_8 ?_
  refine lv_iload_n (pc := 11) F.1 F.2.1 d_M_order_11 rfl (lv_at hl 1 rfl) ?_
  refine lv_aload_n (pc := 12) F.1 F.2.1 d_M_order_12 rfl (lv_at hl 0 rfl) ?_
  refine x_get (pc := 13) (v := .ref (ad 3)) F hw 0 2 (fun x h => List.mem_cons_of_mem _ (in_M x h)) rfl rfl (by decide) (List.mem_cons_of_mem _ m_525) rfl d_M_order_13 ?_
  refine lv_bipush (pc := 16) (v := 60) F.1 F.2.1 d_M_order_16 (by decide) ?_
  refine lv_iload_n (pc := 18) F.1 F.2.1 d_M_order_18 rfl (lv_at hl 1 rfl) ?_
  refine lv_imul (pc := 19) F.1 F.2.1 d_M_order_19 ?_
  refine x_top (y := nI (60 * h0)) (x_mul2 rfl rfl) ?_
  refine lv_bipush (pc := 20) (v := 57) F.1 F.2.1 d_M_order_20 (by decide) ?_
  refine lv_iadd (pc := 22) F.1 F.2.1 d_M_order_22 ?_
  refine x_top (y := nI (60 * h0 + 57)) (x_add2 rfl rfl) ?_
  refine x_iald (pc := 23) F hw 3 0 (60 * h0 + 57) rfl rfl rfl (by omega) (by decide) d_M_order_23 ?_
  refine x_iast (pc := 24) (ws' := MW ad cT im me ro up ho di (va_up os h0 true) (upd ob h0 (ro (60 * h0 + 57))) od on pg tm ts tr ki mo po sr ld st ow nu go la so se sl sp tp rd pn) F hw 8 0 (h0) rfl rfl rfl (by omega) (by decide) d_M_order_24 rfl (fun H locs hw => ?_)
  refine lv_aload_n (pc := 25) F.1 F.2.1 d_M_order_25 rfl (lv_at hl 0 rfl) ?_
  refine x_get (pc := 26) (v := .ref (ad 9)) F hw 0 11 (fun x h => List.mem_cons_of_mem _ (in_M x h)) rfl rfl (by decide) (List.mem_cons_of_mem _ m_534) rfl d_M_order_26 ?_
  refine lv_iload_n (pc := 29) F.1 F.2.1 d_M_order_29 rfl (lv_at hl 1 rfl) ?_
  refine lv_aload_n (pc := 30) F.1 F.2.1 d_M_order_30 rfl (lv_at hl 0 rfl) ?_
  refine x_get (pc := 31) (v := .ref (ad 3)) F hw 0 2 (fun x h => List.mem_cons_of_mem _ (in_M x h)) rfl rfl (by decide) (List.mem_cons_of_mem _ m_525) rfl d_M_order_31 ?_
  refine lv_bipush (pc := 34) (v := 60) F.1 F.2.1 d_M_order_34 (by decide) ?_
  refine lv_iload_n (pc := 36) F.1 F.2.1 d_M_order_36 rfl (lv_at hl 1 rfl) ?_
  refine lv_imul (pc := 37) F.1 F.2.1 d_M_order_37 ?_
  refine x_top (y := nI (60 * h0)) (x_mul2 rfl rfl) ?_
  refine lv_bipush (pc := 38) (v := 58) F.1 F.2.1 d_M_order_38 (by decide) ?_
  refine lv_iadd (pc := 40) F.1 F.2.1 d_M_order_40 ?_
  refine x_top (y := nI (60 * h0 + 58)) (x_add2 rfl rfl) ?_
  refine x_iald (pc := 41) F hw 3 0 (60 * h0 + 58) rfl rfl rfl (by omega) (by decide) d_M_order_41 ?_
  refine x_iast (pc := 42) (ws' := MW ad cT im me ro up ho di (va_up os h0 true) (upd ob h0 (ro (60 * h0 + 57))) (upd od h0 (ro (60 * h0 + 58))) on pg tm ts tr ki mo po sr ld st ow nu go la so se sl sp tp rd pn) F hw 9 0 (h0) rfl rfl rfl (by omega) (by decide) d_M_order_42 rfl (fun H locs hw => ?_)
  refine lv_aload_n (pc := 43) F.1 F.2.1 d_M_order_43 rfl (lv_at hl 0 rfl) ?_
  refine x_get (pc := 44) (v := .ref (ad 10)) F hw 0 12 (fun x h => List.mem_cons_of_mem _ (in_M x h)) rfl rfl (by decide) (List.mem_cons_of_mem _ m_535) rfl d_M_order_44 ?_
  refine lv_iload_n (pc := 47) F.1 F.2.1 d_M_order_47 rfl (lv_at hl 1 rfl) ?_
  refine lv_aload_n (pc := 48) F.1 F.2.1 d_M_order_48 rfl (lv_at hl 0 rfl) ?_
  refine x_get (pc := 49) (v := .int nu) F hw 0 8 (fun x h => List.mem_cons_of_mem _ (in_M x h)) rfl rfl (by decide) (List.mem_cons_of_mem _ m_531) rfl d_M_order_49 ?_
  refine x_iast (pc := 52) (ws' := MW ad cT im me ro up ho di (va_up os h0 true) (upd ob h0 (ro (60 * h0 + 57))) (upd od h0 (ro (60 * h0 + 58))) (upd on h0 nu) pg tm ts tr ki mo po sr ld st ow nu go la so se sl sp tp rd pn) F hw 10 0 (h0) rfl rfl rfl (by omega) (by decide) d_M_order_52 rfl (fun H locs hw => ?_)
  refine W.widen (k := 0) (n := 0) (by decide) (by decide) ?_
  exact ret (va_up os h0 true, upd ob h0 (ro (60 * h0 + 57)), upd od h0 (ro (60 * h0 + 58)), upd on h0 nu) _ _ 53 _ (by unfold F_M_order <;> rfl) hw d_M_order_53
def F_M_tick (ro : Nat → Int32) (r0 : Nat) : (Nat → Int32) :=
  if (ro (r0 + 5)) = 0 then
    ro
  else
    if ((upd ro (r0 + 5) ((ro (r0 + 5)) - 1)) (r0 + 5)) ≤ 0 then
      upd (upd (upd ro (r0 + 5) ((ro (r0 + 5)) - 1)) (r0 + 3) ((upd ro (r0 + 5) ((ro (r0 + 5)) - 1)) (r0 + 4))) (r0 + 4) 56
    else
      upd ro (r0 + 5) ((ro (r0 + 5)) - 1)
set_option maxHeartbeats 4000000 in
set_option maxRecDepth 100000 in
theorem c_M_tick (l : Launch) (D : va_G) (cT : Nat → ClassId) (ad : Nat → Nat) (im : Nat → Int32) (me : Nat → Int32) (ro : Nat → Int32) (up : Nat → Bool) (ho : Nat → Bool) (di : Nat → Int32) (os : Nat → Bool) (ob : Nat → Int32) (od : Nat → Int32) (on : Nat → Int32) (pg : Nat → Int32) (tm : Nat → Int32) (ts : Nat → Int32) (tr : Nat → Int32) (ki : Nat → Int32) (mo : Nat → Int32) (po : Nat → Int32) (sr : Nat → Int32) (ld : Nat → Int32) (st : Bool) (ow : Int32) (nu : Int32) (go : Bool) (la : Int32) (so : Int32) (se : Int32) (sl : Int32) (sp : Int32) (tp : Bool) (rd : Bool) (pn : Int32) (r0 : Nat) (hr : r0 ≤ 60) : Ctv l y_M_tick ws_M_tick { frames := 0, cells := 0, slots := 0, locals := 0 } D vwCl (TYS cT) [.ref (ad 0), .int (nI r0)] (MW ad cT im me ro up ho di os ob od on pg tm ts tr ki mo po sr ld st ow nu go la so se sl sp tp rd pn) (fun (u : (Nat → Int32)) => F_M_tick ro r0 = u) (fun (u : (Nat → Int32)) => MW ad cT im me u up ho di os ob od on pg tm ts tr ki mo po sr ld st ow nu go la so se sl sp tp rd pn) 0 0 := by
  refine x_inv (cc := b_M_tick) (maxL := 2) (by decide) rfl (Nat.le_of_ble_eq_true rfl) ?_
  intro p e s m args below meth c A ls Q F hin hl hw ret
  have hl : lv_has ls 2 [(0, .ref (ad 0)), (1, .int (nI r0))] := hl
  refine lv_aload_n (pc := 0) F.1 F.2.1 d_M_tick_0 rfl (lv_at hl 0 rfl) ?_
  refine x_get (pc := 1) (v := .ref (ad 3)) F hw 0 2 (fun x h => List.mem_cons_of_mem _ (in_M x h)) rfl rfl (by decide) (List.mem_cons_of_mem _ m_525) rfl d_M_tick_1 ?_
  refine lv_iload_n (pc := 4) F.1 F.2.1 d_M_tick_4 rfl (lv_at hl 1 rfl) ?_
  refine lv_iconst (pc := 5) (v := 5) F.1 F.2.1 d_M_tick_5 (by decide) ?_
  refine lv_iadd (pc := 6) F.1 F.2.1 d_M_tick_6 ?_
  refine x_top (y := nI (r0 + 5)) (x_add2 rfl rfl) ?_
  refine x_iald (pc := 7) F hw 3 0 (r0 + 5) rfl rfl rfl (by omega) (by decide) d_M_tick_7 ?_
  refine lv_if_ne (pc := 8) (tgt := 12) F.1 F.2.1 d_M_tick_8 rfl (fun h1 => ?_) (fun h1 => ?_)
  · refine lv_aload_n (pc := 12) F.1 F.2.1 d_M_tick_12 rfl (lv_at hl 0 rfl) ?_
    refine x_get (pc := 13) (v := .ref (ad 3)) F hw 0 2 (fun x h => List.mem_cons_of_mem _ (in_M x h)) rfl rfl (by decide) (List.mem_cons_of_mem _ m_525) rfl d_M_tick_13 ?_
    refine lv_iload_n (pc := 16) F.1 F.2.1 d_M_tick_16 rfl (lv_at hl 1 rfl) ?_
    refine lv_iconst (pc := 17) (v := 5) F.1 F.2.1 d_M_tick_17 (by decide) ?_
    refine lv_iadd (pc := 18) F.1 F.2.1 d_M_tick_18 ?_
    refine x_top (y := nI (r0 + 5)) (x_add2 rfl rfl) ?_
    refine lv_dup2_11 (pc := 19) F.1 F.2.1 d_M_tick_19 rfl rfl ?_
    refine x_iald (pc := 20) F hw 3 0 (r0 + 5) rfl rfl rfl (by omega) (by decide) d_M_tick_20 ?_
    refine lv_iconst (pc := 21) (v := 1) F.1 F.2.1 d_M_tick_21 (by decide) ?_
    refine lv_isub (pc := 22) F.1 F.2.1 d_M_tick_22 ?_
    refine x_iast (pc := 23) (ws' := MW ad cT im me (upd ro (r0 + 5) ((ro (r0 + 5)) - 1)) up ho di os ob od on pg tm ts tr ki mo po sr ld st ow nu go la so se sl sp tp rd pn) F hw 3 0 (r0 + 5) rfl rfl rfl (by omega) (by decide) d_M_tick_23 rfl (fun H locs hw => ?_)
    refine lv_aload_n (pc := 24) F.1 F.2.1 d_M_tick_24 rfl (lv_at hl 0 rfl) ?_
    refine x_get (pc := 25) (v := .ref (ad 3)) F hw 0 2 (fun x h => List.mem_cons_of_mem _ (in_M x h)) rfl rfl (by decide) (List.mem_cons_of_mem _ m_525) rfl d_M_tick_25 ?_
    refine lv_iload_n (pc := 28) F.1 F.2.1 d_M_tick_28 rfl (lv_at hl 1 rfl) ?_
    refine lv_iconst (pc := 29) (v := 5) F.1 F.2.1 d_M_tick_29 (by decide) ?_
    refine lv_iadd (pc := 30) F.1 F.2.1 d_M_tick_30 ?_
    refine x_top (y := nI (r0 + 5)) (x_add2 rfl rfl) ?_
    refine x_iald (pc := 31) F hw 3 0 (r0 + 5) rfl rfl rfl (by omega) (by decide) d_M_tick_31 ?_
    refine lv_if_le (pc := 32) (tgt := 36) F.1 F.2.1 d_M_tick_32 rfl (fun h2 => ?_) (fun h2 => ?_)
    · refine lv_aload_n (pc := 36) F.1 F.2.1 d_M_tick_36 rfl (lv_at hl 0 rfl) ?_
      refine x_get (pc := 37) (v := .ref (ad 3)) F hw 0 2 (fun x h => List.mem_cons_of_mem _ (in_M x h)) rfl rfl (by decide) (List.mem_cons_of_mem _ m_525) rfl d_M_tick_37 ?_
      refine lv_iload_n (pc := 40) F.1 F.2.1 d_M_tick_40 rfl (lv_at hl 1 rfl) ?_
      refine lv_iconst (pc := 41) (v := 3) F.1 F.2.1 d_M_tick_41 (by decide) ?_
      refine lv_iadd (pc := 42) F.1 F.2.1 d_M_tick_42 ?_
      refine x_top (y := nI (r0 + 3)) (x_add2 rfl rfl) ?_
      refine lv_aload_n (pc := 43) F.1 F.2.1 d_M_tick_43 rfl (lv_at hl 0 rfl) ?_
      refine x_get (pc := 44) (v := .ref (ad 3)) F hw 0 2 (fun x h => List.mem_cons_of_mem _ (in_M x h)) rfl rfl (by decide) (List.mem_cons_of_mem _ m_525) rfl d_M_tick_44 ?_
      refine lv_iload_n (pc := 47) F.1 F.2.1 d_M_tick_47 rfl (lv_at hl 1 rfl) ?_
      refine lv_iconst (pc := 48) (v := 4) F.1 F.2.1 d_M_tick_48 (by decide) ?_
      refine lv_iadd (pc := 49) F.1 F.2.1 d_M_tick_49 ?_
      refine x_top (y := nI (r0 + 4)) (x_add2 rfl rfl) ?_
      refine x_iald (pc := 50) F hw 3 0 (r0 + 4) rfl rfl rfl (by omega) (by decide) d_M_tick_50 ?_
      refine x_iast (pc := 51) (ws' := MW ad cT im me (upd (upd ro (r0 + 5) ((ro (r0 + 5)) - 1)) (r0 + 3) ((upd ro (r0 + 5) ((ro (r0 + 5)) - 1)) (r0 + 4))) up ho di os ob od on pg tm ts tr ki mo po sr ld st ow nu go la so se sl sp tp rd pn) F hw 3 0 (r0 + 3) rfl rfl rfl (by omega) (by decide) d_M_tick_51 rfl (fun H locs hw => ?_)
      refine lv_aload_n (pc := 52) F.1 F.2.1 d_M_tick_52 rfl (lv_at hl 0 rfl) ?_
      refine x_get (pc := 53) (v := .ref (ad 3)) F hw 0 2 (fun x h => List.mem_cons_of_mem _ (in_M x h)) rfl rfl (by decide) (List.mem_cons_of_mem _ m_525) rfl d_M_tick_53 ?_
      refine lv_iload_n (pc := 56) F.1 F.2.1 d_M_tick_56 rfl (lv_at hl 1 rfl) ?_
      refine lv_iconst (pc := 57) (v := 4) F.1 F.2.1 d_M_tick_57 (by decide) ?_
      refine lv_iadd (pc := 58) F.1 F.2.1 d_M_tick_58 ?_
      refine x_top (y := nI (r0 + 4)) (x_add2 rfl rfl) ?_
      refine lv_bipush (pc := 59) (v := 56) F.1 F.2.1 d_M_tick_59 (by decide) ?_
      refine x_iast (pc := 61) (ws' := MW ad cT im me (upd (upd (upd ro (r0 + 5) ((ro (r0 + 5)) - 1)) (r0 + 3) ((upd ro (r0 + 5) ((ro (r0 + 5)) - 1)) (r0 + 4))) (r0 + 4) 56) up ho di os ob od on pg tm ts tr ki mo po sr ld st ow nu go la so se sl sp tp rd pn) F hw 3 0 (r0 + 4) rfl rfl rfl (by omega) (by decide) d_M_tick_61 rfl (fun H locs hw => ?_)
      refine W.widen (k := 0) (n := 0) (by decide) (by decide) ?_
      exact ret (upd (upd (upd ro (r0 + 5) ((ro (r0 + 5)) - 1)) (r0 + 3) ((upd ro (r0 + 5) ((ro (r0 + 5)) - 1)) (r0 + 4))) (r0 + 4) 56) _ _ 62 _ (by unfold F_M_tick <;> rw [if_neg h1] <;> rw [if_pos h2] <;> rfl) hw d_M_tick_62
    · refine W.widen (k := 0) (n := 0) (by decide) (by decide) ?_
      exact ret (upd ro (r0 + 5) ((ro (r0 + 5)) - 1)) _ _ 35 _ (by unfold F_M_tick <;> rw [if_neg h1] <;> rw [if_neg h2] <;> rfl) hw d_M_tick_35
  · refine W.widen (k := 0) (n := 0) (by decide) (by decide) ?_
    exact ret ro _ _ 11 _ (by unfold F_M_tick <;> rw [if_pos h1] <;> rfl) hw d_M_tick_11
def F_M_end  : Bool × Bool × Bool × Bool :=
  (false, false, false, false)
set_option maxHeartbeats 4000000 in
set_option maxRecDepth 100000 in
theorem c_M_end (l : Launch) (D : va_G) (cT : Nat → ClassId) (ad : Nat → Nat) (im : Nat → Int32) (me : Nat → Int32) (ro : Nat → Int32) (up : Nat → Bool) (ho : Nat → Bool) (di : Nat → Int32) (os : Nat → Bool) (ob : Nat → Int32) (od : Nat → Int32) (on : Nat → Int32) (pg : Nat → Int32) (tm : Nat → Int32) (ts : Nat → Int32) (tr : Nat → Int32) (ki : Nat → Int32) (mo : Nat → Int32) (po : Nat → Int32) (sr : Nat → Int32) (ld : Nat → Int32) (st : Bool) (ow : Int32) (nu : Int32) (go : Bool) (la : Int32) (so : Int32) (se : Int32) (sl : Int32) (sp : Int32) (tp : Bool) (rd : Bool) (pn : Int32)  : Ctv l y_M_end ws_M_end { frames := 0, cells := 0, slots := 0, locals := 0 } D vwCl (TYS cT) [.ref (ad 0)] (MW ad cT im me ro up ho di os ob od on pg tm ts tr ki mo po sr ld st ow nu go la so se sl sp tp rd pn) (fun (u : Bool × Bool × Bool × Bool) => F_M_end = u) (fun (u : Bool × Bool × Bool × Bool) => MW ad cT im me ro up ho di os ob od on pg tm ts tr ki mo po sr ld u.1 ow nu u.2.1 la so se sl sp u.2.2.1 u.2.2.2 pn) 0 0 := by
  refine x_inv (cc := b_M_end) (maxL := 1) (by decide) rfl (Nat.le_of_ble_eq_true rfl) ?_
  intro p e s m args below meth c A ls Q F hin hl hw ret
  have hl : lv_has ls 1 [(0, .ref (ad 0))] := hl
  refine lv_aload_n (pc := 0) F.1 F.2.1 d_M_end_0 rfl (lv_at hl 0 rfl) ?_
  refine lv_iconst (pc := 1) (v := 0) F.1 F.2.1 d_M_end_1 (by decide) ?_
  refine x_put (pc := 2) (v := .int (bI false)) (ty := .boolean) (ws' := MW ad cT im me ro up ho di os ob od on pg tm ts tr ki mo po sr ld st ow nu false la so se sl sp tp rd pn) F hw 0 13 (fun x h => List.mem_cons_of_mem _ (in_M x h)) ty_M tyok_M nm_M rfl rfl (by decide) (List.mem_cons_of_mem _ m_536) rfl (by decide +kernel) (bI_nar false) (bI_fit false) (by decide) d_M_end_2 rfl (fun H locs hw => ?_)
  refine lv_aload_n (pc := 5) F.1 F.2.1 d_M_end_5 rfl (lv_at hl 0 rfl) ?_
  refine lv_iconst (pc := 6) (v := 0) F.1 F.2.1 d_M_end_6 (by decide) ?_
  refine x_put (pc := 7) (v := .int (bI false)) (ty := .boolean) (ws' := MW ad cT im me ro up ho di os ob od on pg tm ts tr ki mo po sr ld st ow nu false la so se sl sp false rd pn) F hw 0 20 (fun x h => List.mem_cons_of_mem _ (in_M x h)) ty_M tyok_M nm_M rfl rfl (by decide) (List.mem_cons_of_mem _ m_543) rfl (by decide +kernel) (bI_nar false) (bI_fit false) (by decide) d_M_end_7 rfl (fun H locs hw => ?_)
  refine lv_aload_n (pc := 10) F.1 F.2.1 d_M_end_10 rfl (lv_at hl 0 rfl) ?_
  refine lv_iconst (pc := 11) (v := 0) F.1 F.2.1 d_M_end_11 (by decide) ?_
  refine x_put (pc := 12) (v := .int (bI false)) (ty := .boolean) (ws' := MW ad cT im me ro up ho di os ob od on pg tm ts tr ki mo po sr ld st ow nu false la so se sl sp false false pn) F hw 0 21 (fun x h => List.mem_cons_of_mem _ (in_M x h)) ty_M tyok_M nm_M rfl rfl (by decide) (List.mem_cons_of_mem _ m_544) rfl (by decide +kernel) (bI_nar false) (bI_fit false) (by decide) d_M_end_12 rfl (fun H locs hw => ?_)
  refine lv_aload_n (pc := 15) F.1 F.2.1 d_M_end_15 rfl (lv_at hl 0 rfl) ?_
  refine lv_iconst (pc := 16) (v := 0) F.1 F.2.1 d_M_end_16 (by decide) ?_
  refine x_put (pc := 17) (v := .int (bI false)) (ty := .boolean) (ws' := MW ad cT im me ro up ho di os ob od on pg tm ts tr ki mo po sr ld false ow nu false la so se sl sp false false pn) F hw 0 5 (fun x h => List.mem_cons_of_mem _ (in_M x h)) ty_M tyok_M nm_M rfl rfl (by decide) (List.mem_cons_of_mem _ m_528) rfl (by decide +kernel) (bI_nar false) (bI_fit false) (by decide) d_M_end_17 rfl (fun H locs hw => ?_)
  refine W.widen (k := 0) (n := 0) (by decide) (by decide) ?_
  exact ret (false, false, false, false) _ _ 20 _ (by unfold F_M_end <;> rfl) hw d_M_end_20
def F_M_written (me : Nat → Int32) (pg : Nat → Int32) (go : Bool) (so : Int32) (h0 : Nat) (i0 : Nat) (x : Int32) : (Nat → Int32) × (Nat → Int32) :=
  if go = true then
    if so = (nI h0) then
      (upd me (64 * h0 + i0) x, upd pg (i0 / 8) (-1))
    else
      (upd me (64 * h0 + i0) x, pg)
  else
    (upd me (64 * h0 + i0) x, pg)
set_option maxHeartbeats 4000000 in
set_option maxRecDepth 100000 in
theorem c_M_written (l : Launch) (D : va_G) (cT : Nat → ClassId) (ad : Nat → Nat) (im : Nat → Int32) (me : Nat → Int32) (ro : Nat → Int32) (up : Nat → Bool) (ho : Nat → Bool) (di : Nat → Int32) (os : Nat → Bool) (ob : Nat → Int32) (od : Nat → Int32) (on : Nat → Int32) (pg : Nat → Int32) (tm : Nat → Int32) (ts : Nat → Int32) (tr : Nat → Int32) (ki : Nat → Int32) (mo : Nat → Int32) (po : Nat → Int32) (sr : Nat → Int32) (ld : Nat → Int32) (st : Bool) (ow : Int32) (nu : Int32) (go : Bool) (la : Int32) (so : Int32) (se : Int32) (sl : Int32) (sp : Int32) (tp : Bool) (rd : Bool) (pn : Int32) (h0 : Nat) (i0 : Nat) (x : Int32) (hh : h0 < 2) (hi : i0 < 64) : Ctv l y_M_written ws_M_written { frames := 0, cells := 0, slots := 0, locals := 0 } D vwCl (TYS cT) [.ref (ad 0), .int (nI h0), .int (nI i0), .int x] (MW ad cT im me ro up ho di os ob od on pg tm ts tr ki mo po sr ld st ow nu go la so se sl sp tp rd pn) (fun (u : (Nat → Int32) × (Nat → Int32)) => F_M_written me pg go so h0 i0 x = u) (fun (u : (Nat → Int32) × (Nat → Int32)) => MW ad cT im u.1 ro up ho di os ob od on u.2 tm ts tr ki mo po sr ld st ow nu go la so se sl sp tp rd pn) 0 0 := by
  refine x_inv (cc := b_M_written) (maxL := 4) (by decide) rfl (Nat.le_of_ble_eq_true rfl) ?_
  intro p e s m args below meth c A ls Q F hin hl hw ret
  have hl : lv_has ls 4 [(0, .ref (ad 0)), (1, .int (nI h0)), (2, .int (nI i0)), (3, .int x)] := hl
  refine lv_aload_n (pc := 0) F.1 F.2.1 d_M_written_0 rfl (lv_at hl 0 rfl) ?_
  refine x_get (pc := 1) (v := .ref (ad 2)) F hw 0 1 (fun x h => List.mem_cons_of_mem _ (in_M x h)) rfl rfl (by decide) (List.mem_cons_of_mem _ m_524) rfl d_M_written_1 ?_
  refine lv_bipush (pc := 4) (v := 64) F.1 F.2.1 d_M_written_4 (by decide) ?_
  refine lv_iload_n (pc := 6) F.1 F.2.1 d_M_written_6 rfl (lv_at hl 1 rfl) ?_
  refine lv_imul (pc := 7) F.1 F.2.1 d_M_written_7 ?_
  refine x_top (y := nI (64 * h0)) (x_mul2 rfl rfl) ?_
  refine lv_iload_n (pc := 8) F.1 F.2.1 d_M_written_8 rfl (lv_at hl 2 rfl) ?_
  refine lv_iadd (pc := 9) F.1 F.2.1 d_M_written_9 ?_
  refine x_top (y := nI (64 * h0 + i0)) (x_add2 rfl rfl) ?_
  refine lv_iload_n (pc := 10) F.1 F.2.1 d_M_written_10 rfl (lv_at hl 3 rfl) ?_
  refine x_iast (pc := 11) (ws' := MW ad cT im (upd me (64 * h0 + i0) x) ro up ho di os ob od on pg tm ts tr ki mo po sr ld st ow nu go la so se sl sp tp rd pn) F hw 2 0 (64 * h0 + i0) rfl rfl rfl (by omega) (by decide) d_M_written_11 rfl (fun H locs hw => ?_)
  refine lv_aload_n (pc := 12) F.1 F.2.1 d_M_written_12 rfl (lv_at hl 0 rfl) ?_
  refine x_get (pc := 13) (v := .int (bI go)) F hw 0 13 (fun x h => List.mem_cons_of_mem _ (in_M x h)) rfl rfl (by decide) (List.mem_cons_of_mem _ m_536) rfl d_M_written_13 ?_
  refine x_ifeqB (pc := 16) (tgt := 37) F d_M_written_16 rfl (fun h1 => ?_) (fun h1 => ?_)
  · refine W.widen (k := 0) (n := 0) (by decide) (by decide) ?_
    exact ret (upd me (64 * h0 + i0) x, pg) _ _ 37 _ (by unfold F_M_written <;> rw [if_neg h1] <;> rfl) hw d_M_written_37
  · refine lv_aload_n (pc := 19) F.1 F.2.1 d_M_written_19 rfl (lv_at hl 0 rfl) ?_
    refine x_get (pc := 20) (v := .int so) F hw 0 15 (fun x h => List.mem_cons_of_mem _ (in_M x h)) rfl rfl (by decide) (List.mem_cons_of_mem _ m_538) rfl d_M_written_20 ?_
    refine lv_iload_n (pc := 23) F.1 F.2.1 d_M_written_23 rfl (lv_at hl 1 rfl) ?_
    refine lv_icmp_ne (pc := 24) (tgt := 37) F.1 F.2.1 d_M_written_24 rfl (fun h2 => ?_) (fun h2 => ?_)
    · refine W.widen (k := 0) (n := 0) (by decide) (by decide) ?_
      exact ret (upd me (64 * h0 + i0) x, pg) _ _ 37 _ (by unfold F_M_written <;> rw [if_pos h1] <;> rw [if_neg h2] <;> rfl) hw d_M_written_37
    · refine lv_aload_n (pc := 27) F.1 F.2.1 d_M_written_27 rfl (lv_at hl 0 rfl) ?_
      refine x_get (pc := 28) (v := .ref (ad 11)) F hw 0 16 (fun x h => List.mem_cons_of_mem _ (in_M x h)) rfl rfl (by decide) (List.mem_cons_of_mem _ m_539) rfl d_M_written_28 ?_
      refine lv_iload_n (pc := 31) F.1 F.2.1 d_M_written_31 rfl (lv_at hl 2 rfl) ?_
      refine lv_bipush (pc := 32) (v := 8) F.1 F.2.1 d_M_written_32 (by decide) ?_
      refine lv_idiv (pc := 34) F.1 F.2.1 d_M_written_34 (by decide) ?_
      refine x_top (y := nI (i0 / 8)) (x_div2 rfl rfl (by omega) (by omega) (by omega)) ?_
      refine lv_iconst (pc := 35) (v := (-1)) F.1 F.2.1 d_M_written_35 (by decide) ?_
      refine x_iast (pc := 36) (ws' := MW ad cT im (upd me (64 * h0 + i0) x) ro up ho di os ob od on (upd pg (i0 / 8) (-1)) tm ts tr ki mo po sr ld st ow nu go la so se sl sp tp rd pn) F hw 11 0 (i0 / 8) rfl rfl rfl (by omega) (by decide) d_M_written_36 rfl (fun H locs hw => ?_)
      refine W.widen (k := 0) (n := 0) (by decide) (by decide) ?_
      exact ret (upd me (64 * h0 + i0) x, upd pg (i0 / 8) (-1)) _ _ 37 _ (by unfold F_M_written <;> rw [if_pos h1] <;> rw [if_pos h2] <;> rfl) hw d_M_written_37
def F_M_taken (ro : Nat → Int32) (r0 : Nat) : Int32 × (Nat → Int32) :=
  if (ro (r0 + 6)) = 0 then
    ((-1), ro)
  else
    (ro (r0 + 7), upd (va_cpy ro ro (r0 + 8) (r0 + 7) 7) (r0 + 6) (((va_cpy ro ro (r0 + 8) (r0 + 7) 7) (r0 + 6)) - 1))
set_option maxHeartbeats 4000000 in
set_option maxRecDepth 100000 in
theorem c_M_taken (l : Launch) (D : va_G) (cT : Nat → ClassId) (ad : Nat → Nat) (im : Nat → Int32) (me : Nat → Int32) (ro : Nat → Int32) (up : Nat → Bool) (ho : Nat → Bool) (di : Nat → Int32) (os : Nat → Bool) (ob : Nat → Int32) (od : Nat → Int32) (on : Nat → Int32) (pg : Nat → Int32) (tm : Nat → Int32) (ts : Nat → Int32) (tr : Nat → Int32) (ki : Nat → Int32) (mo : Nat → Int32) (po : Nat → Int32) (sr : Nat → Int32) (ld : Nat → Int32) (st : Bool) (ow : Int32) (nu : Int32) (go : Bool) (la : Int32) (so : Int32) (se : Int32) (sl : Int32) (sp : Int32) (tp : Bool) (rd : Bool) (pn : Int32) (r0 : Nat) (hr : r0 ≤ 60) : Cti l y_M_taken ws_M_taken { frames := 0, cells := 0, slots := 0, locals := 0 } D vwCl (TYS cT) [.ref (ad 0), .int (nI r0)] (MW ad cT im me ro up ho di os ob od on pg tm ts tr ki mo po sr ld st ow nu go la so se sl sp tp rd pn) (fun (v : Int32) (u : (Nat → Int32)) => F_M_taken ro r0 = (v, u)) (fun (u : (Nat → Int32)) => MW ad cT im me u up ho di os ob od on pg tm ts tr ki mo po sr ld st ow nu go la so se sl sp tp rd pn) 0 0 := by
  refine x_ini (cc := b_M_taken) (maxL := 4) (by decide) rfl (Nat.le_of_ble_eq_true rfl) ?_
  intro p e s m args below meth c A ls Q F hl hw ret
  have hl : lv_has ls 4 [(0, .ref (ad 0)), (1, .int (nI r0))] := hl
  refine lv_aload_n (pc := 0) F.1 F.2.1 d_M_taken_0 rfl (lv_at hl 0 rfl) ?_
  refine x_get (pc := 1) (v := .ref (ad 3)) F hw 0 2 (fun x h => List.mem_cons_of_mem _ (in_M x h)) rfl rfl (by decide) (List.mem_cons_of_mem _ m_525) rfl d_M_taken_1 ?_
  refine lv_iload_n (pc := 4) F.1 F.2.1 d_M_taken_4 rfl (lv_at hl 1 rfl) ?_
  refine lv_bipush (pc := 5) (v := 6) F.1 F.2.1 d_M_taken_5 (by decide) ?_
  refine lv_iadd (pc := 7) F.1 F.2.1 d_M_taken_7 ?_
  refine x_top (y := nI (r0 + 6)) (x_add2 rfl rfl) ?_
  refine x_iald (pc := 8) F hw 3 0 (r0 + 6) rfl rfl rfl (by omega) (by decide) d_M_taken_8 ?_
  refine lv_if_ne (pc := 9) (tgt := 14) F.1 F.2.1 d_M_taken_9 rfl (fun h1 => ?_) (fun h1 => ?_)
  · refine lv_aload_n (pc := 14) F.1 F.2.1 d_M_taken_14 rfl (lv_at hl 0 rfl) ?_
    refine x_get (pc := 15) (v := .ref (ad 3)) F hw 0 2 (fun x h => List.mem_cons_of_mem _ (in_M x h)) rfl rfl (by decide) (List.mem_cons_of_mem _ m_525) rfl d_M_taken_15 ?_
    refine lv_iload_n (pc := 18) F.1 F.2.1 d_M_taken_18 rfl (lv_at hl 1 rfl) ?_
    refine lv_bipush (pc := 19) (v := 7) F.1 F.2.1 d_M_taken_19 (by decide) ?_
    refine lv_iadd (pc := 21) F.1 F.2.1 d_M_taken_21 ?_
    refine x_top (y := nI (r0 + 7)) (x_add2 rfl rfl) ?_
    refine x_iald (pc := 22) F hw 3 0 (r0 + 7) rfl rfl rfl (by omega) (by decide) d_M_taken_22 ?_
    refine lv_istore_n (pc := 23) (lv' := [(2, .int (ro (r0 + 7))), (0, .ref (ad 0)), (1, .int (nI r0))]) F.1 F.2.1 d_M_taken_23 rfl hl (by decide) rfl (fun ls hl => ?_)
    refine lv_iconst (pc := 24) (v := 0) F.1 F.2.1 d_M_taken_24 (by decide) ?_
    refine lv_istore_n (pc := 25) (lv' := [(3, .int 0), (2, .int (ro (r0 + 7))), (0, .ref (ad 0)), (1, .int (nI r0))]) F.1 F.2.1 d_M_taken_25 rfl hl (by decide) rfl (fun ls hl => ?_)
    have loop2 : ∀ (kf : Nat) (i : Nat) (ls : Array Slot) (H : Heap) (locs : List Loc), 7 - i = kf → (i ≤ 7) → lv_has ls 4 [(3, .int (nI i)), (2, .int (ro (r0 + 7))), (0, .ref (ad 0)), (1, .int (nI r0))] → Hw D vwCl (TYS cT) A s (MW ad cT im me (va_cpy ro ro (r0 + 8) (r0 + 7) i) up ho di os ob od on pg tm ts tr ki mo po sr ld st ow nu go la so se sl sp tp rd pn) H locs → W p l e { frames := 0, cells := 0, slots := 0, locals := 0 } s m args below meth c H locs 0 0 Q (F0 m 26 ls []) := by
      intro kf
      induction kf using Nat.strongRecOn with
      | _ kf ih2 =>
      intro i ls H locs hk hi hl hw
      refine lv_iload_n (pc := 26) F.1 F.2.1 d_M_taken_26 rfl (lv_at hl 0 rfl) ?_
      refine lv_bipush (pc := 27) (v := 7) F.1 F.2.1 d_M_taken_27 (by decide) ?_
      refine lv_icmp_ge (pc := 29) (tgt := 62) F.1 F.2.1 d_M_taken_29 rfl (fun h3 => ?_) (fun h3 => ?_)
      · have h3 := (nI_leI (a := 7) (b := i) (by omega) (by omega)).mp h3
        obtain rfl : i = 7 := by omega
        refine lv_aload_n (pc := 62) F.1 F.2.1 d_M_taken_62 rfl (lv_at hl 2 rfl) ?_
        refine x_get (pc := 63) (v := .ref (ad 3)) F hw 0 2 (fun x h => List.mem_cons_of_mem _ (in_M x h)) rfl rfl (by decide) (List.mem_cons_of_mem _ m_525) rfl d_M_taken_63 ?_
        refine lv_iload_n (pc := 66) F.1 F.2.1 d_M_taken_66 rfl (lv_at hl 3 rfl) ?_
        refine lv_bipush (pc := 67) (v := 6) F.1 F.2.1 d_M_taken_67 (by decide) ?_
        refine lv_iadd (pc := 69) F.1 F.2.1 d_M_taken_69 ?_
        refine x_top (y := nI (r0 + 6)) (x_add2 rfl rfl) ?_
        refine lv_dup2_11 (pc := 70) F.1 F.2.1 d_M_taken_70 rfl rfl ?_
        refine x_iald (pc := 71) F hw 3 0 (r0 + 6) rfl rfl rfl (by omega) (by decide) d_M_taken_71 ?_
        refine lv_iconst (pc := 72) (v := 1) F.1 F.2.1 d_M_taken_72 (by decide) ?_
        refine lv_isub (pc := 73) F.1 F.2.1 d_M_taken_73 ?_
        refine x_iast (pc := 74) (ws' := MW ad cT im me (upd (va_cpy ro ro (r0 + 8) (r0 + 7) 7) (r0 + 6) (((va_cpy ro ro (r0 + 8) (r0 + 7) 7) (r0 + 6)) - 1)) up ho di os ob od on pg tm ts tr ki mo po sr ld st ow nu go la so se sl sp tp rd pn) F hw 3 0 (r0 + 6) rfl rfl rfl (by omega) (by decide) d_M_taken_74 rfl (fun H locs hw => ?_)
        refine lv_iload_n (pc := 75) F.1 F.2.1 d_M_taken_75 rfl (lv_at hl 1 rfl) ?_
        refine W.widen (k := 0) (n := 0) (by decide) (by decide) ?_
        exact ret (ro (r0 + 7)) (upd (va_cpy ro ro (r0 + 8) (r0 + 7) 7) (r0 + 6) (((va_cpy ro ro (r0 + 8) (r0 + 7) 7) (r0 + 6)) - 1)) _ _ 76 _ (by unfold F_M_taken <;> rw [if_neg h1] <;> rfl) hw d_M_taken_76
      · have h3 : ¬ 7 ≤ i := fun h9 => h3 ((nI_leI (a := 7) (b := i) (by omega) (by omega)).mpr h9)
        refine lv_aload_n (pc := 32) F.1 F.2.1 d_M_taken_32 rfl (lv_at hl 2 rfl) ?_
        refine x_get (pc := 33) (v := .ref (ad 3)) F hw 0 2 (fun x h => List.mem_cons_of_mem _ (in_M x h)) rfl rfl (by decide) (List.mem_cons_of_mem _ m_525) rfl d_M_taken_33 ?_
        refine lv_iload_n (pc := 36) F.1 F.2.1 d_M_taken_36 rfl (lv_at hl 3 rfl) ?_
        refine lv_bipush (pc := 37) (v := 7) F.1 F.2.1 d_M_taken_37 (by decide) ?_
        refine lv_iadd (pc := 39) F.1 F.2.1 d_M_taken_39 ?_
        refine x_top (y := nI (r0 + 7)) (x_add2 rfl rfl) ?_
        refine lv_iload_n (pc := 40) F.1 F.2.1 d_M_taken_40 rfl (lv_at hl 0 rfl) ?_
        refine lv_iadd (pc := 41) F.1 F.2.1 d_M_taken_41 ?_
        refine x_top (y := nI (r0 + 7 + i)) (x_add2 rfl rfl) ?_
        refine lv_aload_n (pc := 42) F.1 F.2.1 d_M_taken_42 rfl (lv_at hl 2 rfl) ?_
        refine x_get (pc := 43) (v := .ref (ad 3)) F hw 0 2 (fun x h => List.mem_cons_of_mem _ (in_M x h)) rfl rfl (by decide) (List.mem_cons_of_mem _ m_525) rfl d_M_taken_43 ?_
        refine lv_iload_n (pc := 46) F.1 F.2.1 d_M_taken_46 rfl (lv_at hl 3 rfl) ?_
        refine lv_bipush (pc := 47) (v := 7) F.1 F.2.1 d_M_taken_47 (by decide) ?_
        refine lv_iadd (pc := 49) F.1 F.2.1 d_M_taken_49 ?_
        refine x_top (y := nI (r0 + 7)) (x_add2 rfl rfl) ?_
        refine lv_iload_n (pc := 50) F.1 F.2.1 d_M_taken_50 rfl (lv_at hl 0 rfl) ?_
        refine lv_iadd (pc := 51) F.1 F.2.1 d_M_taken_51 ?_
        refine x_top (y := nI (r0 + 7 + i)) (x_add2 rfl rfl) ?_
        refine lv_iconst (pc := 52) (v := 1) F.1 F.2.1 d_M_taken_52 (by decide) ?_
        refine lv_iadd (pc := 53) F.1 F.2.1 d_M_taken_53 ?_
        refine x_top (y := nI (r0 + 7 + i + 1)) (x_add2 rfl rfl) ?_
        refine x_iald (pc := 54) F hw 3 0 (r0 + 7 + i + 1) rfl rfl rfl (by omega) (by decide) d_M_taken_54 ?_
        refine x_top (y := ro (r0 + 8 + i)) ((pk_cpy_out (by omega)).trans (congrArg ro (by omega))) ?_
        refine x_iast (pc := 55) (ws' := MW ad cT im me (upd (va_cpy ro ro (r0 + 8) (r0 + 7) i) (r0 + 7 + i) (ro (r0 + 8 + i))) up ho di os ob od on pg tm ts tr ki mo po sr ld st ow nu go la so se sl sp tp rd pn) F hw 3 0 (r0 + 7 + i) rfl rfl rfl (by omega) (by decide) d_M_taken_55 rfl (fun H locs hw => ?_)
        refine lv_iinc (pc := 56) (k := 0) (v := nI (i + 1)) (lv' := [(3, .int (nI (i + 1))), (2, .int (ro (r0 + 7))), (0, .ref (ad 0)), (1, .int (nI r0))]) F.1 F.2.1 d_M_taken_56 hl rfl (x_add2 rfl rfl) (by decide) rfl (fun ls hl => ?_)
        refine lv_goto (pc := 59) (tgt := 26) F.1 F.2.1 d_M_taken_59 rfl ?_
        have ec4 : upd (va_cpy ro ro (r0 + 8) (r0 + 7) i) (r0 + 7 + i) (ro (r0 + 8 + i)) = va_cpy ro ro (r0 + 8) (r0 + 7) (i + 1) := cpy_s2 (by omega) (congrArg ro (by omega))
        rw [ec4] at hw
        exact ih2 _ (by omega) (i + 1) _ _ _ rfl (by omega) hl hw
    have hw := hw
    exact loop2 _ 0 _ _ _ rfl (by omega) hl (by rw [cpy_0]; exact hw)
  · refine lv_iconst (pc := 12) (v := (-1)) F.1 F.2.1 d_M_taken_12 (by decide) ?_
    refine W.widen (k := 0) (n := 0) (by decide) (by decide) ?_
    exact ret (-1) ro _ _ 13 _ (by unfold F_M_taken <;> rw [if_pos h1] <;> rfl) hw d_M_taken_13
def F_M_create (im : Nat → Int32) (me : Nat → Int32) (ro : Nat → Int32) (up : Nat → Bool) (ho : Nat → Bool) (ow : Int32) (nu : Int32) (go : Bool) (host : Int32) : Int32 × (Nat → Bool) × (Nat → Int32) × (Nat → Int32) × Int32 × Int32 :=
  match F_M_isHost host with
  | (r2, _) =>
    if r2 = 0 then
      ((-1), (ho, me, ro, ow, nu))
    else
      if up (tN host) = true then
        if ho 0 = true then
          ((-2), (ho, me, ro, ow, nu))
        else
          if ho 1 = true then
            ((-2), (ho, me, ro, ow, nu))
          else
            if go = true then
              ((-2), (ho, me, ro, ow, nu))
            else
              (nu + 1, (va_up ho (tN host) true, va_cpy im me 0 (64 * tN host) 64, va_cpy (fun _ => 0) ro 0 (60 * tN host) 60, nI (tN host), nu + 1))
      else
        ((-2), (ho, me, ro, ow, nu))
set_option maxHeartbeats 4000000 in
set_option maxRecDepth 100000 in
theorem c_M_create (l : Launch) (D : va_G) (cT : Nat → ClassId) (ad : Nat → Nat) (im : Nat → Int32) (me : Nat → Int32) (ro : Nat → Int32) (up : Nat → Bool) (ho : Nat → Bool) (di : Nat → Int32) (os : Nat → Bool) (ob : Nat → Int32) (od : Nat → Int32) (on : Nat → Int32) (pg : Nat → Int32) (tm : Nat → Int32) (ts : Nat → Int32) (tr : Nat → Int32) (ki : Nat → Int32) (mo : Nat → Int32) (po : Nat → Int32) (sr : Nat → Int32) (ld : Nat → Int32) (st : Bool) (ow : Int32) (nu : Int32) (go : Bool) (la : Int32) (so : Int32) (se : Int32) (sl : Int32) (sp : Int32) (tp : Bool) (rd : Bool) (pn : Int32) (host : Int32)  : Cti l y_M_create ws_M_create { frames := 1, cells := 0, slots := 0, locals := 20 } D vwCl (TYS cT) [.ref (ad 0), .int host] (MW ad cT im me ro up ho di os ob od on pg tm ts tr ki mo po sr ld st ow nu go la so se sl sp tp rd pn) (fun (v : Int32) (u : (Nat → Bool) × (Nat → Int32) × (Nat → Int32) × Int32 × Int32) => F_M_create im me ro up ho ow nu go host = (v, u)) (fun (u : (Nat → Bool) × (Nat → Int32) × (Nat → Int32) × Int32 × Int32) => MW ad cT im u.2.1 u.2.2.1 up u.1 di os ob od on pg tm ts tr ki mo po sr ld st u.2.2.2.1 u.2.2.2.2 go la so se sl sp tp rd pn) 0 0 := by
  refine x_ini (cc := b_M_create) (maxL := 3) (by decide) rfl (Nat.le_of_ble_eq_true rfl) ?_
  intro p e s m args below meth c A ls Q F hl hw ret
  have hl : lv_has ls 3 [(0, .ref (ad 0)), (1, .int host)] := hl
  refine lv_iload_n (pc := 0) F.1 F.2.1 d_M_create_0 rfl (lv_at hl 1 rfl) ?_
  refine x_calli (pc := 1) (wr := [(ad 0, .inr (6, [.ref (ad 1), .ref (ad 2), .ref (ad 3), .ref (ad 4), .ref (ad 5), .int (bI st), .ref (ad 6), .int ow, .int nu, .ref (ad 7), .ref (ad 8), .ref (ad 9), .ref (ad 10), .int (bI go), .int la, .int so, .ref (ad 11), .int se, .int sl, .int sp, .int (bI tp), .int (bI rd), .ref (ad 12), .ref (ad 13), .ref (ad 14), .int pn, .ref (ad 15), .ref (ad 16), .ref (ad 17), .ref (ad 18), .ref (ad 19)])), (ad 1, .inl (cT 0, 64, .inl im)), (ad 2, .inl (cT 0, 128, .inl me)), (ad 3, .inl (cT 0, 120, .inl ro)), (ad 4, .inl (cT 1, 2, .inl (fun j => bI (up j)))), (ad 5, .inl (cT 1, 2, .inl (fun j => bI (ho j)))), (ad 6, .inl (cT 0, 8, .inl di)), (ad 7, .inl (cT 1, 2, .inl (fun j => bI (os j)))), (ad 8, .inl (cT 0, 2, .inl ob)), (ad 9, .inl (cT 0, 2, .inl od)), (ad 10, .inl (cT 0, 2, .inl on)), (ad 11, .inl (cT 0, 8, .inl pg)), (ad 12, .inl (cT 0, 64, .inl tm)), (ad 13, .inl (cT 0, 8, .inl ts)), (ad 14, .inl (cT 0, 60, .inl tr)), (ad 15, .inl (cT 0, 9, .inl ki)), (ad 16, .inl (cT 0, 9, .inl mo)), (ad 17, .inl (cT 0, 9, .inl po)), (ad 18, .inl (cT 0, 9, .inl sr)), (ad 19, .inl (cT 0, 540, .inl ld))]) hw [] [0, 1, 2, 3, 4, 5, 6, 7, 8, 9, 10, 11, 12, 13, 14, 15, 16, 17, 18, 19] rfl rfl (by decide) (by decide) (va_runS (As := [.int host]) (rest := []) F (c_M_isHost l D cT host  _) (x_cwS 1 F (g_all y_M_isHost b_M_isHost 1 (some .boolean) (List.mem_cons_of_mem _ m_628)) rfl rfl rfl (F.2.2.2.2 _ (List.mem_cons_of_mem _ m_40)) (F.2.2.2.2 _ (List.mem_cons_of_mem _ m_626)) (F.2.2.2.2 _ (List.mem_cons_of_mem _ m_627)) (by decide +kernel) ⟨by decide, by decide⟩) (hw.preS [] (by decide) rfl) rfl rfl hl.1 rfl (lv_room (Nat.le_of_ble_eq_true rfl)) d_M_create_1 ⟨by decide, by decide⟩) (fun r2 u3 H locs e1 hw => ?_)
  have hw : Hw D vwCl (TYS cT) A s (MW ad cT im me ro up ho di os ob od on pg tm ts tr ki mo po sr ld st ow nu go la so se sl sp tp rd pn) H locs := hw
  refine lv_if_ne (pc := 4) (tgt := 9) F.1 F.2.1 d_M_create_4 rfl (fun h4 => ?_) (fun h4 => ?_)
  · have nh := isHost_nat e1 h4
    have nhb := nh.2
    refine lv_aload_n (pc := 9) F.1 F.2.1 d_M_create_9 rfl (lv_at hl 0 rfl) ?_
    refine x_get (pc := 10) (v := .ref (ad 4)) F hw 0 3 (fun x h => List.mem_cons_of_mem _ (in_M x h)) rfl rfl (by decide) (List.mem_cons_of_mem _ m_526) rfl d_M_create_10 ?_
    refine lv_iload_n (pc := 13) F.1 F.2.1 d_M_create_13 rfl (lv_at hl 1 rfl) ?_
    refine x_top (y := nI (tN host)) nh.1 ?_
    refine x_zaldB (pc := 14) F hw 4 1 (tN host) rfl rfl rfl (by omega) (by decide) d_M_create_14 ?_
    refine x_ifeqB (pc := 15) (tgt := 43) F d_M_create_15 rfl (fun h5 => ?_) (fun h5 => ?_)
    · refine lv_bipush (pc := 43) (v := (-2)) F.1 F.2.1 d_M_create_43 (by decide) ?_
      refine W.widen (k := 0) (n := 0) (by decide) (by decide) ?_
      exact ret (-2) (ho, me, ro, ow, nu) _ _ 45 _ (by unfold F_M_create <;> rw [e1] <;> (try dsimp only) <;> rw [if_neg h4] <;> rw [if_neg h5] <;> rfl) hw d_M_create_45
    · refine lv_aload_n (pc := 18) F.1 F.2.1 d_M_create_18 rfl (lv_at hl 0 rfl) ?_
      refine x_get (pc := 19) (v := .ref (ad 5)) F hw 0 4 (fun x h => List.mem_cons_of_mem _ (in_M x h)) rfl rfl (by decide) (List.mem_cons_of_mem _ m_527) rfl d_M_create_19 ?_
      refine lv_iconst (pc := 22) (v := 0) F.1 F.2.1 d_M_create_22 (by decide) ?_
      refine x_zaldB (pc := 23) F hw 5 1 (0) rfl rfl rfl (by omega) (by decide) d_M_create_23 ?_
      refine x_ifneB (pc := 24) (tgt := 43) F d_M_create_24 rfl (fun h6 => ?_) (fun h6 => ?_)
      · refine lv_bipush (pc := 43) (v := (-2)) F.1 F.2.1 d_M_create_43 (by decide) ?_
        refine W.widen (k := 0) (n := 0) (by decide) (by decide) ?_
        exact ret (-2) (ho, me, ro, ow, nu) _ _ 45 _ (by unfold F_M_create <;> rw [e1] <;> (try dsimp only) <;> rw [if_neg h4] <;> rw [if_pos h5] <;> rw [if_pos h6] <;> rfl) hw d_M_create_45
      · refine lv_aload_n (pc := 27) F.1 F.2.1 d_M_create_27 rfl (lv_at hl 0 rfl) ?_
        refine x_get (pc := 28) (v := .ref (ad 5)) F hw 0 4 (fun x h => List.mem_cons_of_mem _ (in_M x h)) rfl rfl (by decide) (List.mem_cons_of_mem _ m_527) rfl d_M_create_28 ?_
        refine lv_iconst (pc := 31) (v := 1) F.1 F.2.1 d_M_create_31 (by decide) ?_
        refine x_zaldB (pc := 32) F hw 5 1 (1) rfl rfl rfl (by omega) (by decide) d_M_create_32 ?_
        refine x_ifneB (pc := 33) (tgt := 43) F d_M_create_33 rfl (fun h7 => ?_) (fun h7 => ?_)
        · refine lv_bipush (pc := 43) (v := (-2)) F.1 F.2.1 d_M_create_43 (by decide) ?_
          refine W.widen (k := 0) (n := 0) (by decide) (by decide) ?_
          exact ret (-2) (ho, me, ro, ow, nu) _ _ 45 _ (by unfold F_M_create <;> rw [e1] <;> (try dsimp only) <;> rw [if_neg h4] <;> rw [if_pos h5] <;> rw [if_neg h6] <;> rw [if_pos h7] <;> rfl) hw d_M_create_45
        · refine lv_aload_n (pc := 36) F.1 F.2.1 d_M_create_36 rfl (lv_at hl 0 rfl) ?_
          refine x_get (pc := 37) (v := .int (bI go)) F hw 0 13 (fun x h => List.mem_cons_of_mem _ (in_M x h)) rfl rfl (by decide) (List.mem_cons_of_mem _ m_536) rfl d_M_create_37 ?_
          refine x_ifeqB (pc := 40) (tgt := 46) F d_M_create_40 rfl (fun h8 => ?_) (fun h8 => ?_)
          · refine lv_aload_n (pc := 46) F.1 F.2.1 d_M_create_46 rfl (lv_at hl 0 rfl) ?_
            refine x_get (pc := 47) (v := .ref (ad 5)) F hw 0 4 (fun x h => List.mem_cons_of_mem _ (in_M x h)) rfl rfl (by decide) (List.mem_cons_of_mem _ m_527) rfl d_M_create_47 ?_
            refine lv_iload_n (pc := 50) F.1 F.2.1 d_M_create_50 rfl (lv_at hl 1 rfl) ?_
            refine x_top (y := nI (tN host)) nh.1 ?_
            refine lv_iconst (pc := 51) (v := 1) F.1 F.2.1 d_M_create_51 (by decide) ?_
            refine x_zastB (pc := 52) (b := true) (ws' := MW ad cT im me ro up (va_up ho (tN host) true) di os ob od on pg tm ts tr ki mo po sr ld st ow nu go la so se sl sp tp rd pn) F hw 5 1 (tN host) rfl rfl rfl (by omega) (by decide) d_M_create_52 rfl (fun H locs hw => ?_)
            refine lv_iconst (pc := 53) (v := 0) F.1 F.2.1 d_M_create_53 (by decide) ?_
            refine lv_istore_n (pc := 54) (lv' := [(2, .int 0), (0, .ref (ad 0)), (1, .int host)]) F.1 F.2.1 d_M_create_54 rfl hl (by decide) rfl (fun ls hl => ?_)
            have loop9 : ∀ (kf : Nat) (i : Nat) (ls : Array Slot) (H : Heap) (locs : List Loc), 64 - i = kf → (i ≤ 64) → lv_has ls 3 [(2, .int (nI i)), (0, .ref (ad 0)), (1, .int host)] → Hw D vwCl (TYS cT) A s (MW ad cT im (va_cpy im me 0 (64 * tN host) i) ro up (va_up ho (tN host) true) di os ob od on pg tm ts tr ki mo po sr ld st ow nu go la so se sl sp tp rd pn) H locs → W p l e { frames := 1, cells := 0, slots := 0, locals := 20 } s m args below meth c H locs 0 0 Q (F0 m 55 ls []) := by
              intro kf
              induction kf using Nat.strongRecOn with
              | _ kf ih9 =>
              intro i ls H locs hk hi hl hw
              refine lv_iload_n (pc := 55) F.1 F.2.1 d_M_create_55 rfl (lv_at hl 0 rfl) ?_
              refine lv_bipush (pc := 56) (v := 64) F.1 F.2.1 d_M_create_56 (by decide) ?_
              refine lv_icmp_ge (pc := 58) (tgt := 84) F.1 F.2.1 d_M_create_58 rfl (fun h10 => ?_) (fun h10 => ?_)
              · have h10 := (nI_leI (a := 64) (b := i) (by omega) (by omega)).mp h10
                obtain rfl : i = 64 := by omega
                refine lv_iconst (pc := 84) (v := 0) F.1 F.2.1 d_M_create_84 (by decide) ?_
                refine lv_istore_n (pc := 85) (lv' := [(2, .int 0), (0, .ref (ad 0)), (1, .int host)]) F.1 F.2.1 d_M_create_85 rfl hl (by decide) rfl (fun ls hl => ?_)
                have loop11 : ∀ (kf : Nat) (i : Nat) (ls : Array Slot) (H : Heap) (locs : List Loc), 60 - i = kf → (i ≤ 60) → lv_has ls 3 [(2, .int (nI i)), (0, .ref (ad 0)), (1, .int host)] → Hw D vwCl (TYS cT) A s (MW ad cT im (va_cpy im me 0 (64 * tN host) 64) (va_cpy (fun _ => 0) ro 0 (60 * tN host) i) up (va_up ho (tN host) true) di os ob od on pg tm ts tr ki mo po sr ld st ow nu go la so se sl sp tp rd pn) H locs → W p l e { frames := 1, cells := 0, slots := 0, locals := 20 } s m args below meth c H locs 0 0 Q (F0 m 86 ls []) := by
                  intro kf
                  induction kf using Nat.strongRecOn with
                  | _ kf ih11 =>
                  intro i ls H locs hk hi hl hw
                  refine lv_iload_n (pc := 86) F.1 F.2.1 d_M_create_86 rfl (lv_at hl 0 rfl) ?_
                  refine lv_bipush (pc := 87) (v := 60) F.1 F.2.1 d_M_create_87 (by decide) ?_
                  refine lv_icmp_ge (pc := 89) (tgt := 110) F.1 F.2.1 d_M_create_89 rfl (fun h12 => ?_) (fun h12 => ?_)
                  · have h12 := (nI_leI (a := 60) (b := i) (by omega) (by omega)).mp h12
                    obtain rfl : i = 60 := by omega
                    refine lv_aload_n (pc := 110) F.1 F.2.1 d_M_create_110 rfl (lv_at hl 1 rfl) ?_
                    refine lv_iload_n (pc := 111) F.1 F.2.1 d_M_create_111 rfl (lv_at hl 2 rfl) ?_
                    refine x_top (y := nI (tN host)) nh.1 ?_
                    refine x_put (pc := 112) (v := .int (nI (tN host))) (ty := .int) (ws' := MW ad cT im (va_cpy im me 0 (64 * tN host) 64) (va_cpy (fun _ => 0) ro 0 (60 * tN host) 60) up (va_up ho (tN host) true) di os ob od on pg tm ts tr ki mo po sr ld st (nI (tN host)) nu go la so se sl sp tp rd pn) F hw 0 7 (fun x h => List.mem_cons_of_mem _ (in_M x h)) ty_M tyok_M nm_M rfl rfl (by decide) (List.mem_cons_of_mem _ m_530) rfl (by decide +kernel) rfl rfl (by decide) d_M_create_112 rfl (fun H locs hw => ?_)
                    refine lv_aload_n (pc := 115) F.1 F.2.1 d_M_create_115 rfl (lv_at hl 1 rfl) ?_
                    refine lv_dup (pc := 116) F.1 F.2.1 d_M_create_116 rfl ?_
                    refine x_get (pc := 117) (v := .int nu) F hw 0 8 (fun x h => List.mem_cons_of_mem _ (in_M x h)) rfl rfl (by decide) (List.mem_cons_of_mem _ m_531) rfl d_M_create_117 ?_
                    refine lv_iconst (pc := 120) (v := 1) F.1 F.2.1 d_M_create_120 (by decide) ?_
                    refine lv_iadd (pc := 121) F.1 F.2.1 d_M_create_121 ?_
                    refine x_put (pc := 122) (v := .int (nu + 1)) (ty := .int) (ws' := MW ad cT im (va_cpy im me 0 (64 * tN host) 64) (va_cpy (fun _ => 0) ro 0 (60 * tN host) 60) up (va_up ho (tN host) true) di os ob od on pg tm ts tr ki mo po sr ld st (nI (tN host)) (nu + 1) go la so se sl sp tp rd pn) F hw 0 8 (fun x h => List.mem_cons_of_mem _ (in_M x h)) ty_M tyok_M nm_M rfl rfl (by decide) (List.mem_cons_of_mem _ m_531) rfl (by decide +kernel) rfl rfl (by decide) d_M_create_122 rfl (fun H locs hw => ?_)
                    refine lv_aload_n (pc := 125) F.1 F.2.1 d_M_create_125 rfl (lv_at hl 1 rfl) ?_
                    refine x_get (pc := 126) (v := .int (nu + 1)) F hw 0 8 (fun x h => List.mem_cons_of_mem _ (in_M x h)) rfl rfl (by decide) (List.mem_cons_of_mem _ m_531) rfl d_M_create_126 ?_
                    refine W.widen (k := 0) (n := 0) (by decide) (by decide) ?_
                    exact ret (nu + 1) (va_up ho (tN host) true, va_cpy im me 0 (64 * tN host) 64, va_cpy (fun _ => 0) ro 0 (60 * tN host) 60, nI (tN host), nu + 1) _ _ 129 _ (by unfold F_M_create <;> rw [e1] <;> (try dsimp only) <;> rw [if_neg h4] <;> rw [if_pos h5] <;> rw [if_neg h6] <;> rw [if_neg h7] <;> rw [if_neg h8] <;> rfl) hw d_M_create_129
                  · have h12 : ¬ 60 ≤ i := fun h9 => h12 ((nI_leI (a := 60) (b := i) (by omega) (by omega)).mpr h9)
                    refine lv_aload_n (pc := 92) F.1 F.2.1 d_M_create_92 rfl (lv_at hl 1 rfl) ?_
                    refine x_get (pc := 93) (v := .ref (ad 3)) F hw 0 2 (fun x h => List.mem_cons_of_mem _ (in_M x h)) rfl rfl (by decide) (List.mem_cons_of_mem _ m_525) rfl d_M_create_93 ?_
                    refine lv_bipush (pc := 96) (v := 60) F.1 F.2.1 d_M_create_96 (by decide) ?_
                    refine lv_iload_n (pc := 98) F.1 F.2.1 d_M_create_98 rfl (lv_at hl 2 rfl) ?_
                    refine x_top (y := nI (tN host)) nh.1 ?_
                    refine lv_imul (pc := 99) F.1 F.2.1 d_M_create_99 ?_
                    refine x_top (y := nI (60 * tN host)) (x_mul2 rfl rfl) ?_
                    refine lv_iload_n (pc := 100) F.1 F.2.1 d_M_create_100 rfl (lv_at hl 0 rfl) ?_
                    refine lv_iadd (pc := 101) F.1 F.2.1 d_M_create_101 ?_
                    refine x_top (y := nI (60 * tN host + i)) (x_add2 rfl rfl) ?_
                    refine lv_iconst (pc := 102) (v := 0) F.1 F.2.1 d_M_create_102 (by decide) ?_
                    refine x_iast (pc := 103) (ws' := MW ad cT im (va_cpy im me 0 (64 * tN host) 64) (upd (va_cpy (fun _ => 0) ro 0 (60 * tN host) i) (60 * tN host + i) 0) up (va_up ho (tN host) true) di os ob od on pg tm ts tr ki mo po sr ld st ow nu go la so se sl sp tp rd pn) F hw 3 0 (60 * tN host + i) rfl rfl rfl (by omega) (by decide) d_M_create_103 rfl (fun H locs hw => ?_)
                    refine lv_iinc (pc := 104) (k := 0) (v := nI (i + 1)) (lv' := [(2, .int (nI (i + 1))), (0, .ref (ad 0)), (1, .int host)]) F.1 F.2.1 d_M_create_104 hl rfl (x_add2 rfl rfl) (by decide) rfl (fun ls hl => ?_)
                    refine lv_goto (pc := 107) (tgt := 86) F.1 F.2.1 d_M_create_107 rfl ?_
                    have ec13 : upd (va_cpy (fun _ => 0) ro 0 (60 * tN host) i) (60 * tN host + i) 0 = va_cpy (fun _ => 0) ro 0 (60 * tN host) (i + 1) := cpy_s2 (by omega) rfl
                    rw [ec13] at hw
                    exact ih11 _ (by omega) (i + 1) _ _ _ rfl (by omega) hl hw
                have hw := hw
                exact loop11 _ 0 _ _ _ rfl (by omega) hl (by rw [cpy_0]; exact hw)
              · have h10 : ¬ 64 ≤ i := fun h9 => h10 ((nI_leI (a := 64) (b := i) (by omega) (by omega)).mpr h9)
                refine lv_aload_n (pc := 61) F.1 F.2.1 d_M_create_61 rfl (lv_at hl 1 rfl) ?_
                refine x_get (pc := 62) (v := .ref (ad 2)) F hw 0 1 (fun x h => List.mem_cons_of_mem _ (in_M x h)) rfl rfl (by decide) (List.mem_cons_of_mem _ m_524) rfl d_M_create_62 ?_
                refine lv_bipush (pc := 65) (v := 64) F.1 F.2.1 d_M_create_65 (by decide) ?_
                refine lv_iload_n (pc := 67) F.1 F.2.1 d_M_create_67 rfl (lv_at hl 2 rfl) ?_
                refine x_top (y := nI (tN host)) nh.1 ?_
                refine lv_imul (pc := 68) F.1 F.2.1 d_M_create_68 ?_
                refine x_top (y := nI (64 * tN host)) (x_mul2 rfl rfl) ?_
                refine lv_iload_n (pc := 69) F.1 F.2.1 d_M_create_69 rfl (lv_at hl 0 rfl) ?_
                refine lv_iadd (pc := 70) F.1 F.2.1 d_M_create_70 ?_
                refine x_top (y := nI (64 * tN host + i)) (x_add2 rfl rfl) ?_
                refine lv_aload_n (pc := 71) F.1 F.2.1 d_M_create_71 rfl (lv_at hl 1 rfl) ?_
                refine x_get (pc := 72) (v := .ref (ad 1)) F hw 0 0 (fun x h => List.mem_cons_of_mem _ (in_M x h)) rfl rfl (by decide) (List.mem_cons_of_mem _ m_523) rfl d_M_create_72 ?_
                refine lv_iload_n (pc := 75) F.1 F.2.1 d_M_create_75 rfl (lv_at hl 0 rfl) ?_
                refine x_iald (pc := 76) F hw 1 0 (i) rfl rfl rfl (by omega) (by decide) d_M_create_76 ?_
                refine x_iast (pc := 77) (ws' := MW ad cT im (upd (va_cpy im me 0 (64 * tN host) i) (64 * tN host + i) (im i)) ro up (va_up ho (tN host) true) di os ob od on pg tm ts tr ki mo po sr ld st ow nu go la so se sl sp tp rd pn) F hw 2 0 (64 * tN host + i) rfl rfl rfl (by omega) (by decide) d_M_create_77 rfl (fun H locs hw => ?_)
                refine lv_iinc (pc := 78) (k := 0) (v := nI (i + 1)) (lv' := [(2, .int (nI (i + 1))), (0, .ref (ad 0)), (1, .int host)]) F.1 F.2.1 d_M_create_78 hl rfl (x_add2 rfl rfl) (by decide) rfl (fun ls hl => ?_)
                refine lv_goto (pc := 81) (tgt := 55) F.1 F.2.1 d_M_create_81 rfl ?_
                have ec14 : upd (va_cpy im me 0 (64 * tN host) i) (64 * tN host + i) (im i) = va_cpy im me 0 (64 * tN host) (i + 1) := cpy_s2 (by omega) (congrArg im (by omega))
                rw [ec14] at hw
                exact ih9 _ (by omega) (i + 1) _ _ _ rfl (by omega) hl hw
            have hw := hw
            exact loop9 _ 0 _ _ _ rfl (by omega) hl (by rw [cpy_0]; exact hw)
          · refine lv_bipush (pc := 43) (v := (-2)) F.1 F.2.1 d_M_create_43 (by decide) ?_
            refine W.widen (k := 0) (n := 0) (by decide) (by decide) ?_
            exact ret (-2) (ho, me, ro, ow, nu) _ _ 45 _ (by unfold F_M_create <;> rw [e1] <;> (try dsimp only) <;> rw [if_neg h4] <;> rw [if_pos h5] <;> rw [if_neg h6] <;> rw [if_neg h7] <;> rw [if_pos h8] <;> rfl) hw d_M_create_45
  · refine lv_iconst (pc := 7) (v := (-1)) F.1 F.2.1 d_M_create_7 (by decide) ?_
    refine W.widen (k := 0) (n := 0) (by decide) (by decide) ?_
    exact ret (-1) (ho, me, ro, ow, nu) _ _ 8 _ (by unfold F_M_create <;> rw [e1] <;> (try dsimp only) <;> rw [if_pos h4] <;> rfl) hw d_M_create_8
end
