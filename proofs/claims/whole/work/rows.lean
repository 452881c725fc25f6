section
-- ===== PART A: goes FIRST, ahead of the names: the tables' words, and 'selects' of the private methods out of them =====
/-- a private method of a class that the tables say can be made, by its rows of tables_1 -/
def lw_okq (q : MethodName × Nat) : Prop := (q.1.cls ≠ "java/lang/invoke/MethodHandle" ∧ q.1.cls ≠ "java/lang/invoke/VarHandle") ∧ Cond.instantiable q.1.cls q.2 ∈ tables_1 ∧ Cond.privateMethod q.1 ∈ tables_1 ∧ Cond.instanceMethod q.1 ∈ tables_1
theorem lw_p0 : lw_okq (⟨"java/lang/Throwable", "fillInStackTrace", "(I)Ljava/lang/Throwable;"⟩, 6) := ⟨⟨by decide +kernel, by decide +kernel⟩, List.mem_of_getElem? (i := 166) (by decide +kernel), List.mem_of_getElem? (i := 164) (by decide +kernel), List.mem_of_getElem? (i := 165) (by decide +kernel)⟩
theorem lw_p1 : lw_okq (⟨"SalesDesk", "accountAt", "(I)LSalesDesk$Account;"⟩, 7) := ⟨⟨by decide +kernel, by decide +kernel⟩, List.mem_of_getElem? (i := 33) (by decide +kernel), List.mem_of_getElem? (i := 221) (by decide +kernel), List.mem_of_getElem? (i := 222) (by decide +kernel)⟩
theorem lw_p2 : lw_okq (⟨"java/util/ArrayList", "add", "(Ljava/lang/Object;[Ljava/lang/Object;I)V"⟩, 3) := ⟨⟨by decide +kernel, by decide +kernel⟩, List.mem_of_getElem? (i := 41) (by decide +kernel), List.mem_of_getElem? (i := 272) (by decide +kernel), List.mem_of_getElem? (i := 273) (by decide +kernel)⟩
theorem lw_p3 : lw_okq (⟨"java/util/ArrayList", "grow", "()[Ljava/lang/Object;"⟩, 3) := ⟨⟨by decide +kernel, by decide +kernel⟩, List.mem_of_getElem? (i := 41) (by decide +kernel), List.mem_of_getElem? (i := 276) (by decide +kernel), List.mem_of_getElem? (i := 277) (by decide +kernel)⟩
theorem lw_p4 : lw_okq (⟨"java/util/ArrayList", "grow", "(I)[Ljava/lang/Object;"⟩, 3) := ⟨⟨by decide +kernel, by decide +kernel⟩, List.mem_of_getElem? (i := 41) (by decide +kernel), List.mem_of_getElem? (i := 280) (by decide +kernel), List.mem_of_getElem? (i := 281) (by decide +kernel)⟩
theorem lw_p5 : lw_okq (⟨"java/util/ArrayList", "rangeCheckForAdd", "(I)V"⟩, 3) := ⟨⟨by decide +kernel, by decide +kernel⟩, List.mem_of_getElem? (i := 41) (by decide +kernel), List.mem_of_getElem? (i := 365) (by decide +kernel), List.mem_of_getElem? (i := 366) (by decide +kernel)⟩
theorem lw_p6 : lw_okq (⟨"java/util/ArrayList", "outOfBoundsMsg", "(I)Ljava/lang/String;"⟩, 3) := ⟨⟨by decide +kernel, by decide +kernel⟩, List.mem_of_getElem? (i := 41) (by decide +kernel), List.mem_of_getElem? (i := 370) (by decide +kernel), List.mem_of_getElem? (i := 371) (by decide +kernel)⟩
theorem lw_p7 : lw_okq (⟨"java/util/ArrayList", "fastRemove", "([Ljava/lang/Object;I)V"⟩, 3) := ⟨⟨by decide +kernel, by decide +kernel⟩, List.mem_of_getElem? (i := 41) (by decide +kernel), List.mem_of_getElem? (i := 619) (by decide +kernel), List.mem_of_getElem? (i := 620) (by decide +kernel)⟩
theorem lw_p8 : lw_okq (⟨"SalesDesk", "regionNow", "(LSalesDesk$Account;)I"⟩, 7) := ⟨⟨by decide +kernel, by decide +kernel⟩, List.mem_of_getElem? (i := 33) (by decide +kernel), List.mem_of_getElem? (i := 637) (by decide +kernel), List.mem_of_getElem? (i := 638) (by decide +kernel)⟩
theorem lw_p9 : lw_okq (⟨"SalesDesk", "ruledRegion", "(LSalesDesk$Account;)I"⟩, 7) := ⟨⟨by decide +kernel, by decide +kernel⟩, List.mem_of_getElem? (i := 33) (by decide +kernel), List.mem_of_getElem? (i := 641) (by decide +kernel), List.mem_of_getElem? (i := 642) (by decide +kernel)⟩
theorem lw_p10 : lw_okq (⟨"SalesDesk", "sellerAt", "(I)LSalesDesk$Seller;"⟩, 7) := ⟨⟨by decide +kernel, by decide +kernel⟩, List.mem_of_getElem? (i := 33) (by decide +kernel), List.mem_of_getElem? (i := 652) (by decide +kernel), List.mem_of_getElem? (i := 653) (by decide +kernel)⟩
theorem lw_p11 : lw_okq (⟨"SalesDesk", "chanceAt", "(I)LSalesDesk$Chance;"⟩, 7) := ⟨⟨by decide +kernel, by decide +kernel⟩, List.mem_of_getElem? (i := 33) (by decide +kernel), List.mem_of_getElem? (i := 746) (by decide +kernel), List.mem_of_getElem? (i := 747) (by decide +kernel)⟩
theorem lw_p12 : lw_okq (⟨"SalesDesk", "regionFor", "(LSalesDesk$Chance;)I"⟩, 7) := ⟨⟨by decide +kernel, by decide +kernel⟩, List.mem_of_getElem? (i := 33) (by decide +kernel), List.mem_of_getElem? (i := 815) (by decide +kernel), List.mem_of_getElem? (i := 816) (by decide +kernel)⟩
theorem lw_p13 : lw_okq (⟨"SalesDesk", "quoteAt", "(I)LSalesDesk$Quote;"⟩, 7) := ⟨⟨by decide +kernel, by decide +kernel⟩, List.mem_of_getElem? (i := 33) (by decide +kernel), List.mem_of_getElem? (i := 872) (by decide +kernel), List.mem_of_getElem? (i := 873) (by decide +kernel)⟩
theorem lw_p14 : lw_okq (⟨"SalesDesk", "forecastNow", "(LSalesDesk$Seller;)I"⟩, 7) := ⟨⟨by decide +kernel, by decide +kernel⟩, List.mem_of_getElem? (i := 33) (by decide +kernel), List.mem_of_getElem? (i := 915) (by decide +kernel), List.mem_of_getElem? (i := 916) (by decide +kernel)⟩
theorem lw_p15 : lw_okq (⟨"SalesDesk", "ownNow", "(LSalesDesk$Seller;)I"⟩, 7) := ⟨⟨by decide +kernel, by decide +kernel⟩, List.mem_of_getElem? (i := 33) (by decide +kernel), List.mem_of_getElem? (i := 919) (by decide +kernel), List.mem_of_getElem? (i := 920) (by decide +kernel)⟩
def lw_privs_1 : List (MethodName × Nat) := [(⟨"java/lang/Throwable", "fillInStackTrace", "(I)Ljava/lang/Throwable;"⟩, 6), (⟨"SalesDesk", "accountAt", "(I)LSalesDesk$Account;"⟩, 7), (⟨"java/util/ArrayList", "add", "(Ljava/lang/Object;[Ljava/lang/Object;I)V"⟩, 3), (⟨"java/util/ArrayList", "grow", "()[Ljava/lang/Object;"⟩, 3), (⟨"java/util/ArrayList", "grow", "(I)[Ljava/lang/Object;"⟩, 3), (⟨"java/util/ArrayList", "rangeCheckForAdd", "(I)V"⟩, 3), (⟨"java/util/ArrayList", "outOfBoundsMsg", "(I)Ljava/lang/String;"⟩, 3), (⟨"java/util/ArrayList", "fastRemove", "([Ljava/lang/Object;I)V"⟩, 3), (⟨"SalesDesk", "regionNow", "(LSalesDesk$Account;)I"⟩, 7), (⟨"SalesDesk", "ruledRegion", "(LSalesDesk$Account;)I"⟩, 7), (⟨"SalesDesk", "sellerAt", "(I)LSalesDesk$Seller;"⟩, 7), (⟨"SalesDesk", "chanceAt", "(I)LSalesDesk$Chance;"⟩, 7), (⟨"SalesDesk", "regionFor", "(LSalesDesk$Chance;)I"⟩, 7), (⟨"SalesDesk", "quoteAt", "(I)LSalesDesk$Quote;"⟩, 7), (⟨"SalesDesk", "forecastNow", "(LSalesDesk$Seller;)I"⟩, 7), (⟨"SalesDesk", "ownNow", "(LSalesDesk$Seller;)I"⟩, 7)]
theorem lw_r1 : ∀ q ∈ lw_privs_1, lw_okq q := List.forall_mem_cons.mpr ⟨lw_p0, List.forall_mem_cons.mpr ⟨lw_p1, List.forall_mem_cons.mpr ⟨lw_p2, List.forall_mem_cons.mpr ⟨lw_p3, List.forall_mem_cons.mpr ⟨lw_p4, List.forall_mem_cons.mpr ⟨lw_p5, List.forall_mem_cons.mpr ⟨lw_p6, List.forall_mem_cons.mpr ⟨lw_p7, List.forall_mem_cons.mpr ⟨lw_p8, List.forall_mem_cons.mpr ⟨lw_p9, List.forall_mem_cons.mpr ⟨lw_p10, List.forall_mem_cons.mpr ⟨lw_p11, List.forall_mem_cons.mpr ⟨lw_p12, List.forall_mem_cons.mpr ⟨lw_p13, List.forall_mem_cons.mpr ⟨lw_p14, List.forall_mem_cons.mpr ⟨lw_p15, fun _ h => absurd h List.not_mem_nil⟩⟩⟩⟩⟩⟩⟩⟩⟩⟩⟩⟩⟩⟩⟩⟩
theorem lw_p16 : lw_okq (⟨"SalesDeskModel", "goes", "(ZZZ)Z"⟩, 32) := ⟨⟨by decide +kernel, by decide +kernel⟩, List.mem_of_getElem? (i := 958) (by decide +kernel), List.mem_of_getElem? (i := 1073) (by decide +kernel), List.mem_of_getElem? (i := 1074) (by decide +kernel)⟩
theorem lw_p17 : lw_okq (⟨"SalesDeskModel", "isAccount", "(I)Z"⟩, 32) := ⟨⟨by decide +kernel, by decide +kernel⟩, List.mem_of_getElem? (i := 958) (by decide +kernel), List.mem_of_getElem? (i := 1081) (by decide +kernel), List.mem_of_getElem? (i := 1082) (by decide +kernel)⟩
theorem lw_p18 : lw_okq (⟨"SalesDeskModel", "copyRule", "(II)V"⟩, 32) := ⟨⟨by decide +kernel, by decide +kernel⟩, List.mem_of_getElem? (i := 958) (by decide +kernel), List.mem_of_getElem? (i := 1089) (by decide +kernel), List.mem_of_getElem? (i := 1090) (by decide +kernel)⟩
theorem lw_p19 : lw_okq (⟨"SalesDeskModel", "region", "(I)I"⟩, 32) := ⟨⟨by decide +kernel, by decide +kernel⟩, List.mem_of_getElem? (i := 958) (by decide +kernel), List.mem_of_getElem? (i := 1105) (by decide +kernel), List.mem_of_getElem? (i := 1106) (by decide +kernel)⟩
theorem lw_p20 : lw_okq (⟨"SalesDeskModel", "ownRegion", "(I)I"⟩, 32) := ⟨⟨by decide +kernel, by decide +kernel⟩, List.mem_of_getElem? (i := 958) (by decide +kernel), List.mem_of_getElem? (i := 1109) (by decide +kernel), List.mem_of_getElem? (i := 1110) (by decide +kernel)⟩
theorem lw_p21 : lw_okq (⟨"SalesDeskModel", "isSeller", "(I)Z"⟩, 32) := ⟨⟨by decide +kernel, by decide +kernel⟩, List.mem_of_getElem? (i := 958) (by decide +kernel), List.mem_of_getElem? (i := 1117) (by decide +kernel), List.mem_of_getElem? (i := 1118) (by decide +kernel)⟩
theorem lw_p22 : lw_okq (⟨"SalesDeskModel", "isChance", "(I)Z"⟩, 32) := ⟨⟨by decide +kernel, by decide +kernel⟩, List.mem_of_getElem? (i := 958) (by decide +kernel), List.mem_of_getElem? (i := 1135) (by decide +kernel), List.mem_of_getElem? (i := 1136) (by decide +kernel)⟩
theorem lw_p23 : lw_okq (⟨"SalesDeskModel", "isOpen", "(I)Z"⟩, 32) := ⟨⟨by decide +kernel, by decide +kernel⟩, List.mem_of_getElem? (i := 958) (by decide +kernel), List.mem_of_getElem? (i := 1139) (by decide +kernel), List.mem_of_getElem? (i := 1140) (by decide +kernel)⟩
theorem lw_p24 : lw_okq (⟨"SalesDeskModel", "canCome", "(II)Z"⟩, 32) := ⟨⟨by decide +kernel, by decide +kernel⟩, List.mem_of_getElem? (i := 958) (by decide +kernel), List.mem_of_getElem? (i := 1147) (by decide +kernel), List.mem_of_getElem? (i := 1148) (by decide +kernel)⟩
theorem lw_p25 : lw_okq (⟨"SalesDeskModel", "counts", "(I)I"⟩, 32) := ⟨⟨by decide +kernel, by decide +kernel⟩, List.mem_of_getElem? (i := 958) (by decide +kernel), List.mem_of_getElem? (i := 1151) (by decide +kernel), List.mem_of_getElem? (i := 1152) (by decide +kernel)⟩
theorem lw_p26 : lw_okq (⟨"SalesDeskModel", "worthOf", "(I)I"⟩, 32) := ⟨⟨by decide +kernel, by decide +kernel⟩, List.mem_of_getElem? (i := 958) (by decide +kernel), List.mem_of_getElem? (i := 1171) (by decide +kernel), List.mem_of_getElem? (i := 1172) (by decide +kernel)⟩
theorem lw_p27 : lw_okq (⟨"SalesDeskModel", "approves", "(I)V"⟩, 32) := ⟨⟨by decide +kernel, by decide +kernel⟩, List.mem_of_getElem? (i := 958) (by decide +kernel), List.mem_of_getElem? (i := 1187) (by decide +kernel), List.mem_of_getElem? (i := 1188) (by decide +kernel)⟩
theorem lw_p28 : lw_okq (⟨"SalesDeskModel", "isAbove", "(II)Z"⟩, 32) := ⟨⟨by decide +kernel, by decide +kernel⟩, List.mem_of_getElem? (i := 958) (by decide +kernel), List.mem_of_getElem? (i := 1195) (by decide +kernel), List.mem_of_getElem? (i := 1196) (by decide +kernel)⟩
theorem lw_p29 : lw_okq (⟨"SalesDeskModel", "forecastOf", "(I)I"⟩, 32) := ⟨⟨by decide +kernel, by decide +kernel⟩, List.mem_of_getElem? (i := 958) (by decide +kernel), List.mem_of_getElem? (i := 1211) (by decide +kernel), List.mem_of_getElem? (i := 1212) (by decide +kernel)⟩
theorem lw_p30 : lw_okq (⟨"SalesDeskModel", "ownOf", "(I)I"⟩, 32) := ⟨⟨by decide +kernel, by decide +kernel⟩, List.mem_of_getElem? (i := 958) (by decide +kernel), List.mem_of_getElem? (i := 1215) (by decide +kernel), List.mem_of_getElem? (i := 1216) (by decide +kernel)⟩
def lw_privs_2 : List (MethodName × Nat) := [(⟨"SalesDeskModel", "goes", "(ZZZ)Z"⟩, 32), (⟨"SalesDeskModel", "isAccount", "(I)Z"⟩, 32), (⟨"SalesDeskModel", "copyRule", "(II)V"⟩, 32), (⟨"SalesDeskModel", "region", "(I)I"⟩, 32), (⟨"SalesDeskModel", "ownRegion", "(I)I"⟩, 32), (⟨"SalesDeskModel", "isSeller", "(I)Z"⟩, 32), (⟨"SalesDeskModel", "isChance", "(I)Z"⟩, 32), (⟨"SalesDeskModel", "isOpen", "(I)Z"⟩, 32), (⟨"SalesDeskModel", "canCome", "(II)Z"⟩, 32), (⟨"SalesDeskModel", "counts", "(I)I"⟩, 32), (⟨"SalesDeskModel", "worthOf", "(I)I"⟩, 32), (⟨"SalesDeskModel", "approves", "(I)V"⟩, 32), (⟨"SalesDeskModel", "isAbove", "(II)Z"⟩, 32), (⟨"SalesDeskModel", "forecastOf", "(I)I"⟩, 32), (⟨"SalesDeskModel", "ownOf", "(I)I"⟩, 32)]
theorem lw_r2 : ∀ q ∈ lw_privs_2, lw_okq q := List.forall_mem_cons.mpr ⟨lw_p16, List.forall_mem_cons.mpr ⟨lw_p17, List.forall_mem_cons.mpr ⟨lw_p18, List.forall_mem_cons.mpr ⟨lw_p19, List.forall_mem_cons.mpr ⟨lw_p20, List.forall_mem_cons.mpr ⟨lw_p21, List.forall_mem_cons.mpr ⟨lw_p22, List.forall_mem_cons.mpr ⟨lw_p23, List.forall_mem_cons.mpr ⟨lw_p24, List.forall_mem_cons.mpr ⟨lw_p25, List.forall_mem_cons.mpr ⟨lw_p26, List.forall_mem_cons.mpr ⟨lw_p27, List.forall_mem_cons.mpr ⟨lw_p28, List.forall_mem_cons.mpr ⟨lw_p29, List.forall_mem_cons.mpr ⟨lw_p30, fun _ h => absurd h List.not_mem_nil⟩⟩⟩⟩⟩⟩⟩⟩⟩⟩⟩⟩⟩⟩⟩
def lw_privs : List (MethodName × Nat) := lw_privs_1 ++ (lw_privs_2)
def lw_tbl : List Cond := k2_sels lw_privs ++ tables_1
theorem lw_privs_ok : ∀ q ∈ lw_privs, lw_okq q := by
  show ∀ q ∈ lw_privs_1 ++ (lw_privs_2), lw_okq q
  exact List.forall_mem_append.mpr ⟨lw_r1, lw_r2⟩
/-! ===== BEGIN words of one list among another's, by their places ===== -/
theorem goodIn_r {big : List Cond} (ws : List Cond) (ps : List Nat) (hp : ws = ps.filterMap (fun i => big[i]?)) (h : ws.all goodWord = true) : GoodIn big ws := by
  intro w hw
  have h1 := List.all_eq_true.mp h w hw
  rw [hp] at hw
  obtain ⟨i, -, hi⟩ := List.mem_filterMap.mp hw
  have hm : w ∈ big := by first | exact List.mem_of_getElem? hi | exact List.getElem?_mem hi
  exact ⟨hm, good_of_word h1⟩
theorem goodIn_app {big a b : List Cond} (ha : GoodIn big a) (hb : GoodIn big b) : GoodIn big (a ++ b) := fun w h => (List.mem_append.mp h).elim (ha w) (hb w)
theorem goodIn_ca {big a b : List Cond} {c : Cond} (ha : GoodIn big (c :: a)) (hb : GoodIn big b) : GoodIn big (c :: (a ++ b)) := fun w h => (List.mem_cons.mp h).elim (fun e => ha w (List.mem_cons.mpr (Or.inl e))) (fun h => (List.mem_append.mp h).elim (fun h => ha w (List.mem_cons.mpr (Or.inr h))) (hb w))
theorem goodIn_sub {big ws : List Cond} (hm : ∀ w ∈ ws, w ∈ big) (h : ws.all goodWord = true) : GoodIn big ws := fun w hw => ⟨hm w hw, good_of_word (List.all_eq_true.mp h w hw)⟩
/-! ===== END ===== -/

/-! ===== BEGIN exceptions that leave a method, and their catching by the caller (launches without stack traces) ===== -/
section VXA
/-! The laws vx_back, vx_callV, vx_callS, vx_callSW, vx_throw0, vx_throwS follow proofs of the library, with one case more: JvmDerived/Free/Laws.lean (Back.of_free), Shelf42/LK1.lean (callV, callS), Shelf/KitTraced.lean (throwNew0V, throwNewS). -/
/-- where a method has thrown q: the class by its name, the cell, what was written, the world -/
def vx_T (XC : String → State → State → Prop) (st : State) (q : Addr) (t : State) (mc ms : Nat) (free : Addr → Prop) : Prop :=
  ∃ (E : String) (ce : Cell) (L : List Loc), XC E st t ∧ t.heap[q]? = some ce ∧ ce.vm = .none ∧ st.vm.findClass E = some ce.cls ∧ st.WarmedH t.vm ∧ st.sameButNew ({ t with vm := st.vm } : State) L mc ms ∧ ∀ z ∈ L, free z.base
def vx_Q (Qc : Array Value → State → Outcome → State → Prop) (XC : String → State → State → Prop) (mc ms : Nat) (free : Addr → Prop) : Array Value → State → Outcome → State → Prop := fun a st o t =>
  (Qc a st o t ∧ ∃ L, FrameEnd st o t L mc ms ∧ ∀ q ∈ L, free q.base) ∨ ∃ q, o = .threw q ∧ vx_T XC st q t mc ms free
/-- a callee that returns or throws -/
def vx_Met (l : Launch) (y : MethodName) (ws : List Cond) (rm : Room) (Pc : Array Value → State → Prop) (Qc : Array Value → State → Outcome → State → Prop) (XC : String → State → State → Prop) (mc ms : Nat) (free : Addr → Prop) : Prop :=
  MetFree l y (headSpec ws rm) Pc (fun _ _ _ _ _ => True) (vx_Q Qc XC mc ms free)
def vx_Post (XC : String → State → State → Prop) (mc ms : Nat) (free : Addr → Prop) : Pt → Array Value → Addr → Pt → Prop := fun A a q B =>
  ∃ (g : JFrame) (mk : MethodId) (t : State) (L : List Loc) (E : String) (ce : Cell), B.U.heap = t.heap ∧ B.U.vm = t.vm ∧ XC E (A.U.calling g mk a) t ∧ t.heap[q]? = some ce ∧ ce.vm = .none ∧ A.U.vm.findClass E = some ce.cls ∧ B.locs = A.locs ++ L ∧ (∀ z ∈ L, free z.base) ∧ B.cells = A.cells + mc ∧ B.slots = A.slots + ms
def vx_Back (l : Launch) (R : Room) (p : Program) (e : Env) (below : List Frame) (s : State) (sargs : Array Value) (y : MethodName) (len W9 : Nat)
    (Pre : Pt → Array Value → Prop) (Post : Pt → Array Value → Option Value → Pt → Prop) (PostX : Pt → Array Value → Addr → Pt → Prop) : Prop :=
  ∀ (m : MethodId) (meth : Method) (c : Code) (A : Pt) (g : JFrame) (ig : Instr) (mk : MethodId) (a : Array Value),
    Stand p l e R s m sargs below meth c A.U A.locs A.cells A.slots → g.method = m → g.locals.size = c.maxLocals → decode c.code g.pc = .ok (ig, len) →
    2 * g.monitorRoom + (g.stack.map fun v => v.category).sum ≤ W9 → A.U.methodNamed? y = some mk → Pre A a →
    (∃ (v : Option Value) (B : Pt), Stand p l e R s m sargs below meth c B.U B.locs B.cells B.slots ∧ Post A a v B ∧
      Steps p.tables e below (doInvoke e (A.U.setTop g) [] mk a).1 (B.U.setTop { g with pc := g.pc + len, stack := v.toList ++ g.stack })) ∨
    (∃ (q : Addr) (B : Pt), Stand p l e R s m sargs below meth c B.U B.locs B.cells B.slots ∧ PostX A a q B ∧
      Steps p.tables e below (doInvoke e (A.U.setTop g) [] mk a).1 ((B.U.setTop g).pushFrame (.throwing q)))
section Payer
variable {l : Launch} {R : Room} {p : Program} {e : Env} {below : List Frame} {s : State} {sargs : Array Value} {y : MethodName} {len W9 : Nat}
theorem vx_back {ws : List Cond} {rm : Room} {Pc : Array Value → State → Prop} {Qc : Array Value → State → Outcome → State → Prop} {XC : String → State → State → Prop} {mc ms : Nat} {free : Addr → Prop} {bytes : ByteArray} {maxL : Nat} {ret : Option FieldType}
    (hM : vx_Met l y ws rm Pc Qc XC mc ms free) (hblind : FrameBlind Pc) (hrc : rm.cells = mc) (hrs : rm.slots = ms)
    (hframes : rm.frames + 1 ≤ R.frames) (hlocals : W9 + (maxL + 11) + rm.locals ≤ R.locals)
    (hws : ∀ w ∈ ws, ∀ a' U, s.WarmedH U.vm → w.before a' U = true) (hcode : Cond.code y bytes maxL ret ∈ ws) (hinit : ∀ a' U, s.WarmedH U.vm → (Cond.initialized y.cls).before a' U = true) :
    vx_Back l R p e below s sargs y len W9 (PreOf R mc ms Pc) (PostOf Qc mc ms free) (vx_Post XC mc ms free) := by
  intro m meth c A g ig mk a X hg hsize hdg hW hn hp
  have h1 : (headSpec ws rm).pre.before a A.U = true := atoms_intro fun w hw => hws w hw _ _ X.warmed
  have h2 : (Cond.code y bytes maxL ret).before a A.U = true := hws _ hcode _ _ X.warmed
  have h3 : (Cond.initialized y.cls).before a A.U = true := hinit _ _ X.warmed
  have h4 : A.cells + (headSpec ws rm).room.cells ≤ R.cells := by rw [show (headSpec ws rm).room.cells = mc from hrc]; exact hp.1
  have h5 : A.slots + (headSpec ws rm).room.slots ≤ R.slots := by rw [show (headSpec ws rm).room.slots = ms from hrs]; exact hp.2.1
  have hPc : Pc a (A.U.calling g mk a) := hblind _ _ _ _ hp.2.2
  obtain ⟨U, Ls, c0, s0⟩ := A
  dsimp only [Pt.U, Pt.locs, Pt.cells, Pt.slots] at h1 h2 h3 h4 h5 X hn hPc ⊢
  obtain ⟨methY, cY, hmY, hcY, -, hlY, -, -, -, -⟩ := Cond.code_spec hn h2
  obtain ⟨kY, hkY, -⟩ := className_of_methodNamed hn
  have hinitY : kY.init = .initialized := Cond.initialized_spec (findClass_of_methodNamed hn) hkY h3
  have h : At U g.method c below := by rw [hg]; exact X.here
  have hlocals9 : W9 + (maxL + 11) + (headSpec ws rm).room.locals ≤ R.locals := hlocals
  have happ : (headSpec ws rm).appliesLoose y e.platform (U.calling g mk a) = true :=
    Spec.appliesLoose_calling (g := g) h hdg hn hkY hinitY
      (X.room_calling (g := g) (R' := (headSpec ws rm).room) hsize hmY hcY hframes (by rw [hlY]; omega) h4 h5) h1
  obtain ⟨mid, hmid⟩ := h.above
  have hfr : (U.setTop g).frames = (.java g :: mid) ++ below := by rw [State.frames_setTop' g h.top, hmid]; rfl
  obtain ⟨o, s₂, hsteps, -, hend, hq⟩ := Steps.callFree hM p X.admits X.cas X.clock (acts := []) hfr happ hPc trivial
  have hq' : vx_Q Qc XC mc ms free a (U.calling g mk a) o s₂ := hq
  rw [State.frames_setTop' g h.top] at hend
  obtain ⟨g₀, hg0⟩ := Option.isSome_iff_exists.mp h.top
  obtain ⟨r, hr⟩ := State.topJava?_eq_some.mp hg0
  have hr' : (({ U with heap := s₂.heap, slotsUsed := s₂.slotsUsed } : State).setVm s₂.vm).frames = .java g₀ :: r := hr
  rcases hq' with ⟨hqc, L, hfe, hL⟩ | ⟨q, rfl, E, ce, L, hx, hce, hcv, hcl, hW₂, hsm, hL⟩
  · obtain ⟨⟨v, rfl⟩, hW₂, e2, q2, q3, q4, q5, q6⟩ := id hfe
    have e3 : s₂ = ({ (U.calling g mk a).setFrames s₂.frames with heap := s₂.heap, slotsUsed := s₂.slotsUsed } : State).setVm s₂.vm := by
      have : s₂ = ({ s₂ with vm := (U.calling g mk a).vm } : State).setVm s₂.vm := rfl
      rw [e2] at this
      exact this
    obtain ⟨c₂, i₂, len₂, hc₂, hd₂, hf₂⟩ := hend
    have hW' : U.WarmedH s₂.vm := hW₂
    have hcc : c₂ = c := by
      have h1 : s₂.code? g.method = U.code? g.method := by
        rw [State.code?_eq, State.code?_eq, hW'.alike.method?]
      exact Option.some.inj (hc₂.symm.trans (h1.trans h.code))
    subst hcc
    have hlen : len₂ = len := by rw [hdg] at hd₂; cases hd₂; rfl
    subst hlen
    have hs₂ : s₂ = (({ U with heap := s₂.heap, slotsUsed := s₂.slotsUsed } : State).setVm s₂.vm).setTop { g with pc := g.pc + len₂, stack := v.toList ++ g.stack } := by
      refine e3.trans ?_
      rw [hf₂, State.calling_eq h.top, State.setFrames_setFrames, State.setTop_of_frames _ hr', hr]
      rfl
    have hsame : U.sameButNew ({ U with heap := s₂.heap, slotsUsed := s₂.slotsUsed } : State) L mc ms := by
      refine ⟨?_, q2, q3, q4, q5, q6⟩
      obtain ⟨t, ht, -⟩ := State.frames_cons hr
      show ({ U with heap := s₂.heap, slotsUsed := s₂.slotsUsed } : State) = { U.setFrames U.frames with heap := s₂.heap, slotsUsed := s₂.slotsUsed }
      rw [State.setFrames_self ht]
    subst hg
    refine Or.inl ⟨v, ⟨(({ U with heap := s₂.heap, slotsUsed := s₂.slotsUsed } : State).setVm s₂.vm), Ls ++ L, c0 + mc, s0 + ms⟩,
      ⟨X.admits, X.cas, X.clock, X.frames, X.room, X.hears, X.method, X.code, (X.here.setHeapUsed s₂.heap s₂.slotsUsed).setVm hW'.alike, X.tail, State.WarmedH.trans X.warmed hW', X.limits, X.bytes, X.same.trans (hsame.setVm s.vm)⟩,
      ⟨g, mk, s₂, L, rfl, rfl, hqc, rfl, hL, rfl, rfl⟩, ?_⟩
    show Steps p.tables e below _ ((({ U with heap := s₂.heap, slotsUsed := s₂.slotsUsed } : State).setVm s₂.vm).setTop { g with pc := g.pc + len₂, stack := v.toList ++ g.stack })
    rw [← hs₂]
    exact hsteps
  · obtain ⟨e2, q2, q3, q4, q5, q6⟩ := id hsm
    have e3 : s₂ = ({ (U.calling g mk a).setFrames s₂.frames with heap := s₂.heap, slotsUsed := s₂.slotsUsed } : State).setVm s₂.vm := by
      have : s₂ = ({ s₂ with vm := (U.calling g mk a).vm } : State).setVm s₂.vm := rfl
      rw [e2] at this
      exact this
    have hf₂ : s₂.frames = .throwing q :: .java g :: U.frames.tail := hend
    have hW' : U.WarmedH s₂.vm := hW₂
    have hs₂ : s₂ = ((({ U with heap := s₂.heap, slotsUsed := s₂.slotsUsed } : State).setVm s₂.vm).setTop g).pushFrame (.throwing q) := by
      refine e3.trans ?_
      rw [hf₂, State.calling_eq h.top, State.setFrames_setFrames, State.pushFrame, State.frames_setTop _ hr', State.setTop_of_frames _ hr', State.setFrames_setFrames, hr]
      rfl
    have hsame : U.sameButNew ({ U with heap := s₂.heap, slotsUsed := s₂.slotsUsed } : State) L mc ms := by
      refine ⟨?_, q2, q3, q4, q5, q6⟩
      obtain ⟨t, ht, -⟩ := State.frames_cons hr
      show ({ U with heap := s₂.heap, slotsUsed := s₂.slotsUsed } : State) = { U.setFrames U.frames with heap := s₂.heap, slotsUsed := s₂.slotsUsed }
      rw [State.setFrames_self ht]
    subst hg
    refine Or.inr ⟨q, ⟨(({ U with heap := s₂.heap, slotsUsed := s₂.slotsUsed } : State).setVm s₂.vm), Ls ++ L, c0 + mc, s0 + ms⟩,
      ⟨X.admits, X.cas, X.clock, X.frames, X.room, X.hears, X.method, X.code, (X.here.setHeapUsed s₂.heap s₂.slotsUsed).setVm hW'.alike, X.tail, State.WarmedH.trans X.warmed hW', X.limits, X.bytes, X.same.trans (hsame.setVm s.vm)⟩,
      ⟨g, mk, s₂, L, E, ce, rfl, rfl, hx, hce, hcv, hcl, rfl, hL, rfl, rfl⟩, ?_⟩
    show Steps p.tables e below _ (((({ U with heap := s₂.heap, slotsUsed := s₂.slotsUsed } : State).setVm s₂.vm).setTop g).pushFrame (.throwing q))
    rw [← hs₂]
    exact hsteps
end Payer
section Calls
variable {p : Program} {l : Launch} {e : Env} {R : Room} {s : State} {m : MethodId} {args : Array Value} {below : List Frame} {meth : Method} {c : Code} {T : State} {locs : List Loc} {cells slots : Nat}
theorem vx_callV (X : Stand p l e R s m args below meth c T locs cells slots) (hexec : p.tables.exec = Jvm.exec) {own C : String} {index : Nat} {y : MethodName} {bytes : ByteArray} {maxL : Nat} {ret : Option FieldType}
    (hown : s.vm.findClass own = some m.cls) (hlink : (Cond.methodLink own index y).before args s = true) (hinst : (Cond.instanceMethod y).before args s = true) (hsel : (Cond.selects C y y).before args s = true)
    (hcode : (Cond.code y bytes maxL ret).before args s = true) (hy : y.cls ≠ "java/lang/invoke/MethodHandle" ∧ y.cls ≠ "java/lang/invoke/VarHandle")
    {W9 : Nat} {Pre : Pt → Array Value → Prop} {Post : Pt → Array Value → Option Value → Pt → Prop} {PostX : Pt → Array Value → Addr → Pt → Prop} (hK : vx_Back l R p e below s args y 3 W9 Pre Post PostX)
    {b : Addr} {cellB : Cell} (hcell : T.heap[b]? = some cellB) (hobj : cellB.vm.isStatics = false) (hcls : s.vm.findClass C = some cellB.cls)
    {g : JFrame} (hg : g.method = m) (hsize : g.locals.size = c.maxLocals) {argsL rest : List Value} (hlen : ∀ sig, parseMethodDescriptor y.desc = some sig → argsL.length = sig.parameters.length)
    (hstack : g.stack = argsL.reverse ++ .ref b :: rest) (hW : 2 * g.monitorRoom + (rest.map fun v => v.category).sum ≤ W9) (hdg : decode c.code g.pc = .ok (.invokevirtual index, 3))
    (hpre : ∀ vm₁, s.WarmedH vm₁ → Pre ⟨T.setVm vm₁, locs, cells, slots⟩ (Value.ref b :: argsL).toArray) :
    (∃ (v : Option Value) (vm₁ : Vm) (B : Pt), s.WarmedH vm₁ ∧ Stand p l e R s m args below meth c B.U B.locs B.cells B.slots ∧ Post ⟨T.setVm vm₁, locs, cells, slots⟩ (Value.ref b :: argsL).toArray v B ∧
      ∀ target, Steps p.tables e below (B.U.setTop { g with pc := g.pc + 3, stack := v.toList ++ rest }) target → Steps p.tables e below (T.setTop g) target) ∨
    (∃ (q : Addr) (vm₁ : Vm) (B : Pt), s.WarmedH vm₁ ∧ Stand p l e R s m args below meth c B.U B.locs B.cells B.slots ∧ PostX ⟨T.setVm vm₁, locs, cells, slots⟩ (Value.ref b :: argsL).toArray q B ∧
      Steps p.tables e below (T.setTop g) ((B.U.setTop { g with stack := rest }).pushFrame (.throwing q))) := by
  obtain ⟨mk, methM, hnamed, hmethM, hstM, habM⟩ := Cond.instanceMethod_spec hinst
  obtain ⟨methM', cM, hmethM', -, -, -, -, -, -, hsigM⟩ := Cond.code_spec hnamed hcode
  cases hmethM.symm.trans hmethM'
  obtain ⟨c2, r2, m2, q1, q2, q3, q4, kP, hkP, hkPi⟩ := Cond.selects_spec hsel
  cases hcls.symm.trans q1
  cases (State.methodFound?_of_named hnamed hy).symm.trans q2
  cases hnamed.symm.trans q3
  have hselP : selectMethod e.platform s.vm cellB.cls mk = .method mk := by rw [Launch.admits_selectMethod X.admits]; exact q4
  obtain ⟨vm₁, X₁, hstep₁⟩ := X.invokevirtual hexec hown hlink hnamed hmethM hstM hkP hkPi hy (a := b) (cell := cellB) hcell
    (fun z h => by rw [h] at hobj; cases hobj) hselP hmethM habM hkP hkPi (g := g) hg (argsL := argsL) (rest := rest) (hlen _ hsigM) hstack hdg
  rcases hK m meth c ⟨T.setVm vm₁, locs, cells, slots⟩ { g with stack := rest } (.invokevirtual index) mk (Value.ref b :: argsL).toArray X₁ hg hsize hdg hW (X₁.named hnamed) (hpre vm₁ X₁.warmed) with ⟨v, B, X', hpost, hsteps⟩ | ⟨q, B, X', hpost, hsteps⟩
  · exact Or.inl ⟨v, vm₁, B, X₁.warmed, X', hpost, fun target h => hstep₁ _ fun acts => by rw [doInvoke_state]; exact hsteps.trans h⟩
  · exact Or.inr ⟨q, vm₁, B, X₁.warmed, X', hpost, hstep₁ _ fun acts => by rw [doInvoke_state]; exact hsteps⟩
theorem vx_callS (X : Stand p l e R s m args below meth c T locs cells slots) (hexec : p.tables.exec = Jvm.exec) {own : String} {index : Nat} {y : MethodName} {bytes : ByteArray} {maxL : Nat} {ret : Option FieldType}
    (hown : s.vm.findClass own = some m.cls) (hlink : (Cond.methodLink own index y).before args s = true) (hstat : (Cond.static y).before args s = true) (hinit : (Cond.initialized y.cls).before args s = true)
    (hcode : (Cond.code y bytes maxL ret).before args s = true) (hy : y.cls ≠ "java/lang/invoke/MethodHandle" ∧ y.cls ≠ "java/lang/invoke/VarHandle")
    {W9 : Nat} {Pre : Pt → Array Value → Prop} {Post : Pt → Array Value → Option Value → Pt → Prop} {PostX : Pt → Array Value → Addr → Pt → Prop} (hK : vx_Back l R p e below s args y 3 W9 Pre Post PostX)
    {g : JFrame} (hg : g.method = m) (hsize : g.locals.size = c.maxLocals) {argsL rest : List Value} (hlen : ∀ sig, parseMethodDescriptor y.desc = some sig → argsL.length = sig.parameters.length)
    (hstack : g.stack = argsL.reverse ++ rest) (hW : 2 * g.monitorRoom + (rest.map fun v => v.category).sum ≤ W9) (hdg : decode c.code g.pc = .ok (.invokestatic index, 3))
    (hpre : ∀ vm₁, s.WarmedH vm₁ → Pre ⟨T.setVm vm₁, locs, cells, slots⟩ argsL.toArray) :
    (∃ (v : Option Value) (vm₁ : Vm) (B : Pt), s.WarmedH vm₁ ∧ Stand p l e R s m args below meth c B.U B.locs B.cells B.slots ∧ Post ⟨T.setVm vm₁, locs, cells, slots⟩ argsL.toArray v B ∧
      ∀ target, Steps p.tables e below (B.U.setTop { g with pc := g.pc + 3, stack := v.toList ++ rest }) target → Steps p.tables e below (T.setTop g) target) ∨
    (∃ (q : Addr) (vm₁ : Vm) (B : Pt), s.WarmedH vm₁ ∧ Stand p l e R s m args below meth c B.U B.locs B.cells B.slots ∧ PostX ⟨T.setVm vm₁, locs, cells, slots⟩ argsL.toArray q B ∧
      Steps p.tables e below (T.setTop g) ((B.U.setTop { g with stack := rest }).pushFrame (.throwing q))) := by
  obtain ⟨mk, hnamed⟩ := Cond.code_named hcode
  obtain ⟨methM, cM, hmethM, -, -, -, -, -, -, hsigM⟩ := Cond.code_spec hnamed hcode
  have hstatic : methM.isStatic = true := Cond.static_spec hnamed hmethM hstat
  obtain ⟨kP, hkP, -⟩ := className_of_methodNamed hnamed
  have hinitP : kP.init = .initialized := Cond.initialized_spec (findClass_of_methodNamed hnamed) hkP hinit
  obtain ⟨vm₁, X₁, hstep₁⟩ := X.invokestatic hexec hown hlink hnamed hmethM hstatic hkP hinitP hy (g := g) hg (argsL := argsL) (rest := rest) (hlen _ hsigM) hstack hdg
  rcases hK m meth c ⟨T.setVm vm₁, locs, cells, slots⟩ { g with stack := rest } (.invokestatic index) mk argsL.toArray X₁ hg hsize hdg hW (X₁.named hnamed) (hpre vm₁ X₁.warmed) with ⟨v, B, X', hpost, hsteps⟩ | ⟨q, B, X', hpost, hsteps⟩
  · exact Or.inl ⟨v, vm₁, B, X₁.warmed, X', hpost, fun target h => hstep₁ _ fun acts => by rw [doInvoke_state]; exact hsteps.trans h⟩
  · exact Or.inr ⟨q, vm₁, B, X₁.warmed, X', hpost, hstep₁ _ fun acts => by rw [doInvoke_state]; exact hsteps⟩
end Calls
theorem vx_cls {s : State} {T : State} {vm₁ : Vm} {E : String} {k : ClassId} (hW : s.WarmedH vm₁) (h : (T.setVm vm₁).vm.findClass E = some k) : s.vm.findClass E = some k := by
  have h1 : vm₁.findClass E = some k := h
  rw [hW.alike.findClass] at h1
  exact h1
/-- the method's frame g, with q thrown over it -/
def vx_W (p : Program) (l : Launch) (e : Env) (R : Room) (s : State) (m : MethodId) (args : Array Value) (below : List Frame) (meth : Method) (c : Code) (H : Heap) (locs : List Loc) (cells slots : Nat) (Q : State → Prop) (g : JFrame) (q : Addr) : Prop :=
  ∀ T : State, T.heap = H → Stand p l e R s m args below meth c T locs cells slots → ∃ t, Steps p.tables e below ((T.setTop g).pushFrame (.throwing q)) t ∧ Q t
def vx_Run (p : Program) (l : Launch) (e : Env) (R : Room) (s : State) (m : MethodId) (args : Array Value) (below : List Frame) (meth : Method) (c : Code) (H : Heap) (locs : List Loc) (cells slots mc ms : Nat) (g : JFrame) (rest : List Value) (Qa : State → Outcome → State → Prop) (XC : String → State → State → Prop) (free : Addr → Prop) : Prop :=
  ∀ T : State, T.heap = H → Stand p l e R s m args below meth c T locs cells slots →
    (∃ (v : Option Value) (st₀ t T' : State) (L : List Loc), st₀.heap = H ∧ Stand p l e R s m args below meth c T' (locs ++ L) (cells + mc) (slots + ms) ∧ (∀ q ∈ L, free q.base) ∧ T'.heap = t.heap ∧ T'.vm = t.vm ∧ Qa st₀ (.returned v) t ∧
      Goes p e below T g T' { g with pc := g.pc + 3, stack := v.toList ++ rest }) ∨
    (∃ (q : Addr) (st₀ t T' : State) (L : List Loc) (E : String) (ce : Cell), st₀.heap = H ∧ Stand p l e R s m args below meth c T' (locs ++ L) (cells + mc) (slots + ms) ∧ (∀ z ∈ L, free z.base) ∧ T'.heap = t.heap ∧ T'.vm = t.vm ∧ XC E st₀ t ∧ t.heap[q]? = some ce ∧ ce.vm = .none ∧ s.vm.findClass E = some ce.cls ∧
      Steps p.tables e below (T.setTop g) ((T'.setTop { g with stack := rest }).pushFrame (.throwing q)))
def vx_X {S : Type} (px : S → Prop) (B : String → S → State → Prop) (A : Nat → Prop) : String → State → State → Prop := fun E st t => ∃ u : S, px u ∧ B E u t ∧ va_F A st t
section Runs
variable {p : Program} {l : Launch} {e : Env} {R : Room} {s : State} {m : MethodId} {args : Array Value} {below : List Frame} {meth : Method} {c : Code} {H : Heap} {locs : List Loc} {cells slots : Nat}
variable {y : MethodName} {bytes cc : ByteArray} {maxL nL mc ms n index : Nat} {ret : Option FieldType} {ws : List Cond} {rm : Room} {Pc : Array Value → State → Prop} {Qc : Array Value → State → Outcome → State → Prop} {XC : String → State → State → Prop} {free : Addr → Prop} {Ts : List Cond} {own C : String} {b : Addr} {As rest : List Value} {g : JFrame}
theorem vx_callBack (cb : CallB R s args own index y bytes maxL ret ws rm mc ms n) (hM : vx_Met l y ws rm Pc Qc XC mc ms free) (hbl : FrameBlind Pc) : vx_Back l R p e below s args y 3 8 (PreOf R mc ms Pc) (PostOf Qc mc ms free) (vx_Post XC mc ms free) := by
  obtain ⟨hrc, hrs, hfr, hlo, hws, hcw, -, hini, -⟩ := cb
  exact vx_back (bytes := bytes) (maxL := maxL) (ret := ret) hM hbl hrc hrs hfr hlo hws hcw (fun a' U hW => word_at hW (Or.inl (by first | rfl | simp [Cond.onTables, Cond.keeps, Cond.steady])) hini)
theorem vx_runV (S : CallFix p m c cc nL s args Ts own) (hM : vx_Met l y ws rm Pc Qc XC mc ms free) (cw : CallW R s args own C index y bytes maxL ret ws rm mc ms n) (hp : PreV s H C b Pc As)
    (hg : g.method = m) (hn : As.length = n) (hsize : g.locals.size = nL) (hstack : g.stack = As.reverse ++ .ref b :: rest) (hW : 2 * g.monitorRoom + (rest.map fun v => v.category).sum ≤ 8) (hdg : decode cc g.pc = .ok (.invokevirtual index, 3)) (hf : cells + mc ≤ R.cells ∧ slots + ms ≤ R.slots) :
    vx_Run p l e R s m args below meth c H locs cells slots mc ms g rest (Qc (Value.ref b :: As).toArray) XC free := by
  have hK : vx_Back l R p e below s args y 3 8 (PreOf R mc ms Pc) (PostOf Qc mc ms free) (vx_Post XC mc ms free) := vx_callBack cw.1 hM hp.1
  obtain ⟨⟨-, -, -, -, -, -, hcode, -, hy, hlen, hl⟩, hin, hse⟩ := cw
  obtain ⟨hx, hb, hml, ho, -⟩ := S
  obtain ⟨-, ⟨cellB, hcB, hoB, hclB⟩, hPc⟩ := hp
  intro T hT X
  rcases vx_callV X hx (C := C) (bytes := bytes) (maxL := maxL) (ret := ret) ho hl hin hse hcode hy hK (by rw [hT]; exact hcB) hoB hclB hg (hsize.trans hml.symm) (argsL := As) (rest := rest) (fun sig h => hn.trans (hlen sig h)) hstack hW (by rw [hb]; exact hdg)
    (fun vm₁ hW₁ => ⟨hf.1, hf.2, hPc (T.setVm vm₁) hT hW₁⟩) with ⟨v, vm₁, ⟨U', l2, c2, s2⟩, hW₁, X', ⟨g', mk, t, L, e1, e2, hq, h1, hL, h2, h3⟩, st⟩ | ⟨q, vm₁, ⟨U', l2, c2, s2⟩, hW₁, X', ⟨g', mk, t, L, E, ce, e1, e2, hq, hce, hcv, hcl, h1, hL, h2, h3⟩, st⟩
  · dsimp only [Pt.U, Pt.locs, Pt.cells, Pt.slots] at X' e1 e2 h1 h2 h3 st
    subst h1; subst h2; subst h3
    exact Or.inl ⟨v, (T.setVm vm₁).calling g' mk (Value.ref b :: As).toArray, t, U', L, hT, X', hL, e1, e2, hq, st⟩
  · dsimp only [Pt.U, Pt.locs, Pt.cells, Pt.slots] at X' e1 e2 h1 h2 h3 st hcl
    subst h1; subst h2; subst h3
    exact Or.inr ⟨q, (T.setVm vm₁).calling g' mk (Value.ref b :: As).toArray, t, U', L, E, ce, hT, X', hL, e1, e2, hq, hce, hcv, vx_cls hW₁ hcl, st⟩
theorem vx_runS (S : CallFix p m c cc nL s args Ts own) (hM : vx_Met l y ws rm Pc Qc XC mc ms free) (cw : CallB R s args own index y bytes maxL ret ws rm mc ms n ∧ (Cond.static y).before args s = true) (hp : PreS s H Pc As)
    (hg : g.method = m) (hn : As.length = n) (hsize : g.locals.size = nL) (hstack : g.stack = As.reverse ++ rest) (hW : 2 * g.monitorRoom + (rest.map fun v => v.category).sum ≤ 8) (hdg : decode cc g.pc = .ok (.invokestatic index, 3)) (hf : cells + mc ≤ R.cells ∧ slots + ms ≤ R.slots) :
    vx_Run p l e R s m args below meth c H locs cells slots mc ms g rest (Qc As.toArray) XC free := by
  have hK : vx_Back l R p e below s args y 3 8 (PreOf R mc ms Pc) (PostOf Qc mc ms free) (vx_Post XC mc ms free) := vx_callBack cw.1 hM hp.1
  obtain ⟨⟨-, -, -, -, -, -, hcode, hini, hy, hlen, hl⟩, hstt⟩ := cw
  obtain ⟨hx, hb, hml, ho, -⟩ := S
  intro T hT X
  rcases vx_callS X hx (bytes := bytes) (maxL := maxL) (ret := ret) ho hl hstt hini hcode hy hK hg (hsize.trans hml.symm) (argsL := As) (rest := rest) (fun sig h => hn.trans (hlen sig h)) hstack hW (by rw [hb]; exact hdg)
    (fun vm₁ hW₁ => ⟨hf.1, hf.2, hp.2 (T.setVm vm₁) hT hW₁⟩) with ⟨v, vm₁, ⟨U', l2, c2, s2⟩, hW₁, X', ⟨g', mk, t, L, e1, e2, hq, h1, hL, h2, h3⟩, st⟩ | ⟨q, vm₁, ⟨U', l2, c2, s2⟩, hW₁, X', ⟨g', mk, t, L, E, ce, e1, e2, hq, hce, hcv, hcl, h1, hL, h2, h3⟩, st⟩
  · dsimp only [Pt.U, Pt.locs, Pt.cells, Pt.slots] at X' e1 e2 h1 h2 h3 st
    subst h1; subst h2; subst h3
    exact Or.inl ⟨v, (T.setVm vm₁).calling g' mk As.toArray, t, U', L, hT, X', hL, e1, e2, hq, st⟩
  · dsimp only [Pt.U, Pt.locs, Pt.cells, Pt.slots] at X' e1 e2 h1 h2 h3 st hcl
    subst h1; subst h2; subst h3
    exact Or.inr ⟨q, (T.setVm vm₁).calling g' mk As.toArray, t, U', L, E, ce, hT, X', hL, e1, e2, hq, hce, hcv, vx_cls hW₁ hcl, st⟩
end Runs
section Rows
variable {p : Program} {l : Launch} {e : Env} {R : Room} {s : State} {m : MethodId} {args : Array Value} {below : List Frame} {meth : Method} {c : Code} {H : Heap} {locs : List Loc} {cells slots : Nat} {Q : State → Prop}
variable {mc ms : Nat} {free : Addr → Prop} {A0 A1 : Nat → Prop} {H0 : Heap} {a : Array Value} {pc : Nat} {ls : Array Slot} {st0 rest : List Value}
theorem vx_keep {st₀ t T' : State} {L : List Loc} (h0 : st₀.heap = H) (e1 : T'.heap = t.heap) (hS : va_S A0 H0 H locs) (hA : ∀ q, q < H.size → A1 q → A0 q) (hf : ∀ q, free q → A0 q) (hL : ∀ q ∈ L, free q.base) (hF : va_F A1 st₀ t) :
    H.size ≤ T'.heap.size ∧ (∀ q : Nat, q < H.size → ¬ A1 q → T'.heap[q]? = H[q]?) ∧ va_S A0 H0 T'.heap (locs ++ L) := by
  obtain ⟨hz, hk⟩ := hF
  rw [h0] at hz hk
  exact ⟨by rw [e1]; exact hz, fun q h1 h2 => by rw [e1]; exact hk q h1 h2,
    ⟨Nat.le_trans hS.1 (by rw [e1]; exact hz), fun q h1 h2 => by rw [e1, hk q (Nat.lt_of_lt_of_le h1 hS.1) (fun z => h2 (hA q (Nat.lt_of_lt_of_le h1 hS.1) z))]; exact hS.2.1 q h1 h2, fun q hq => by
      rcases List.mem_append.mp hq with h | h
      · exact hS.2.2 q h
      · exact hf _ (hL q h)⟩⟩
theorem vx_calli {S SX : Type} {post : Int32 → S → Prop} {px : SX → Prop} {B : S → State → Prop} {BX : String → SX → State → Prop} {AX : Nat → Prop} (hr : vx_Run p l e R s m args below meth c H locs cells slots mc ms (F0 m pc ls st0) rest (va_Qi post B A1 a) (vx_X px BX AX) free) (hS : va_S A0 H0 H locs) (hA : ∀ q, q < H.size → A1 q → A0 q) (hf : ∀ q, free q → A0 q) (hAX : ∀ q, q < H.size → AX q → A0 q)
    (kx : ∀ (E : String) (ce : Cell) (q9 : Addr) (u : SX) (t : State) (H1 : Heap) (locs1 : List Loc), t.heap = H1 → s.vm.Alike t.vm → px u → BX E u t → H.size ≤ H1.size → (∀ q : Nat, q < H.size → ¬ AX q → H1[q]? = H[q]?) → va_S A0 H0 H1 locs1 → H1[q9]? = some ce → ce.vm = .none → s.vm.findClass E = some ce.cls → vx_W p l e R s m args below meth c H1 locs1 (cells + mc) (slots + ms) Q (F0 m pc ls rest) q9)
    (kk : ∀ (r : Int32) (u : S) (t : State) (H1 : Heap) (locs1 : List Loc), t.heap = H1 → s.vm.Alike t.vm → post r u → B u t → H.size ≤ H1.size → (∀ q : Nat, q < H.size → ¬ A1 q → H1[q]? = H[q]?) → va_S A0 H0 H1 locs1 → W p l e R s m args below meth c H1 locs1 (cells + mc) (slots + ms) Q (F0 m (pc + 3) ls (.int r :: rest))) : W p l e R s m args below meth c H locs cells slots Q (F0 m pc ls st0) := by
  intro T hT X
  rcases hr T hT X with ⟨v, st₀, t, T', L, h0, X', hL, e1, e2, ⟨⟨r, u, hv, hp, hb⟩, hF⟩, st⟩ | ⟨q, st₀, t, T', L, E, ce, h0, X', hL, e1, e2, ⟨u, hp, hb, hF⟩, hce, hcv, hcl, st⟩
  · cases hv
    obtain ⟨k1, k2, k3⟩ := vx_keep h0 e1 hS hA hf hL hF
    obtain ⟨t2, a1, b1⟩ := kk r u t T'.heap (locs ++ L) e1.symm (by rw [← e2]; exact X'.warmed.alike) hp hb k1 k2 k3 T' rfl X'
    exact ⟨t2, st t2 a1, b1⟩
  · obtain ⟨k1, k2, k3⟩ := vx_keep h0 e1 hS hAX hf hL hF
    obtain ⟨t2, a1, b1⟩ := kx E ce q u t T'.heap (locs ++ L) e1.symm (by rw [← e2]; exact X'.warmed.alike) hp hb k1 k2 k3 (by rw [e1]; exact hce) hcv hcl T' rfl X'
    exact ⟨t2, st.trans a1, b1⟩
theorem vx_calll {S SX : Type} {post : Int64 → S → Prop} {px : SX → Prop} {B : S → State → Prop} {BX : String → SX → State → Prop} {AX : Nat → Prop} (hr : vx_Run p l e R s m args below meth c H locs cells slots mc ms (F0 m pc ls st0) rest (va_Ql post B A1 a) (vx_X px BX AX) free) (hS : va_S A0 H0 H locs) (hA : ∀ q, q < H.size → A1 q → A0 q) (hf : ∀ q, free q → A0 q) (hAX : ∀ q, q < H.size → AX q → A0 q)
    (kx : ∀ (E : String) (ce : Cell) (q9 : Addr) (u : SX) (t : State) (H1 : Heap) (locs1 : List Loc), t.heap = H1 → s.vm.Alike t.vm → px u → BX E u t → H.size ≤ H1.size → (∀ q : Nat, q < H.size → ¬ AX q → H1[q]? = H[q]?) → va_S A0 H0 H1 locs1 → H1[q9]? = some ce → ce.vm = .none → s.vm.findClass E = some ce.cls → vx_W p l e R s m args below meth c H1 locs1 (cells + mc) (slots + ms) Q (F0 m pc ls rest) q9)
    (kk : ∀ (r : Int64) (u : S) (t : State) (H1 : Heap) (locs1 : List Loc), t.heap = H1 → s.vm.Alike t.vm → post r u → B u t → H.size ≤ H1.size → (∀ q : Nat, q < H.size → ¬ A1 q → H1[q]? = H[q]?) → va_S A0 H0 H1 locs1 → W p l e R s m args below meth c H1 locs1 (cells + mc) (slots + ms) Q (F0 m (pc + 3) ls (.long r :: rest))) : W p l e R s m args below meth c H locs cells slots Q (F0 m pc ls st0) := by
  intro T hT X
  rcases hr T hT X with ⟨v, st₀, t, T', L, h0, X', hL, e1, e2, ⟨⟨r, u, hv, hp, hb⟩, hF⟩, st⟩ | ⟨q, st₀, t, T', L, E, ce, h0, X', hL, e1, e2, ⟨u, hp, hb, hF⟩, hce, hcv, hcl, st⟩
  · cases hv
    obtain ⟨k1, k2, k3⟩ := vx_keep h0 e1 hS hA hf hL hF
    obtain ⟨t2, a1, b1⟩ := kk r u t T'.heap (locs ++ L) e1.symm (by rw [← e2]; exact X'.warmed.alike) hp hb k1 k2 k3 T' rfl X'
    exact ⟨t2, st t2 a1, b1⟩
  · obtain ⟨k1, k2, k3⟩ := vx_keep h0 e1 hS hAX hf hL hF
    obtain ⟨t2, a1, b1⟩ := kx E ce q u t T'.heap (locs ++ L) e1.symm (by rw [← e2]; exact X'.warmed.alike) hp hb k1 k2 k3 (by rw [e1]; exact hce) hcv hcl T' rfl X'
    exact ⟨t2, st.trans a1, b1⟩
theorem vx_callf {S SX : Type} {post : UInt32 → S → Prop} {px : SX → Prop} {B : S → State → Prop} {BX : String → SX → State → Prop} {AX : Nat → Prop} (hr : vx_Run p l e R s m args below meth c H locs cells slots mc ms (F0 m pc ls st0) rest (va_Qf post B A1 a) (vx_X px BX AX) free) (hS : va_S A0 H0 H locs) (hA : ∀ q, q < H.size → A1 q → A0 q) (hf : ∀ q, free q → A0 q) (hAX : ∀ q, q < H.size → AX q → A0 q)
    (kx : ∀ (E : String) (ce : Cell) (q9 : Addr) (u : SX) (t : State) (H1 : Heap) (locs1 : List Loc), t.heap = H1 → s.vm.Alike t.vm → px u → BX E u t → H.size ≤ H1.size → (∀ q : Nat, q < H.size → ¬ AX q → H1[q]? = H[q]?) → va_S A0 H0 H1 locs1 → H1[q9]? = some ce → ce.vm = .none → s.vm.findClass E = some ce.cls → vx_W p l e R s m args below meth c H1 locs1 (cells + mc) (slots + ms) Q (F0 m pc ls rest) q9)
    (kk : ∀ (r : UInt32) (u : S) (t : State) (H1 : Heap) (locs1 : List Loc), t.heap = H1 → s.vm.Alike t.vm → post r u → B u t → H.size ≤ H1.size → (∀ q : Nat, q < H.size → ¬ A1 q → H1[q]? = H[q]?) → va_S A0 H0 H1 locs1 → W p l e R s m args below meth c H1 locs1 (cells + mc) (slots + ms) Q (F0 m (pc + 3) ls (.float r :: rest))) : W p l e R s m args below meth c H locs cells slots Q (F0 m pc ls st0) := by
  intro T hT X
  rcases hr T hT X with ⟨v, st₀, t, T', L, h0, X', hL, e1, e2, ⟨⟨r, u, hv, hp, hb⟩, hF⟩, st⟩ | ⟨q, st₀, t, T', L, E, ce, h0, X', hL, e1, e2, ⟨u, hp, hb, hF⟩, hce, hcv, hcl, st⟩
  · cases hv
    obtain ⟨k1, k2, k3⟩ := vx_keep h0 e1 hS hA hf hL hF
    obtain ⟨t2, a1, b1⟩ := kk r u t T'.heap (locs ++ L) e1.symm (by rw [← e2]; exact X'.warmed.alike) hp hb k1 k2 k3 T' rfl X'
    exact ⟨t2, st t2 a1, b1⟩
  · obtain ⟨k1, k2, k3⟩ := vx_keep h0 e1 hS hAX hf hL hF
    obtain ⟨t2, a1, b1⟩ := kx E ce q u t T'.heap (locs ++ L) e1.symm (by rw [← e2]; exact X'.warmed.alike) hp hb k1 k2 k3 (by rw [e1]; exact hce) hcv hcl T' rfl X'
    exact ⟨t2, st.trans a1, b1⟩
theorem vx_calld {S SX : Type} {post : UInt64 → S → Prop} {px : SX → Prop} {B : S → State → Prop} {BX : String → SX → State → Prop} {AX : Nat → Prop} (hr : vx_Run p l e R s m args below meth c H locs cells slots mc ms (F0 m pc ls st0) rest (va_Qd post B A1 a) (vx_X px BX AX) free) (hS : va_S A0 H0 H locs) (hA : ∀ q, q < H.size → A1 q → A0 q) (hf : ∀ q, free q → A0 q) (hAX : ∀ q, q < H.size → AX q → A0 q)
    (kx : ∀ (E : String) (ce : Cell) (q9 : Addr) (u : SX) (t : State) (H1 : Heap) (locs1 : List Loc), t.heap = H1 → s.vm.Alike t.vm → px u → BX E u t → H.size ≤ H1.size → (∀ q : Nat, q < H.size → ¬ AX q → H1[q]? = H[q]?) → va_S A0 H0 H1 locs1 → H1[q9]? = some ce → ce.vm = .none → s.vm.findClass E = some ce.cls → vx_W p l e R s m args below meth c H1 locs1 (cells + mc) (slots + ms) Q (F0 m pc ls rest) q9)
    (kk : ∀ (r : UInt64) (u : S) (t : State) (H1 : Heap) (locs1 : List Loc), t.heap = H1 → s.vm.Alike t.vm → post r u → B u t → H.size ≤ H1.size → (∀ q : Nat, q < H.size → ¬ A1 q → H1[q]? = H[q]?) → va_S A0 H0 H1 locs1 → W p l e R s m args below meth c H1 locs1 (cells + mc) (slots + ms) Q (F0 m (pc + 3) ls (.double r :: rest))) : W p l e R s m args below meth c H locs cells slots Q (F0 m pc ls st0) := by
  intro T hT X
  rcases hr T hT X with ⟨v, st₀, t, T', L, h0, X', hL, e1, e2, ⟨⟨r, u, hv, hp, hb⟩, hF⟩, st⟩ | ⟨q, st₀, t, T', L, E, ce, h0, X', hL, e1, e2, ⟨u, hp, hb, hF⟩, hce, hcv, hcl, st⟩
  · cases hv
    obtain ⟨k1, k2, k3⟩ := vx_keep h0 e1 hS hA hf hL hF
    obtain ⟨t2, a1, b1⟩ := kk r u t T'.heap (locs ++ L) e1.symm (by rw [← e2]; exact X'.warmed.alike) hp hb k1 k2 k3 T' rfl X'
    exact ⟨t2, st t2 a1, b1⟩
  · obtain ⟨k1, k2, k3⟩ := vx_keep h0 e1 hS hAX hf hL hF
    obtain ⟨t2, a1, b1⟩ := kx E ce q u t T'.heap (locs ++ L) e1.symm (by rw [← e2]; exact X'.warmed.alike) hp hb k1 k2 k3 (by rw [e1]; exact hce) hcv hcl T' rfl X'
    exact ⟨t2, st.trans a1, b1⟩
theorem vx_callv {S SX : Type} {post : S → Prop} {px : SX → Prop} {B : S → State → Prop} {BX : String → SX → State → Prop} {AX : Nat → Prop} (hr : vx_Run p l e R s m args below meth c H locs cells slots mc ms (F0 m pc ls st0) rest (va_Qv post B A1 a) (vx_X px BX AX) free) (hS : va_S A0 H0 H locs) (hA : ∀ q, q < H.size → A1 q → A0 q) (hf : ∀ q, free q → A0 q) (hAX : ∀ q, q < H.size → AX q → A0 q)
    (kx : ∀ (E : String) (ce : Cell) (q9 : Addr) (u : SX) (t : State) (H1 : Heap) (locs1 : List Loc), t.heap = H1 → s.vm.Alike t.vm → px u → BX E u t → H.size ≤ H1.size → (∀ q : Nat, q < H.size → ¬ AX q → H1[q]? = H[q]?) → va_S A0 H0 H1 locs1 → H1[q9]? = some ce → ce.vm = .none → s.vm.findClass E = some ce.cls → vx_W p l e R s m args below meth c H1 locs1 (cells + mc) (slots + ms) Q (F0 m pc ls rest) q9)
    (kk : ∀ (u : S) (t : State) (H1 : Heap) (locs1 : List Loc), t.heap = H1 → s.vm.Alike t.vm → post u → B u t → H.size ≤ H1.size → (∀ q : Nat, q < H.size → ¬ A1 q → H1[q]? = H[q]?) → va_S A0 H0 H1 locs1 → W p l e R s m args below meth c H1 locs1 (cells + mc) (slots + ms) Q (F0 m (pc + 3) ls (rest))) : W p l e R s m args below meth c H locs cells slots Q (F0 m pc ls st0) := by
  intro T hT X
  rcases hr T hT X with ⟨v, st₀, t, T', L, h0, X', hL, e1, e2, ⟨⟨u, hv, hp, hb⟩, hF⟩, st⟩ | ⟨q, st₀, t, T', L, E, ce, h0, X', hL, e1, e2, ⟨u, hp, hb, hF⟩, hce, hcv, hcl, st⟩
  · cases hv
    obtain ⟨k1, k2, k3⟩ := vx_keep h0 e1 hS hA hf hL hF
    obtain ⟨t2, a1, b1⟩ := kk u t T'.heap (locs ++ L) e1.symm (by rw [← e2]; exact X'.warmed.alike) hp hb k1 k2 k3 T' rfl X'
    exact ⟨t2, st t2 a1, b1⟩
  · obtain ⟨k1, k2, k3⟩ := vx_keep h0 e1 hS hAX hf hL hF
    obtain ⟨t2, a1, b1⟩ := kx E ce q u t T'.heap (locs ++ L) e1.symm (by rw [← e2]; exact X'.warmed.alike) hp hb k1 k2 k3 (by rw [e1]; exact hce) hcv hcl T' rfl X'
    exact ⟨t2, st.trans a1, b1⟩
/-- caught by the row x of this method's table; the rows ahead don't take it -/
theorem vx_catch {own name : String} {E : String} {ce : Cell} {q : Addr} (hown : s.vm.findClass own = some m.cls) (pre : List ExceptionTableEntry) (x : ExceptionTableEntry) (suf : List ExceptionTableEntry) (hsplit : c.exceptionTable.toList = pre ++ x :: suf)
    (hpass : ∀ z ∈ pre, covers z pc = false ∨ (z.catchType ≠ 0 ∧ ∃ nm : String, (Cond.classLink own z.catchType nm).before args s = true ∧ va_Nc E nm s)) (hx : covers x pc = true) (h0 : x.catchType ≠ 0)
    (hlink : (Cond.classLink own x.catchType name).before args s = true) (hcast : (Cond.castable E name).before args s = true) (hcell : H[q]? = some ce) (hv : ce.vm = .none) (hcl : s.vm.findClass E = some ce.cls)
    (kk : W p l e R s m args below meth c H locs cells slots Q (F0 m x.handlerPc ls [.ref q])) : vx_W p l e R s m args below meth c H locs cells slots Q (F0 m pc ls rest) q := by
  intro T hT X
  have hpl : e.platform.magicAccessors = ({} : Platform).magicAccessors := by rw [X.admits.platform]
  obtain ⟨c3, c4, hc3, hc4, hasg⟩ := Cond.castable_spec hcast
  cases Option.some.inj (hc3.symm.trans hcl)
  obtain ⟨c5, hc5, hcl5⟩ := Cond.classLink_spec hown hlink e.platform hpl
  cases Option.some.inj (hc4.symm.trans hc5)
  obtain ⟨vm', X', st⟩ := X.thenCaughtThrough q (g := F0 m pc ls rest) rfl (Steps.refl _) (by rw [hT]; exact hcell) (by rw [hv]; rfl) (by obtain ⟨k9, h9, -⟩ := Vm.findClass_spec hcl; exact ⟨k9, h9⟩) pre x suf hsplit
    (fun z hz => by
      rcases hpass z hz with h | ⟨hz0, nm, hl1, hn1⟩
      · exact Or.inl h
      · obtain ⟨c6, hc6, hcl6⟩ := Cond.classLink_spec hown hl1 e.platform hpl
        obtain ⟨a8, b8, h1, h2, h3⟩ := hn1
        cases Option.some.inj (h1.symm.trans hcl)
        cases Option.some.inj (h2.symm.trans hc6)
        exact Or.inr ⟨hz0, _, hcl6, h3⟩) hx (Or.inr ⟨h0, c4, hcl5, hasg⟩)
  obtain ⟨t, a1, b1⟩ := kk (T.setVm vm') hT X'
  exact ⟨t, st.trans a1, b1⟩
end Rows
section Ends
variable {p : Program} {l : Launch} {e : Env} {R : Room} {s : State} {m : MethodId} {args : Array Value} {below : List Frame} {meth : Method} {c : Code} {H : Heap} {locs : List Loc} {cells slots : Nat} {Q : State → Prop}
variable {mc ms : Nat} {free : Addr → Prop} {A0 A1 : Nat → Prop} {H0 : Heap} {a : Array Value} {ls : Array Slot} {st0 rest : List Value}
variable {Qc : Array Value → State → Outcome → State → Prop} {XC : String → State → State → Prop}
/-- what a body that may throw owes at its end -/
def vx_MQ (below : List Frame) (Qc : Array Value → State → Outcome → State → Prop) (XC : String → State → State → Prop) (a : Array Value) (s : State) (mc ms : Nat) (free : Addr → Prop) : State → Prop := fun t =>
  ∃ o, t.status = .running ∧ Ended t below o ∧ vx_Q Qc XC mc ms free a s o t
theorem vx_ret {g : JFrame} {mc ms : Nat} (k : W p l e R s m args below meth c H locs cells slots (MQ below Qc args s mc ms free) g) : W p l e R s m args below meth c H locs cells slots (vx_MQ below Qc XC args s mc ms free) g := by
  intro T hT X
  obtain ⟨t, a1, o, b1, b2, b3, b4⟩ := k T hT X
  exact ⟨t, a1, o, b1, b2, Or.inl ⟨b3, b4⟩⟩
/-- not caught here: it goes on to the caller -/
theorem vx_widen {g : JFrame} {q : Addr} {k n : Nat} (h1 : cells ≤ k) (h2 : slots ≤ n) (kk : vx_W p l e R s m args below meth c H locs k n Q g q) : vx_W p l e R s m args below meth c H locs cells slots Q g q := fun T hT X => kk T hT (stand_widen X h1 h2)
theorem vx_out {pc : Nat} {E : String} {ce : Cell} {q : Addr} {mc ms : Nat} (hout : ∀ x ∈ c.exceptionTable.toList, covers x pc = false) (hlocks : meth.locks = false) (hcell : H[q]? = some ce) (hv : ce.vm = .none) (hcl : s.vm.findClass E = some ce.cls)
    (hx : ∀ t : State, t.heap = H → s.vm.Alike t.vm → XC E s t) (hf : ∀ z ∈ locs, free z.base) (hc : cells ≤ mc) (hs : slots ≤ ms) :
    vx_W p l e R s m args below meth c H locs cells slots (vx_MQ below Qc XC args s mc ms free) (F0 m pc ls rest) q := by
  intro T hT X
  obtain ⟨st1, hrun, hend, hW, hsm⟩ := X.leaveThrown q (g := F0 m pc ls rest) rfl rfl rfl hout hlocks
  have hcell9 : (T.setFrames (.throwing q :: below)).heap[q]? = some ce := by
    show T.heap[q]? = some ce
    rw [hT]; exact hcell
  exact ⟨_, st1, .threw q, hrun, hend, Or.inr ⟨q, rfl, E, ce, locs, hx _ hT hW.alike, hcell9, hv, hcl, hW, hsm.mono hc hs, hf⟩⟩
theorem vx_frame {U : State} {k n : Nat} (h : s.sameButNew ({ U with vm := s.vm } : State) locs k n) : s.heap.size ≤ U.heap.size ∧ ∀ q : Nat, q < s.heap.size → (∀ z ∈ locs, z.base ≠ q) → U.heap[q]? = s.heap[q]? := by
  obtain ⟨-, h2, -, -, -, h6⟩ := h
  refine ⟨h2, fun q hq hz => ?_⟩
  obtain ⟨c9, e1, e2, e3, e4⟩ := h6 q _ (Array.getElem?_eq_getElem hq)
  have hs : c9.slots = (s.heap[q]).slots := Array.ext_getElem? fun i => e4 i fun hm => hz _ hm rfl
  have h9 : c9 = s.heap[q] := by
    rw [hs] at e2
    exact e2
  have e5 : U.heap[q]? = some c9 := e1
  rw [e5, h9, Array.getElem?_eq_getElem hq]
/-- the words of a throw but the four that speak of the heap -/
def vx_no (w : Cond) : Bool := decide (w ≠ .isRef (.static Bundle.tN "UNASSIGNED_STACK" Bundle.steD)) && decide (w ≠ .isRef (.static Bundle.tN "SUPPRESSED_SENTINEL" Bundle.listD)) && decide (w ≠ .laysStatic Bundle.tN "UNASSIGNED_STACK" Bundle.steD) && decide (w ≠ .laysStatic Bundle.tN "SUPPRESSED_SENTINEL" Bundle.listD)
def vx_at0 (own : String) (ic : Nat) (X : String) (names : List String) : List Cond := (Bundle.ownAtoms0 own ic X names).filter vx_no
def vx_atS (own : String) (ic : Nat) (X : String) (names : List String) : List Cond := (Bundle.ownAtoms own ic X names).filter vx_no
/-- a word that the tables alone decide, or a good one -/
def vx_ot (w : Cond) : Bool := w.onTables || goodWord w
theorem vx_ot_at {args a' : Array Value} {s U : State} {w : Cond} (hW : s.WarmedH U.vm) (hvm : s.vm = U.vm) (hg : vx_ot w = true) (h : w.before args s = true) : w.before a' U = true := by
  simp only [vx_ot, Bool.or_eq_true] at hg
  rcases hg with hg | hg
  · exact va_tabs hg hvm h
  · exact word_at hW (good_of_word hg) h
/-- a list's words: the good ones out of the method's own list, the others by premises of their own -/
theorem vx_hat {args : Array Value} {s : State} {L B : List Cond} (h1 : ∀ w ∈ L.filter goodWord, w.before args s = true) (h2 : ∀ w ∈ L.filter (fun w => !goodWord w), w ∈ B) (h3 : ∀ w ∈ B, w.before args s = true) : ∀ w ∈ L, w.before args s = true := by
  intro w hw
  by_cases g : goodWord w = true
  · exact h1 w (List.mem_filter.mpr ⟨hw, g⟩)
  · refine h3 w (h2 w (List.mem_filter.mpr ⟨hw, ?_⟩))
    show (!goodWord w) = true
    cases hgw : goodWord w
    · rfl
    · exact absurd hgw g
theorem vx_c {args : Array Value} {s : State} {w : Cond} {B : List Cond} (h : w.before args s = true) (t : ∀ w ∈ B, w.before args s = true) : ∀ w' ∈ w :: B, w'.before args s = true := fun w' h' => (List.mem_cons.mp h').elim (fun e => by rw [e]; exact h) (t w')
theorem vx_n {args : Array Value} {s : State} : ∀ w ∈ ([] : List Cond), w.before args s = true := fun _ h => nomatch h
theorem vx_own {args : Array Value} {s : State} {L : List Cond} (h1 : ∀ w ∈ L.filter vx_no, w.before args s = true)
    (hU : (Cond.isRef (.static Bundle.tN "UNASSIGNED_STACK" Bundle.steD)).before args s = true) (hN : (Cond.isRef (.static Bundle.tN "SUPPRESSED_SENTINEL" Bundle.listD)).before args s = true)
    (lU : (Cond.laysStatic Bundle.tN "UNASSIGNED_STACK" Bundle.steD).before args s = true) (lN : (Cond.laysStatic Bundle.tN "SUPPRESSED_SENTINEL" Bundle.listD).before args s = true) : ∀ w ∈ L, w.before args s = true := by
  intro w hw
  by_cases e1 : w = .isRef (.static Bundle.tN "UNASSIGNED_STACK" Bundle.steD)
  · rw [e1]; exact hU
  · by_cases e2 : w = .isRef (.static Bundle.tN "SUPPRESSED_SENTINEL" Bundle.listD)
    · rw [e2]; exact hN
    · by_cases e3 : w = .laysStatic Bundle.tN "UNASSIGNED_STACK" Bundle.steD
      · rw [e3]; exact lU
      · by_cases e4 : w = .laysStatic Bundle.tN "SUPPRESSED_SENTINEL" Bundle.listD
        · rw [e4]; exact lN
        · exact h1 w (List.mem_filter.mpr ⟨hw, by unfold vx_no; rw [decide_eq_true e1, decide_eq_true e2, decide_eq_true e3, decide_eq_true e4]; rfl⟩)
/-- where a static field lies, its class's statics cell in H -/
def vx_L (C n d : String) (A : Nat → Prop) (U : State) (H : Heap) : Prop := ∃ (c : ClassId) (k : Class) (i : Nat) (f : Field) (a : Nat) (cell : Cell), U.vm.findClass C = some c ∧ U.fieldFound? C n d = some (c, k, i, f) ∧ f.isStatic = true ∧ k.statics = some a ∧ H[a]? = some cell ∧ cell.vm.isStatics = true ∧ cell.cls = c ∧ f.slot < cell.slots.size ∧ k.staticTypes[f.slot]? = some f.type ∧ ¬ A a
theorem vx_L.moved {C n d : String} {A : Nat → Prop} {u U : State} {H : Heap} (hvm : u.vm.Alike U.vm) (h : vx_L C n d A u H) : vx_L C n d A U H := by
  obtain ⟨c, k, i, f, a, cell, h1, h2, h3, h4, h5, h6, h7, h8, h9, h10⟩ := h
  obtain ⟨k', hi', he⟩ := State.fieldFound?_setVm hvm h2
  exact ⟨c, k', i, f, a, cell, by rw [hvm.findClass]; exact h1, hi', h3, by rw [he]; exact h4, h5, h6, h7, h8, by rw [he]; exact h9, h10⟩
theorem vx_L.kept {C n d : String} {A : Nat → Prop} {U : State} {H H1 : Heap} (h : vx_L C n d A U H) (hq : ∀ a : Nat, a < H.size → ¬ A a → H1[a]? = H[a]?) : vx_L C n d A U H1 := by
  obtain ⟨c, k, i, f, a, cell, h1, h2, h3, h4, h5, h6, h7, h8, h9, h10⟩ := h
  exact ⟨c, k, i, f, a, cell, h1, h2, h3, h4, by rw [hq a (Array.getElem?_eq_some_iff.mp h5).1 h10]; exact h5, h6, h7, h8, h9, h10⟩
theorem vx_L.narrow {C n d : String} {A B : Nat → Prop} {U : State} {H : Heap} (h : vx_L C n d A U H) (hAB : ∀ q, B q → A q) : vx_L C n d B U H := by
  obtain ⟨c, k, i, f, a, cell, h1, h2, h3, h4, h5, h6, h7, h8, h9, h10⟩ := h
  exact ⟨c, k, i, f, a, cell, h1, h2, h3, h4, h5, h6, h7, h8, h9, fun z => h10 (hAB _ z)⟩
theorem vx_L.word {C n d : String} {A : Nat → Prop} {s : State} {args : Array Value} (h : vx_L C n d A s s.heap) : (Cond.laysStatic C n d).before args s = true := by
  obtain ⟨c, k, i, f, a, cell, h1, h2, h3, h4, h5, h6, h7, h8, h9, -⟩ := h
  show (Cond.laysStatic C n d).holds args s none s [] = true
  exact Cond.laysStatic_of h1 h2 h3 h4 h5 h6 h7 h8 h9
/-- .. and what it holds: null or some reference -/
def vx_Zq (C n d : String) (A : Nat → Prop) (U : State) (H : Heap) : Prop := va_Zq C n d A U H ∧ vx_L C n d A U H
theorem vx_Zq.moved {C n d : String} {A : Nat → Prop} {u U : State} {H : Heap} (hvm : u.vm.Alike U.vm) (h : vx_Zq C n d A u H) : vx_Zq C n d A U H := ⟨va_Zq.moved hvm h.1, vx_L.moved hvm h.2⟩
theorem vx_Zq.kept {C n d : String} {A : Nat → Prop} {U : State} {H H1 : Heap} (h : vx_Zq C n d A U H) (hq : ∀ a : Nat, a < H.size → ¬ A a → H1[a]? = H[a]?) : vx_Zq C n d A U H1 := ⟨va_Zq.kept h.1 hq, vx_L.kept h.2 hq⟩
theorem vx_Zq.narrow {C n d : String} {A B : Nat → Prop} {U : State} {H : Heap} (h : vx_Zq C n d A U H) (hAB : ∀ q, B q → A q) : vx_Zq C n d B U H := ⟨va_Zq.narrow h.1 hAB, vx_L.narrow h.2 hAB⟩
theorem vx_Zqof {args : Array Value} {s : State} {C n d : String} {A : Nat → Prop} (hl : (Cond.laysStatic C n d).before args s = true) (hini : (Cond.initialized C).before args s = true) (h : (Cond.isRef (.static C n d)).before args s = true) (hA : ∀ a : Nat, a < s.heap.size → ¬ A a) : vx_Zq C n d A s s.heap := by
  refine ⟨va_Zqof hl hini h hA, ?_⟩
  obtain ⟨c, k, i, f, a, cell, h1, h2, h3, h4, h5, h6, h7, h8, h9⟩ := Cond.laysStatic_spec hl
  exact ⟨c, k, i, f, a, cell, h1, h2, h3, h4, h5, h6, h7, h8, h9, hA a (Array.getElem?_eq_some_iff.mp h5).1⟩
theorem vx_isRef {C n d : String} {v : Value} {A : Nat → Prop} {s : State} {args : Array Value} (h : va_Z C n d v A s s.heap) (hv : v.isRef = true) : (Cond.isRef (.static C n d)).before args s = true := by
  obtain ⟨cf, kf, fi, f, a, cell, h1, h2, h3, h4, h5, h6, h7, -⟩ := h
  have he : (Term.static C n d).eval args s none [] s = some v := by
    simp [Term.eval, State.fieldNamed?, h1, h2, h4, h5, h6, h7]
  simp only [Cond.before, Cond.holds, Cond.value, he]
  cases v <;> simp_all [Value.isRef]
theorem vx_isRefq {C n d : String} {A : Nat → Prop} {s : State} {args : Array Value} (h : va_Zq C n d A s s.heap) : (Cond.isRef (.static C n d)).before args s = true := by
  rcases h with h | ⟨t, h⟩
  · exact vx_isRef h rfl
  · exact vx_isRef h rfl
/-- the same frame, seen from here: as if the method were called anew in this heap -/
theorem vx_rebase {T : State} (X : Stand p l e R s m args below meth c T locs cells slots) {R' : Room} (hf : R'.frames ≤ R.frames) (hl : R'.locals ≤ R.locals) (hc : cells + R'.cells ≤ R.cells) (hs : slots + R'.slots ≤ R.slots) :
    Stand p l e R' ((T.setVm s.vm).setFrames (.invoking m args :: below)) m args below meth c T [] 0 0 := by
  have htop : (T.setVm s.vm).topJava?.isSome := X.here.top
  have hF : ((T.setVm s.vm).setFrames (.invoking m args :: below)).frames = .invoking m args :: below := State.frames_setFrames _ (State.cur_lt_of_top htop)
  obtain ⟨g₀, hg0⟩ := Option.isSome_iff_exists.mp htop
  obtain ⟨r, hr⟩ := State.topJava?_eq_some.mp hg0
  have hl9 : e.platform.stackLimits (T.setVm s.vm).me = e.platform.stackLimits s.me := X.limits
  have hb9 : (T.setVm s.vm).me.stackBytes = s.me.stackBytes := X.bytes
  refine ⟨X.admits, X.cas, X.clock, hF, ?_, X.hears, X.method, X.code, X.here, X.tail, X.warmed, ?_, ?_, ?_⟩
  · have h := X.room
    have hU : ((T.setVm s.vm).setFrames (.invoking m args :: below)).localsInUse = s.localsInUse := by
      rw [State.localsInUse_invoking hF (meth := meth) (c := c) X.method X.code, State.localsInUse_invoking X.frames X.method X.code]
    simp only [State.hasRoom, Bool.and_eq_true, decide_eq_true_eq] at h ⊢
    obtain ⟨⟨⟨⟨h1, h2, h3, h4, h5, h6⟩, h7⟩, h8⟩, h9⟩ := h
    rw [X.frames, List.length_cons] at h2 h3
    have q1 := X.heapSize
    have q2 := X.used
    simp only [hF, hU, List.length_cons, State.stackLimits_setFrames, State.stackBytes_setFrames, hl9, hb9]
    refine ⟨⟨⟨⟨by omega, by omega, by omega, by omega, by omega, h6⟩, ?_⟩, ?_⟩, X.book⟩
    · show T.heap.size + R'.cells ≤ e.platform.maxCells
      omega
    · show T.slotsUsed + R'.slots ≤ e.platform.maxSlots
      omega
  · rw [State.stackLimits_setFrames]; rfl
  · rw [State.stackBytes_setFrames]; rfl
  · refine ⟨?_, Nat.le_refl _, Nat.le_refl _, ?_, ?_, fun a c9 h9 => ⟨c9, h9, rfl, rfl, fun _ _ => rfl⟩⟩
    · obtain ⟨t, ht, -⟩ := State.frames_cons hr
      show T.setVm s.vm = { ((T.setVm s.vm).setFrames (.invoking m args :: below)).setFrames (T.setVm s.vm).frames with heap := T.heap, slotsUsed := T.slotsUsed }
      rw [State.setFrames_setFrames, State.setFrames_self ht]
      rfl
    · show T.slotsUsed = T.slotsUsed + ((T.heap.toList.drop T.heap.size).map (·.slots.size)).sum
      rw [List.drop_eq_nil_of_le (Nat.le_of_eq Array.length_toList)]
      rfl
    · show ((T.heap.toList.drop T.heap.size).map (·.slots.size)).sum ≤ 0
      rw [List.drop_eq_nil_of_le (Nat.le_of_eq Array.length_toList)]
      exact Nat.le_refl _
/-- 'throw new E()': new; dup; invokespecial; athrow -/
theorem vx_throw0 {cc : ByteArray} {pc : Nat} (hexec : p.tables.exec = Jvm.exec) (hb : c.code = cc) (hl : l.stackTraces = false) {own cls : String} {names : List String} {ik ic mc ms : Nat} {A : Nat → Prop}
    (hown : s.vm.findClass own = some m.cls) (hcls : Bundle.fit cls = true) (hnames : ∀ n ∈ names, Bundle.fit n = true)
    (hk : (Cond.classLink own ik cls).before args s = true) (hini : (Cond.initialized cls).before args s = true) (hat : ∀ w ∈ vx_at0 own ic cls names, w.before args s = true)
    (hgood : ∀ w ∈ Cond.classLink own ik cls :: Cond.initialized cls :: vx_at0 own ic cls names, vx_ot w = true)
    (hU : vx_Zq Bundle.tN "UNASSIGNED_STACK" Bundle.steD A s s.heap) (hN : vx_Zq Bundle.tN "SUPPRESSED_SENTINEL" Bundle.listD A s s.heap) (hS : va_S A s.heap H locs) (hsize : ls.size = c.maxLocals)
    (d0 : decode cc pc = .ok (.new ik, 3)) (d3 : decode cc (pc + 3) = .ok (.dup, 1)) (d4 : decode cc (pc + 4) = .ok (.invokespecial ic, 3)) (d7 : decode cc (pc + 7) = .ok (.athrow, 1))
    (hout : ∀ x ∈ c.exceptionTable.toList, covers x (pc + 7) = false)
    (hRframes : names.length + 3 < R.frames) (hRlocals : (rest.map fun v => v.category).sum + (13 * (names.length + 1) + 42) ≤ R.locals) (hRcells : cells + 1 ≤ R.cells) (hRslots : slots + 6 ≤ R.slots) (hlocks : meth.locks = false)
    (hx : ∀ t : State, s.vm.Alike t.vm → H.size ≤ t.heap.size → (∀ q : Nat, q < H.size → t.heap[q]? = H[q]?) → XC cls s t)
    (hf : ∀ z ∈ locs, free z.base) (hc : cells + 1 ≤ mc) (hs : slots + 6 ≤ ms) :
    W p l e R s m args below meth c H locs cells slots (vx_MQ below Qc XC args s mc ms free) (F0 m pc ls rest) := by
  intro T hT X
  have htr : e.platform.stackTraces = false := (show e.platform.stackTraces = l.stackTraces by rw [X.admits.platform]).trans hl
  have Y := vx_rebase X (R' := { frames := R.frames, locals := R.locals, cells := 1, slots := 6 }) (Nat.le_refl _) (Nat.le_refl _) hRcells hRslots
  obtain ⟨s', hA⟩ : ∃ z, z = (T.setVm s.vm).setFrames (.invoking m args :: below) := ⟨_, rfl⟩
  rw [← hA] at Y
  have hvm : s'.vm = s.vm := by rw [hA]; rfl
  have hhp : s'.heap = H := by rw [hA]; exact hT
  have hW0 : s.WarmedH s'.vm := by rw [hvm]; exact State.WarmedH.refl s
  have hat' : ∀ w ∈ vx_at0 own ic cls names, w.before args s' = true := fun w hw => vx_ot_at hW0 hvm.symm (hgood w (List.mem_cons_of_mem _ (List.mem_cons_of_mem _ hw))) (hat w hw)
  have hk' : (Cond.classLink own ik cls).before args s' = true := vx_ot_at hW0 hvm.symm (hgood _ List.mem_cons_self) hk
  have hini' : (Cond.initialized cls).before args s' = true := vx_ot_at hW0 hvm.symm (hgood _ (List.mem_cons_of_mem _ List.mem_cons_self)) hini
  have hU' : vx_Zq Bundle.tN "UNASSIGNED_STACK" Bundle.steD A s' s'.heap := by rw [hhp]; exact vx_Zq.moved hW0.alike (hU.kept hS.2.1)
  have hN' : vx_Zq Bundle.tN "SUPPRESSED_SENTINEL" Bundle.listD A s' s'.heap := by rw [hhp]; exact vx_Zq.moved hW0.alike (hN.kept hS.2.1)
  have h : ∀ w ∈ Bundle.ownAtoms0 own ic cls names, w.before args s' = true := vx_own hat' (vx_isRefq hU'.1) (vx_isRefq hN'.1) hU'.2.word hN'.2.word
  have hown' : s'.vm.findClass own = some m.cls := by rw [hvm]; exact hown
  have hins : (Cond.instantiable cls 6).before args s' = true := h _ (by simp [Bundle.ownAtoms0])
  obtain ⟨vm₁, cX, kX, hfX, hkX, -, -, X₁, st1⟩ := Y.newCold hexec (own := own) (C := cls) (index := ik) (n := 6) hown' hk' hins hini'
    (g := F0 m pc ls rest) rfl (by rw [hb]; exact d0) (Nat.le_refl _) (Nat.le_refl _)
  generalize hT1 : (T.setVm vm₁).pushCell { cls := cX, slots := kX.instanceTypes.map defaultValue, vm := .none } = T1 at X₁ st1
  have hcat : (Value.ref T.heap.size).category = 1 := rfl
  have hcellA : T1.heap[T.heap.size]? = some (freshCell cX kX) := by rw [← hT1]; exact State.heap_pushCell_size _ _
  have d3' : decode c.code (pc + 3) = .ok (.dup, 1) := by rw [hb]; exact d3
  obtain ⟨U, hsteps, hrun, hend, hW, hsame, ce, hce, hO⟩ := X₁.ctorThrow0 hexec htr (own := own) (cls := cls) (names := names) (ic := ic) hown' hcls hnames h (fun x hx => nomatch hx) hfX hkX hcellA (by rw [hhp, hT]; exact Nat.le_refl _)
    (g := { method := m, pc := pc + 4, locals := ls, stack := .ref T.heap.size :: .ref T.heap.size :: rest, locked := none }) rfl hsize rfl rfl (rest := rest) rfl
    (by rw [hb]; exact d4) (by rw [hb]; exact d7) hout hRframes (by simp only [List.map_cons, List.sum_cons, hcat]; omega) hlocks
  obtain ⟨f1, f2⟩ := vx_frame hsame
  rw [hhp] at f1 f2
  have hWs : s.WarmedH U.vm := State.WarmedH.trans hW0 hW
  have hcl : s.vm.findClass cls = some ce.cls := by
    have h9 := hO.cls
    rw [hvm] at h9
    exact h9
  have hall : s.sameButNew ({ U with vm := s.vm } : State) locs mc ms := by
    subst hA
    obtain ⟨e1, e2⟩ := hsame
    rw [State.setFrames_setFrames] at e1
    have h2 : (T.setVm s.vm).sameButNew ({ U with vm := s.vm } : State) [] (0 + 1) (0 + 6) := ⟨e1, e2⟩
    have h3 := X.same.trans h2
    rw [List.append_nil] at h3
    exact h3.mono hc hs
  refine ⟨U, ?_, .threw T.heap.size, hrun, hend, Or.inr ⟨T.heap.size, rfl, cls, ce, locs, hx U hWs.alike f1 (fun q hq => f2 q hq (fun z hz => nomatch hz)), hce, hO.vm, hcl, hWs, hall, hf⟩⟩
  refine st1 _ ?_
  show Steps p.tables e below (T1.setTop { method := m, pc := pc + 3, locals := ls, stack := .ref T.heap.size :: rest, locked := none }) _
  jvm_step X₁.here [X₁.here.top, hexec, d3', Value.category]
  exact hsteps
/-- 'throw new E("text")': new; dup; ldc; invokespecial; athrow -/
theorem vx_throwS {cc : ByteArray} {pc : Nat} (hexec : p.tables.exec = Jvm.exec) (hb : c.code = cc) (hl : l.stackTraces = false) {own cls text : String} {names : List String} {ik is ic mc ms sa : Nat} {A : Nat → Prop}
    (hown : s.vm.findClass own = some m.cls) (hcls : Bundle.fit cls = true) (hnames : ∀ n ∈ names, Bundle.fit n = true)
    (hk : (Cond.classLink own ik cls).before args s = true) (hini : (Cond.initialized cls).before args s = true) (hstr : vk_R own is text sa s) (hat : ∀ w ∈ vx_atS own ic cls names, w.before args s = true)
    (hgood : ∀ w ∈ Cond.classLink own ik cls :: Cond.initialized cls :: vx_atS own ic cls names, vx_ot w = true)
    (hU : vx_Zq Bundle.tN "UNASSIGNED_STACK" Bundle.steD A s s.heap) (hN : vx_Zq Bundle.tN "SUPPRESSED_SENTINEL" Bundle.listD A s s.heap) (hS : va_S A s.heap H locs) (hsize : ls.size = c.maxLocals)
    (d0 : decode cc pc = .ok (.new ik, 3)) (d3 : decode cc (pc + 3) = .ok (.dup, 1)) (d4 : decode cc (pc + 4) = .ok (.ldc is, 2)) (d6 : decode cc (pc + 6) = .ok (.invokespecial ic, 3)) (d9 : decode cc (pc + 9) = .ok (.athrow, 1))
    (hout : ∀ x ∈ c.exceptionTable.toList, covers x (pc + 9) = false)
    (hRframes : names.length + 3 < R.frames) (hRlocals : (rest.map fun v => v.category).sum + (13 * (names.length + 1) + 43) ≤ R.locals) (hRcells : cells + 1 ≤ R.cells) (hRslots : slots + 6 ≤ R.slots) (hlocks : meth.locks = false)
    (hx : ∀ t : State, s.vm.Alike t.vm → H.size ≤ t.heap.size → (∀ q : Nat, q < H.size → t.heap[q]? = H[q]?) → XC cls s t)
    (hf : ∀ z ∈ locs, free z.base) (hc : cells + 1 ≤ mc) (hs : slots + 6 ≤ ms) :
    W p l e R s m args below meth c H locs cells slots (vx_MQ below Qc XC args s mc ms free) (F0 m pc ls rest) := by
  intro T hT X
  have htr : e.platform.stackTraces = false := (show e.platform.stackTraces = l.stackTraces by rw [X.admits.platform]).trans hl
  have Y := vx_rebase X (R' := { frames := R.frames, locals := R.locals, cells := 1, slots := 6 }) (Nat.le_refl _) (Nat.le_refl _) hRcells hRslots
  obtain ⟨s', hA⟩ : ∃ z, z = (T.setVm s.vm).setFrames (.invoking m args :: below) := ⟨_, rfl⟩
  rw [← hA] at Y
  have hvm : s'.vm = s.vm := by rw [hA]; rfl
  have hhp : s'.heap = H := by rw [hA]; exact hT
  have hW0 : s.WarmedH s'.vm := by rw [hvm]; exact State.WarmedH.refl s
  have hat' : ∀ w ∈ vx_atS own ic cls names, w.before args s' = true := fun w hw => vx_ot_at hW0 hvm.symm (hgood w (List.mem_cons_of_mem _ (List.mem_cons_of_mem _ hw))) (hat w hw)
  have hk' : (Cond.classLink own ik cls).before args s' = true := vx_ot_at hW0 hvm.symm (hgood _ List.mem_cons_self) hk
  have hini' : (Cond.initialized cls).before args s' = true := vx_ot_at hW0 hvm.symm (hgood _ (List.mem_cons_of_mem _ List.mem_cons_self)) hini
  have hU' : vx_Zq Bundle.tN "UNASSIGNED_STACK" Bundle.steD A s' s'.heap := by rw [hhp]; exact vx_Zq.moved hW0.alike (hU.kept hS.2.1)
  have hN' : vx_Zq Bundle.tN "SUPPRESSED_SENTINEL" Bundle.listD A s' s'.heap := by rw [hhp]; exact vx_Zq.moved hW0.alike (hN.kept hS.2.1)
  have h : ∀ w ∈ Bundle.ownAtoms own ic cls names, w.before args s' = true := vx_own hat' (vx_isRefq hU'.1) (vx_isRefq hN'.1) hU'.2.word hN'.2.word
  have hown' : s'.vm.findClass own = some m.cls := by rw [hvm]; exact hown
  have hins : (Cond.instantiable cls 6).before args s' = true := h _ (by simp [Bundle.ownAtoms])
  obtain ⟨vm₁, cX, kX, hfX, hkX, -, -, X₁, st1⟩ := Y.newCold hexec (own := own) (C := cls) (index := ik) (n := 6) hown' hk' hins hini'
    (g := F0 m pc ls rest) rfl (by rw [hb]; exact d0) (Nat.le_refl _) (Nat.le_refl _)
  generalize hT1 : (T.setVm vm₁).pushCell { cls := cX, slots := kX.instanceTypes.map defaultValue, vm := .none } = T1 at X₁ st1
  have hcat : (Value.ref T.heap.size).category = 1 := rfl
  have hcellA : T1.heap[T.heap.size]? = some (freshCell cX kX) := by rw [← hT1]; exact State.heap_pushCell_size _ _
  have d3' : decode c.code (pc + 3) = .ok (.dup, 1) := by rw [hb]; exact d3
  have d4' : decode c.code (pc + 4) = .ok (.ldc is, 2) := by rw [hb]; exact d4
  have hstr' : vk_R own is text sa s' := vk_R.warm hW0 hstr
  obtain ⟨U, hsteps, hrun, hend, hW, hsame, ce, hce, hO⟩ := X₁.ctorThrowS hexec htr (own := own) (cls := cls) (names := names) (ic := ic) hown' hcls hnames h (fun x hx => nomatch hx) hfX hkX hcellA (by rw [hhp, hT]; exact Nat.le_refl _) (msg := .ref sa) rfl
    (g := { method := m, pc := pc + 6, locals := ls, stack := .ref sa :: .ref T.heap.size :: .ref T.heap.size :: rest, locked := none }) rfl hsize rfl rfl (rest := rest) rfl
    (by rw [hb]; exact d6) (by rw [hb]; exact d9) hout hRframes (by simp only [List.map_cons, List.sum_cons, hcat]; omega) hlocks
  obtain ⟨f1, f2⟩ := vx_frame hsame
  rw [hhp] at f1 f2
  have hWs : s.WarmedH U.vm := State.WarmedH.trans hW0 hW
  have hcl : s.vm.findClass cls = some ce.cls := by
    have h9 := hO.cls
    rw [hvm] at h9
    exact h9
  have hall : s.sameButNew ({ U with vm := s.vm } : State) locs mc ms := by
    subst hA
    obtain ⟨e1, e2⟩ := hsame
    rw [State.setFrames_setFrames] at e1
    have h2 : (T.setVm s.vm).sameButNew ({ U with vm := s.vm } : State) [] (0 + 1) (0 + 6) := ⟨e1, e2⟩
    have h3 := X.same.trans h2
    rw [List.append_nil] at h3
    exact h3.mono hc hs
  refine ⟨U, ?_, .threw T.heap.size, hrun, hend, Or.inr ⟨T.heap.size, rfl, cls, ce, locs, hx U hWs.alike f1 (fun q hq => f2 q hq (fun z hz => nomatch hz)), hce, hO.vm, hcl, hWs, hall, hf⟩⟩
  refine st1 _ ?_
  show Steps p.tables e below (T1.setTop { method := m, pc := pc + 3, locals := ls, stack := .ref T.heap.size :: rest, locked := none }) _
  jvm_step X₁.here [X₁.here.top, hexec, d3', Value.category]
  exact X₁.ldcString hexec (own := own) (text := text) (index := is) (a := sa) hown' hstr'.1 hstr'.2
    (g := { method := m, pc := pc + 4, locals := ls, stack := .ref T.heap.size :: .ref T.heap.size :: rest, locked := none }) rfl d4' _ hsteps
/-- 'throw new E("text")', the text by a wide index -/
theorem vx_throwSW {cc : ByteArray} {pc : Nat} (hexec : p.tables.exec = Jvm.exec) (hb : c.code = cc) (hl : l.stackTraces = false) {own cls text : String} {names : List String} {ik is ic mc ms sa : Nat} {A : Nat → Prop}
    (hown : s.vm.findClass own = some m.cls) (hcls : Bundle.fit cls = true) (hnames : ∀ n ∈ names, Bundle.fit n = true)
    (hk : (Cond.classLink own ik cls).before args s = true) (hini : (Cond.initialized cls).before args s = true) (hstr : vk_R own is text sa s) (hat : ∀ w ∈ vx_atS own ic cls names, w.before args s = true)
    (hgood : ∀ w ∈ Cond.classLink own ik cls :: Cond.initialized cls :: vx_atS own ic cls names, vx_ot w = true)
    (hU : vx_Zq Bundle.tN "UNASSIGNED_STACK" Bundle.steD A s s.heap) (hN : vx_Zq Bundle.tN "SUPPRESSED_SENTINEL" Bundle.listD A s s.heap) (hS : va_S A s.heap H locs) (hsize : ls.size = c.maxLocals)
    (d0 : decode cc pc = .ok (.new ik, 3)) (d3 : decode cc (pc + 3) = .ok (.dup, 1)) (d4 : decode cc (pc + 4) = .ok (.ldc_w is, 3)) (d7 : decode cc (pc + 7) = .ok (.invokespecial ic, 3)) (d10 : decode cc (pc + 10) = .ok (.athrow, 1))
    (hout : ∀ x ∈ c.exceptionTable.toList, covers x (pc + 10) = false)
    (hRframes : names.length + 3 < R.frames) (hRlocals : (rest.map fun v => v.category).sum + (13 * (names.length + 1) + 43) ≤ R.locals) (hRcells : cells + 1 ≤ R.cells) (hRslots : slots + 6 ≤ R.slots) (hlocks : meth.locks = false)
    (hx : ∀ t : State, s.vm.Alike t.vm → H.size ≤ t.heap.size → (∀ q : Nat, q < H.size → t.heap[q]? = H[q]?) → XC cls s t)
    (hf : ∀ z ∈ locs, free z.base) (hc : cells + 1 ≤ mc) (hs : slots + 6 ≤ ms) :
    W p l e R s m args below meth c H locs cells slots (vx_MQ below Qc XC args s mc ms free) (F0 m pc ls rest) := by
  intro T hT X
  have htr : e.platform.stackTraces = false := (show e.platform.stackTraces = l.stackTraces by rw [X.admits.platform]).trans hl
  have Y := vx_rebase X (R' := { frames := R.frames, locals := R.locals, cells := 1, slots := 6 }) (Nat.le_refl _) (Nat.le_refl _) hRcells hRslots
  obtain ⟨s', hA⟩ : ∃ z, z = (T.setVm s.vm).setFrames (.invoking m args :: below) := ⟨_, rfl⟩
  rw [← hA] at Y
  have hvm : s'.vm = s.vm := by rw [hA]; rfl
  have hhp : s'.heap = H := by rw [hA]; exact hT
  have hW0 : s.WarmedH s'.vm := by rw [hvm]; exact State.WarmedH.refl s
  have hat' : ∀ w ∈ vx_atS own ic cls names, w.before args s' = true := fun w hw => vx_ot_at hW0 hvm.symm (hgood w (List.mem_cons_of_mem _ (List.mem_cons_of_mem _ hw))) (hat w hw)
  have hk' : (Cond.classLink own ik cls).before args s' = true := vx_ot_at hW0 hvm.symm (hgood _ List.mem_cons_self) hk
  have hini' : (Cond.initialized cls).before args s' = true := vx_ot_at hW0 hvm.symm (hgood _ (List.mem_cons_of_mem _ List.mem_cons_self)) hini
  have hU' : vx_Zq Bundle.tN "UNASSIGNED_STACK" Bundle.steD A s' s'.heap := by rw [hhp]; exact vx_Zq.moved hW0.alike (hU.kept hS.2.1)
  have hN' : vx_Zq Bundle.tN "SUPPRESSED_SENTINEL" Bundle.listD A s' s'.heap := by rw [hhp]; exact vx_Zq.moved hW0.alike (hN.kept hS.2.1)
  have h : ∀ w ∈ Bundle.ownAtoms own ic cls names, w.before args s' = true := vx_own hat' (vx_isRefq hU'.1) (vx_isRefq hN'.1) hU'.2.word hN'.2.word
  have hown' : s'.vm.findClass own = some m.cls := by rw [hvm]; exact hown
  have hins : (Cond.instantiable cls 6).before args s' = true := h _ (by simp [Bundle.ownAtoms])
  obtain ⟨vm₁, cX, kX, hfX, hkX, -, -, X₁, st1⟩ := Y.newCold hexec (own := own) (C := cls) (index := ik) (n := 6) hown' hk' hins hini'
    (g := F0 m pc ls rest) rfl (by rw [hb]; exact d0) (Nat.le_refl _) (Nat.le_refl _)
  generalize hT1 : (T.setVm vm₁).pushCell { cls := cX, slots := kX.instanceTypes.map defaultValue, vm := .none } = T1 at X₁ st1
  have hcat : (Value.ref T.heap.size).category = 1 := rfl
  have hcellA : T1.heap[T.heap.size]? = some (freshCell cX kX) := by rw [← hT1]; exact State.heap_pushCell_size _ _
  have d3' : decode c.code (pc + 3) = .ok (.dup, 1) := by rw [hb]; exact d3
  have d4' : decode c.code (pc + 4) = .ok (.ldc_w is, 3) := by rw [hb]; exact d4
  have hstr' : vk_R own is text sa s' := vk_R.warm hW0 hstr
  obtain ⟨U, hsteps, hrun, hend, hW, hsame, ce, hce, hO⟩ := X₁.ctorThrowS hexec htr (own := own) (cls := cls) (names := names) (ic := ic) hown' hcls hnames h (fun x hx => nomatch hx) hfX hkX hcellA (by rw [hhp, hT]; exact Nat.le_refl _) (msg := .ref sa) rfl
    (g := { method := m, pc := pc + 7, locals := ls, stack := .ref sa :: .ref T.heap.size :: .ref T.heap.size :: rest, locked := none }) rfl hsize rfl rfl (rest := rest) rfl
    (by rw [hb]; exact d7) (by rw [hb]; exact d10) hout hRframes (by simp only [List.map_cons, List.sum_cons, hcat]; omega) hlocks
  obtain ⟨f1, f2⟩ := vx_frame hsame
  rw [hhp] at f1 f2
  have hWs : s.WarmedH U.vm := State.WarmedH.trans hW0 hW
  have hcl : s.vm.findClass cls = some ce.cls := by
    have h9 := hO.cls
    rw [hvm] at h9
    exact h9
  have hall : s.sameButNew ({ U with vm := s.vm } : State) locs mc ms := by
    subst hA
    obtain ⟨e1, e2⟩ := hsame
    rw [State.setFrames_setFrames] at e1
    have h2 : (T.setVm s.vm).sameButNew ({ U with vm := s.vm } : State) [] (0 + 1) (0 + 6) := ⟨e1, e2⟩
    have h3 := X.same.trans h2
    rw [List.append_nil] at h3
    exact h3.mono hc hs
  refine ⟨U, ?_, .threw T.heap.size, hrun, hend, Or.inr ⟨T.heap.size, rfl, cls, ce, locs, hx U hWs.alike f1 (fun q hq => f2 q hq (fun z hz => nomatch hz)), hce, hO.vm, hcl, hWs, hall, hf⟩⟩
  refine st1 _ ?_
  show Steps p.tables e below (T1.setTop { method := m, pc := pc + 3, locals := ls, stack := .ref T.heap.size :: rest, locked := none }) _
  jvm_step X₁.here [X₁.here.top, hexec, d3', Value.category]
  exact X₁.ldcStringW hexec (own := own) (text := text) (index := is) (a := sa) hown' hstr'.1 hstr'.2
    (g := { method := m, pc := pc + 4, locals := ls, stack := .ref T.heap.size :: .ref T.heap.size :: rest, locked := none }) rfl d4' _ hsteps
end Ends
section Bodies
variable {l : Launch}
theorem vx_ofW {y : MethodName} {ws ws' : List Cond} {rm : Room} {Pc : Array Value → State → Prop} {Qc : Array Value → State → Outcome → State → Prop} {XC : String → State → State → Prop} {mc ms : Nat} {free : Addr → Prop} {cc : ByteArray} {maxL : Nat} {ret : Option FieldType}
    (hy : plainName y.cls = true) (hw : ws = Cond.code y cc maxL ret :: ws')
    (body : ∀ p e s m args below meth c s₁, BodyLoose p l y (headSpec ws rm) cc maxL ret e s m args below meth c s₁ → c.maxLocals = maxL → (∀ x ∈ c.exceptionTable.toList, False) → Pc args s →
      W p l e (headSpec ws rm).room s m args below meth c s.heap [] 0 0 (vx_MQ below Qc XC args s mc ms free) (entryFrame m args maxL)) : vx_Met l y ws rm Pc Qc XC mc ms free := by
  refine MetFree.of_bodyS (code := cc) (maxLocals := maxL) (ret := ret) hy ?_ ?_
  · intro args s m h hn
    obtain ⟨meth, c, h1, h2, h3, h4, h5, h6, -, -⟩ := Cond.code_spec hn (atoms_spec (ws := ws) h _ (by rw [hw]; exact List.mem_cons_self))
    exact ⟨meth, c, h1, h2, h3, h4, h5, h6⟩
  · intro p e s m args below meth c s₁ B hml hP _
    have hh0 : s₁.heap = s.heap := by rw [B.state]; rfl
    have ht : ∀ x ∈ c.exceptionTable.toList, False := by
      obtain ⟨meth9, c9, h1, h2, -, -, -, -, h7, -⟩ := Cond.code_spec B.named (atoms_spec (ws := ws) B.pre _ (by rw [hw]; exact List.mem_cons_self))
      cases Option.some.inj (h1.symm.trans B.method)
      cases Option.some.inj (h2.symm.trans (Stand.of_body B).code)
      intro x hx
      rw [Array.isEmpty_iff.mp h7] at hx
      cases hx
    obtain ⟨t, a1, o, b1, b2, b3⟩ := body p e s m args below meth c s₁ B hml ht hP s₁ hh0 (Stand.of_body B)
    exact ⟨t, o, a1, b1, b2, b3⟩
/-- the table of a body with handlers -/
theorem vx_table {p : Program} {x y : MethodName} {S : Spec} {cc bytes : ByteArray} {maxL maxL' : Nat} {ret ret' : Option FieldType} {e : Env} {s s₁ : State} {m : MethodId} {args : Array Value} {below : List Frame} {meth : Method} {c : Code} {hh : List (Nat × Nat × Nat × Nat)}
    (B : BodyLoose p l y S cc maxL ret e s m args below meth c s₁) (h : (Cond.codeWith y bytes maxL' ret' hh).before args s = true) : c.exceptionTable.toList = tableOf hh := by
  obtain ⟨m9, meth9, c9, hn9, h1, h2, -, -, h6, -⟩ := Cond.codeWith_spec h
  cases Option.some.inj (hn9.symm.trans B.named)
  cases Option.some.inj (h1.symm.trans B.method)
  cases Option.some.inj (h2.symm.trans (Stand.of_body B).code)
  rw [← h6, table_eq]
end Bodies
end VXA
/-! ===== END ===== -/
/-! ===== BEGIN a static call of a method with an exception table ===== -/
section VXS
variable {p : Program} {l : Launch} {e : Env} {R : Room} {s : State} {m : MethodId} {args : Array Value} {below : List Frame} {meth : Method} {c : Code} {T : State} {H : Heap} {locs : List Loc} {cells slots : Nat}
abbrev vx_CSW (R : Room) (s : State) (args : Array Value) (own : String) (index : Nat) (y : MethodName) (bytes : ByteArray) (maxL : Nat) (ret : Option FieldType) (hh : List (Nat × Nat × Nat × Nat)) (ws : List Cond) (rm : Room) (mc ms n : Nat) : Prop :=
  (rm.cells = mc ∧ rm.slots = ms ∧ rm.frames + 1 ≤ R.frames ∧ 8 + (maxL + 11) + rm.locals ≤ R.locals ∧ (∀ w ∈ ws, ∀ (a' : Array Value) (U : State), s.WarmedH U.vm → w.before a' U = true) ∧ Cond.codeWith y bytes maxL ret hh ∈ ws) ∧
  (Cond.codeWith y bytes maxL ret hh).before args s = true ∧ (Cond.initialized y.cls).before args s = true ∧ (y.cls ≠ "java/lang/invoke/MethodHandle" ∧ y.cls ≠ "java/lang/invoke/VarHandle") ∧
  (∀ sig, parseMethodDescriptor y.desc = some sig → n = sig.parameters.length) ∧ (Cond.methodLink own index y).before args s = true ∧ (Cond.static y).before args s = true
theorem vx_cwSW {own : String} {index maxL mc ms : Nat} {y : MethodName} {bytes : ByteArray} {ret : Option FieldType} {hh : List (Nat × Nat × Nat × Nat)} {Ts ws ws' : List Cond} {rm : Room} (n : Nat) (ht : ∀ w ∈ Ts, w.before args s = true) (hT : GoodIn Ts (va_wsS own index y ws)) (hw : ws = Cond.codeWith y bytes maxL ret hh :: ws') (hrc : rm.cells = mc) (hrs : rm.slots = ms)
    (hd : y.cls ≠ "java/lang/invoke/MethodHandle" ∧ y.cls ≠ "java/lang/invoke/VarHandle" ∧ (parseMethodDescriptor y.desc).map (fun d => d.parameters.length) = some n) (hR : rm.frames + 1 ≤ R.frames ∧ 8 + (maxL + 11) + rm.locals ≤ R.locals) :
    vx_CSW R s args own index y bytes maxL ret hh ws rm mc ms n := by
  have ok : ∀ w ∈ va_wsS own index y ws, w.before args s = true := fun w h => ht w (hT w h).1
  have hG : GoodIn Ts ws := fun w h => hT w (by unfold va_wsS; exact List.mem_append_right _ h)
  have hc : Cond.codeWith y bytes maxL ret hh ∈ ws := by rw [hw]; exact List.mem_cons_self
  refine ⟨⟨hrc, hrs, hR.1, hR.2, pay_in ht hG, hc⟩, ht _ (hG _ hc).1, ok _ (by simp [va_wsS]), ⟨hd.1, hd.2.1⟩, fun sig h => ?_, ok _ (by simp [va_wsS]), ok _ (by simp [va_wsS])⟩
  have h2 := hd.2.2
  rw [h] at h2
  exact (Option.some.inj h2).symm
theorem vx_callSW (X : Stand p l e R s m args below meth c T locs cells slots) (hexec : p.tables.exec = Jvm.exec) {own : String} {index : Nat} {y : MethodName} {bytes : ByteArray} {maxL : Nat} {ret : Option FieldType} {hh : List (Nat × Nat × Nat × Nat)}
    (hown : s.vm.findClass own = some m.cls) (hlink : (Cond.methodLink own index y).before args s = true) (hstat : (Cond.static y).before args s = true) (hinit : (Cond.initialized y.cls).before args s = true)
    (hcode : (Cond.codeWith y bytes maxL ret hh).before args s = true) (hy : y.cls ≠ "java/lang/invoke/MethodHandle" ∧ y.cls ≠ "java/lang/invoke/VarHandle")
    {W9 : Nat} {Pre : Pt → Array Value → Prop} {Post : Pt → Array Value → Option Value → Pt → Prop} (hK : Back l R p e below s args y 3 W9 Pre Post)
    {g : JFrame} (hg : g.method = m) (hsize : g.locals.size = c.maxLocals) {argsL rest : List Value} (hlen : ∀ sig, parseMethodDescriptor y.desc = some sig → argsL.length = sig.parameters.length)
    (hstack : g.stack = argsL.reverse ++ rest) (hW : 2 * g.monitorRoom + (rest.map fun v => v.category).sum ≤ W9) (hdg : decode c.code g.pc = .ok (.invokestatic index, 3))
    (hpre : ∀ vm₁, s.WarmedH vm₁ → Pre ⟨T.setVm vm₁, locs, cells, slots⟩ argsL.toArray) :
    ∃ (v : Option Value) (vm₁ : Vm) (B : Pt), s.WarmedH vm₁ ∧ Stand p l e R s m args below meth c B.U B.locs B.cells B.slots ∧ Post ⟨T.setVm vm₁, locs, cells, slots⟩ argsL.toArray v B ∧
      ∀ target, Steps p.tables e below (B.U.setTop { g with pc := g.pc + 3, stack := v.toList ++ rest }) target → Steps p.tables e below (T.setTop g) target := by
  obtain ⟨mk, methM, cM, hnamed, hmethM, -, -, -, -, -, -, hsigM⟩ := Cond.codeWith_spec hcode
  have hstatic : methM.isStatic = true := Cond.static_spec hnamed hmethM hstat
  obtain ⟨kP, hkP, -⟩ := className_of_methodNamed hnamed
  have hinitP : kP.init = .initialized := Cond.initialized_spec (findClass_of_methodNamed hnamed) hkP hinit
  obtain ⟨vm₁, X₁, hstep₁⟩ := X.invokestatic hexec hown hlink hnamed hmethM hstatic hkP hinitP hy (g := g) hg (argsL := argsL) (rest := rest) (hlen _ hsigM) hstack hdg
  obtain ⟨v, B, X', hpost, hsteps⟩ := hK m meth c ⟨T.setVm vm₁, locs, cells, slots⟩ { g with stack := rest } (.invokestatic index) mk argsL.toArray X₁ hg hsize hdg hW (X₁.named hnamed) (hpre vm₁ X₁.warmed)
  exact ⟨v, vm₁, B, X₁.warmed, X', hpost, fun target h => hstep₁ _ fun acts => by rw [doInvoke_state]; exact hsteps.trans h⟩
theorem vx_runSW {y : MethodName} {bytes cc : ByteArray} {maxL nL mc ms n index : Nat} {ret : Option FieldType} {hh : List (Nat × Nat × Nat × Nat)} {ws : List Cond} {rm : Room} {Pc : Array Value → State → Prop} {Qc : Array Value → State → Outcome → State → Prop} {free : Addr → Prop} {Ts : List Cond} {own : String} {As rest : List Value} {g : JFrame}
    (S : CallFix p m c cc nL s args Ts own) (hM : Met l y ws rm Pc Qc mc ms free) (cw : vx_CSW R s args own index y bytes maxL ret hh ws rm mc ms n) (hp : PreS s H Pc As)
    (hg : g.method = m) (hn : As.length = n) (hsize : g.locals.size = nL) (hstack : g.stack = As.reverse ++ rest) (hW : 2 * g.monitorRoom + (rest.map fun v => v.category).sum ≤ 8) (hdg : decode cc g.pc = .ok (.invokestatic index, 3)) (hf : cells + mc ≤ R.cells ∧ slots + ms ≤ R.slots) :
    va_Run p l e R s m args below meth c H locs cells slots mc ms g rest (Qc As.toArray) (free) := by
  obtain ⟨⟨hrc, hrs, hfr, hlo, hws, hcw⟩, hcode, hini, hy, hlen, hl, hstt⟩ := cw
  have hK : Back l R p e below s args y 3 8 (PreOf R mc ms Pc) (PostOf Qc mc ms free) := va_backW (hh := hh) (bytes := bytes) (maxL := maxL) (ret := ret) hM hp.1 hrc hrs hfr hlo hws hcw (fun a' U hW => word_at hW (Or.inl (by first | rfl | simp [Cond.onTables, Cond.keeps, Cond.steady])) hini)
  obtain ⟨hx, hb, hml, ho, -⟩ := S
  intro T hT X
  obtain ⟨v, vm₁, ⟨U', l2, c2, s2⟩, hW₁, X', ⟨g', mk, t, L, e1, e2, hq, h1, hL, h2, h3⟩, st⟩ := vx_callSW X hx (hh := hh) (bytes := bytes) (maxL := maxL) (ret := ret) ho hl hstt hini hcode hy hK hg (hsize.trans hml.symm) (argsL := As) (rest := rest) (fun sig h => hn.trans (hlen sig h)) hstack hW (by rw [hb]; exact hdg)
    (fun vm₁ hW₁ => ⟨hf.1, hf.2, hp.2 (T.setVm vm₁) hT hW₁⟩)
  dsimp only [Pt.U, Pt.locs, Pt.cells, Pt.slots] at X' e1 e2 h1 h2 h3 st
  subst h1; subst h2; subst h3
  exact ⟨v, (T.setVm vm₁).calling g' mk As.toArray, t, U', L, hT, X', hL, e1, e2, hq, st⟩
/-- not caught here, past rows that name other classes: it goes on to the caller -/
theorem vx_outP {p : Program} {l : Launch} {e : Env} {R : Room} {s : State} {m : MethodId} {args : Array Value} {below : List Frame} {meth : Method} {c : Code} {H : Heap} {locs : List Loc} {cells slots : Nat} {free : Addr → Prop} {ls : Array Slot} {rest : List Value} {Qc : Array Value → State → Outcome → State → Prop} {XC : String → State → State → Prop}
    {pc : Nat} {own E : String} {ce : Cell} {q : Addr} {mc ms : Nat} (hown : s.vm.findClass own = some m.cls) (hlocks : meth.locks = false)
    (hpass : ∀ z ∈ c.exceptionTable.toList, covers z pc = false ∨ (z.catchType ≠ 0 ∧ ∃ nm : String, (Cond.classLink own z.catchType nm).before args s = true ∧ va_Nc E nm s)) (hcell : H[q]? = some ce) (hv : ce.vm = .none) (hcl : s.vm.findClass E = some ce.cls)
    (hx : ∀ t : State, t.heap = H → s.vm.Alike t.vm → XC E s t) (hf : ∀ z ∈ locs, free z.base) (hc : cells ≤ mc) (hs : slots ≤ ms) :
    vx_W p l e R s m args below meth c H locs cells slots (vx_MQ below Qc XC args s mc ms free) (F0 m pc ls rest) q := by
  intro T hT X
  have hpl : e.platform.magicAccessors = ({} : Platform).magicAccessors := by rw [X.admits.platform]
  obtain ⟨vm', hW', X', st⟩ := X.outThrough hlocks q (g := F0 m pc ls rest) rfl rfl rfl (cell := ce) (by rw [hT]; exact hcell) (by rw [hv]; rfl)
    (by obtain ⟨k9, h9, -⟩ := Vm.findClass_spec hcl; exact ⟨k9, h9⟩) (fun z hz => by
      rcases hpass z hz with h | ⟨hz0, nm, hl1, hn1⟩
      · exact Or.inl h
      · obtain ⟨c6, hc6, hcl6⟩ := Cond.classLink_spec hown hl1 e.platform hpl
        obtain ⟨a8, b8, h1, h2, h3⟩ := hn1
        cases Option.some.inj (h1.symm.trans hcl)
        cases Option.some.inj (h2.symm.trans hc6)
        exact Or.inr ⟨hz0, _, hcl6, h3⟩)
  obtain ⟨g₀, hfr⟩ := X'.frames_eq
  have hcell9 : ((T.setVm vm').setFrames (.throwing q :: below)).heap[q]? = some ce := by
    show T.heap[q]? = some ce
    rw [hT]; exact hcell
  have hend : Ended ((T.setVm vm').setFrames (.throwing q :: below)) below (.threw q) := State.frames_setFrames _ (State.cur_lt_of_frames hfr)
  refine ⟨(T.setVm vm').setFrames (.throwing q :: below), ?_, .threw q, X'.here.running, hend, Or.inr ⟨q, rfl, E, ce, locs, hx _ hT (X'.ends _).1.alike, hcell9, hv, hcl, (X'.ends _).1, (X'.ends _).2.mono hc hs, hf⟩⟩
  rw [X.pushThrowing_eq]
  exact st
/-- a thing of a world lies in the heap -/
theorem vx_lt {D : va_G} {cl : List vw_C} {ws : va_W} {H1 : Heap} (h : va_P D cl ws H1) {k : Nat} {q : Nat × va_E} (hk : ws[k]? = some q) : q.1 < H1.size := (h k q hk).lt
end VXS
/-! ===== END ===== -/
/-! ===== BEGIN methods with a table of their own: called by a name, returning or throwing ===== -/
section VXH
/-! vx_backW, vx_callVX, vx_callSX, vx_callVW, vx_runVW, vx_runVX, vx_runSX, vx_ofWH follow the same proofs as their sisters above (Free/Laws.lean, Shelf42/LK1.lean); vx_outP calls Shelf42/NT130.lean (outThrough). -/
section
variable {l : Launch} {R : Room} {p : Program} {e : Env} {below : List Frame} {s : State} {sargs : Array Value} {y : MethodName} {len W9 : Nat}
theorem vx_backW {ws : List Cond} {rm : Room} {Pc : Array Value → State → Prop} {Qc : Array Value → State → Outcome → State → Prop} {XC : String → State → State → Prop} {mc ms : Nat} {free : Addr → Prop} {bytes : ByteArray} {maxL : Nat} {ret : Option FieldType} {hh : List (Nat × Nat × Nat × Nat)}
    (hM : vx_Met l y ws rm Pc Qc XC mc ms free) (hblind : FrameBlind Pc) (hrc : rm.cells = mc) (hrs : rm.slots = ms)
    (hframes : rm.frames + 1 ≤ R.frames) (hlocals : W9 + (maxL + 11) + rm.locals ≤ R.locals)
    (hws : ∀ w ∈ ws, ∀ a' U, s.WarmedH U.vm → w.before a' U = true) (hcode : Cond.codeWith y bytes maxL ret hh ∈ ws) (hinit : ∀ a' U, s.WarmedH U.vm → (Cond.initialized y.cls).before a' U = true) :
    vx_Back l R p e below s sargs y len W9 (PreOf R mc ms Pc) (PostOf Qc mc ms free) (vx_Post XC mc ms free) := by
  intro m meth c A g ig mk a X hg hsize hdg hW hn hp
  have h1 : (headSpec ws rm).pre.before a A.U = true := atoms_intro fun w hw => hws w hw _ _ X.warmed
  have h2 : (Cond.codeWith y bytes maxL ret hh).before a A.U = true := hws _ hcode _ _ X.warmed
  have h3 : (Cond.initialized y.cls).before a A.U = true := hinit _ _ X.warmed
  have h4 : A.cells + (headSpec ws rm).room.cells ≤ R.cells := by rw [show (headSpec ws rm).room.cells = mc from hrc]; exact hp.1
  have h5 : A.slots + (headSpec ws rm).room.slots ≤ R.slots := by rw [show (headSpec ws rm).room.slots = ms from hrs]; exact hp.2.1
  have hPc : Pc a (A.U.calling g mk a) := hblind _ _ _ _ hp.2.2
  obtain ⟨U, Ls, c0, s0⟩ := A
  dsimp only [Pt.U, Pt.locs, Pt.cells, Pt.slots] at h1 h2 h3 h4 h5 X hn hPc ⊢
  obtain ⟨m9, methY, cY, hn9, hmY, hcY, -, hlY, -⟩ := Cond.codeWith_spec h2
  cases Option.some.inj (hn9.symm.trans hn)
  obtain ⟨kY, hkY, -⟩ := className_of_methodNamed hn
  have hinitY : kY.init = .initialized := Cond.initialized_spec (findClass_of_methodNamed hn) hkY h3
  have h : At U g.method c below := by rw [hg]; exact X.here
  have hlocals9 : W9 + (maxL + 11) + (headSpec ws rm).room.locals ≤ R.locals := hlocals
  have happ : (headSpec ws rm).appliesLoose y e.platform (U.calling g mk a) = true :=
    Spec.appliesLoose_calling (g := g) h hdg hn hkY hinitY
      (X.room_calling (g := g) (R' := (headSpec ws rm).room) hsize hmY hcY hframes (by rw [hlY]; omega) h4 h5) h1
  obtain ⟨mid, hmid⟩ := h.above
  have hfr : (U.setTop g).frames = (.java g :: mid) ++ below := by rw [State.frames_setTop' g h.top, hmid]; rfl
  obtain ⟨o, s₂, hsteps, -, hend, hq⟩ := Steps.callFree hM p X.admits X.cas X.clock (acts := []) hfr happ hPc trivial
  have hq' : vx_Q Qc XC mc ms free a (U.calling g mk a) o s₂ := hq
  rw [State.frames_setTop' g h.top] at hend
  obtain ⟨g₀, hg0⟩ := Option.isSome_iff_exists.mp h.top
  obtain ⟨r, hr⟩ := State.topJava?_eq_some.mp hg0
  have hr' : (({ U with heap := s₂.heap, slotsUsed := s₂.slotsUsed } : State).setVm s₂.vm).frames = .java g₀ :: r := hr
  rcases hq' with ⟨hqc, L, hfe, hL⟩ | ⟨q, rfl, E, ce, L, hx, hce, hcv, hcl, hW₂, hsm, hL⟩
  · obtain ⟨⟨v, rfl⟩, hW₂, e2, q2, q3, q4, q5, q6⟩ := id hfe
    have e3 : s₂ = ({ (U.calling g mk a).setFrames s₂.frames with heap := s₂.heap, slotsUsed := s₂.slotsUsed } : State).setVm s₂.vm := by
      have : s₂ = ({ s₂ with vm := (U.calling g mk a).vm } : State).setVm s₂.vm := rfl
      rw [e2] at this
      exact this
    obtain ⟨c₂, i₂, len₂, hc₂, hd₂, hf₂⟩ := hend
    have hW' : U.WarmedH s₂.vm := hW₂
    have hcc : c₂ = c := by
      have h1 : s₂.code? g.method = U.code? g.method := by
        rw [State.code?_eq, State.code?_eq, hW'.alike.method?]
      exact Option.some.inj (hc₂.symm.trans (h1.trans h.code))
    subst hcc
    have hlen : len₂ = len := by rw [hdg] at hd₂; cases hd₂; rfl
    subst hlen
    have hs₂ : s₂ = (({ U with heap := s₂.heap, slotsUsed := s₂.slotsUsed } : State).setVm s₂.vm).setTop { g with pc := g.pc + len₂, stack := v.toList ++ g.stack } := by
      refine e3.trans ?_
      rw [hf₂, State.calling_eq h.top, State.setFrames_setFrames, State.setTop_of_frames _ hr', hr]
      rfl
    have hsame : U.sameButNew ({ U with heap := s₂.heap, slotsUsed := s₂.slotsUsed } : State) L mc ms := by
      refine ⟨?_, q2, q3, q4, q5, q6⟩
      obtain ⟨t, ht, -⟩ := State.frames_cons hr
      show ({ U with heap := s₂.heap, slotsUsed := s₂.slotsUsed } : State) = { U.setFrames U.frames with heap := s₂.heap, slotsUsed := s₂.slotsUsed }
      rw [State.setFrames_self ht]
    subst hg
    refine Or.inl ⟨v, ⟨(({ U with heap := s₂.heap, slotsUsed := s₂.slotsUsed } : State).setVm s₂.vm), Ls ++ L, c0 + mc, s0 + ms⟩,
      ⟨X.admits, X.cas, X.clock, X.frames, X.room, X.hears, X.method, X.code, (X.here.setHeapUsed s₂.heap s₂.slotsUsed).setVm hW'.alike, X.tail, State.WarmedH.trans X.warmed hW', X.limits, X.bytes, X.same.trans (hsame.setVm s.vm)⟩,
      ⟨g, mk, s₂, L, rfl, rfl, hqc, rfl, hL, rfl, rfl⟩, ?_⟩
    show Steps p.tables e below _ ((({ U with heap := s₂.heap, slotsUsed := s₂.slotsUsed } : State).setVm s₂.vm).setTop { g with pc := g.pc + len₂, stack := v.toList ++ g.stack })
    rw [← hs₂]
    exact hsteps
  · obtain ⟨e2, q2, q3, q4, q5, q6⟩ := id hsm
    have e3 : s₂ = ({ (U.calling g mk a).setFrames s₂.frames with heap := s₂.heap, slotsUsed := s₂.slotsUsed } : State).setVm s₂.vm := by
      have : s₂ = ({ s₂ with vm := (U.calling g mk a).vm } : State).setVm s₂.vm := rfl
      rw [e2] at this
      exact this
    have hf₂ : s₂.frames = .throwing q :: .java g :: U.frames.tail := hend
    have hW' : U.WarmedH s₂.vm := hW₂
    have hs₂ : s₂ = ((({ U with heap := s₂.heap, slotsUsed := s₂.slotsUsed } : State).setVm s₂.vm).setTop g).pushFrame (.throwing q) := by
      refine e3.trans ?_
      rw [hf₂, State.calling_eq h.top, State.setFrames_setFrames, State.pushFrame, State.frames_setTop _ hr', State.setTop_of_frames _ hr', State.setFrames_setFrames, hr]
      rfl
    have hsame : U.sameButNew ({ U with heap := s₂.heap, slotsUsed := s₂.slotsUsed } : State) L mc ms := by
      refine ⟨?_, q2, q3, q4, q5, q6⟩
      obtain ⟨t, ht, -⟩ := State.frames_cons hr
      show ({ U with heap := s₂.heap, slotsUsed := s₂.slotsUsed } : State) = { U.setFrames U.frames with heap := s₂.heap, slotsUsed := s₂.slotsUsed }
      rw [State.setFrames_self ht]
    subst hg
    refine Or.inr ⟨q, ⟨(({ U with heap := s₂.heap, slotsUsed := s₂.slotsUsed } : State).setVm s₂.vm), Ls ++ L, c0 + mc, s0 + ms⟩,
      ⟨X.admits, X.cas, X.clock, X.frames, X.room, X.hears, X.method, X.code, (X.here.setHeapUsed s₂.heap s₂.slotsUsed).setVm hW'.alike, X.tail, State.WarmedH.trans X.warmed hW', X.limits, X.bytes, X.same.trans (hsame.setVm s.vm)⟩,
      ⟨g, mk, s₂, L, E, ce, rfl, rfl, hx, hce, hcv, hcl, rfl, hL, rfl, rfl⟩, ?_⟩
    show Steps p.tables e below _ (((({ U with heap := s₂.heap, slotsUsed := s₂.slotsUsed } : State).setVm s₂.vm).setTop g).pushFrame (.throwing q))
    rw [← hs₂]
    exact hsteps
end
variable {p : Program} {l : Launch} {e : Env} {R : Room} {s : State} {m : MethodId} {args : Array Value} {below : List Frame} {meth : Method} {c : Code} {T : State} {H : Heap} {locs : List Loc} {cells slots : Nat}
theorem vx_callVX (X : Stand p l e R s m args below meth c T locs cells slots) (hexec : p.tables.exec = Jvm.exec) {own C : String} {index : Nat} {y : MethodName} {bytes : ByteArray} {maxL : Nat} {ret : Option FieldType} {hh : List (Nat × Nat × Nat × Nat)}
    (hown : s.vm.findClass own = some m.cls) (hlink : (Cond.methodLink own index y).before args s = true) (hinst : (Cond.instanceMethod y).before args s = true) (hsel : (Cond.selects C y y).before args s = true)
    (hcode : (Cond.codeWith y bytes maxL ret hh).before args s = true) (hy : y.cls ≠ "java/lang/invoke/MethodHandle" ∧ y.cls ≠ "java/lang/invoke/VarHandle")
    {W9 : Nat} {Pre : Pt → Array Value → Prop} {Post : Pt → Array Value → Option Value → Pt → Prop} {PostX : Pt → Array Value → Addr → Pt → Prop} (hK : vx_Back l R p e below s args y 3 W9 Pre Post PostX)
    {b : Addr} {cellB : Cell} (hcell : T.heap[b]? = some cellB) (hobj : cellB.vm.isStatics = false) (hcls : s.vm.findClass C = some cellB.cls)
    {g : JFrame} (hg : g.method = m) (hsize : g.locals.size = c.maxLocals) {argsL rest : List Value} (hlen : ∀ sig, parseMethodDescriptor y.desc = some sig → argsL.length = sig.parameters.length)
    (hstack : g.stack = argsL.reverse ++ .ref b :: rest) (hW : 2 * g.monitorRoom + (rest.map fun v => v.category).sum ≤ W9) (hdg : decode c.code g.pc = .ok (.invokevirtual index, 3))
    (hpre : ∀ vm₁, s.WarmedH vm₁ → Pre ⟨T.setVm vm₁, locs, cells, slots⟩ (Value.ref b :: argsL).toArray) :
    (∃ (v : Option Value) (vm₁ : Vm) (B : Pt), s.WarmedH vm₁ ∧ Stand p l e R s m args below meth c B.U B.locs B.cells B.slots ∧ Post ⟨T.setVm vm₁, locs, cells, slots⟩ (Value.ref b :: argsL).toArray v B ∧
      ∀ target, Steps p.tables e below (B.U.setTop { g with pc := g.pc + 3, stack := v.toList ++ rest }) target → Steps p.tables e below (T.setTop g) target) ∨
    (∃ (q : Addr) (vm₁ : Vm) (B : Pt), s.WarmedH vm₁ ∧ Stand p l e R s m args below meth c B.U B.locs B.cells B.slots ∧ PostX ⟨T.setVm vm₁, locs, cells, slots⟩ (Value.ref b :: argsL).toArray q B ∧
      Steps p.tables e below (T.setTop g) ((B.U.setTop { g with stack := rest }).pushFrame (.throwing q))) := by
  obtain ⟨mk, methM, hnamed, hmethM, hstM, habM⟩ := Cond.instanceMethod_spec hinst
  obtain ⟨m8, methM', cM, hn8, hmethM', -, -, -, -, -, -, hsigM⟩ := Cond.codeWith_spec hcode
  cases Option.some.inj (hn8.symm.trans hnamed)
  cases hmethM.symm.trans hmethM'
  obtain ⟨c2, r2, m2, q1, q2, q3, q4, kP, hkP, hkPi⟩ := Cond.selects_spec hsel
  cases hcls.symm.trans q1
  cases (State.methodFound?_of_named hnamed hy).symm.trans q2
  cases hnamed.symm.trans q3
  have hselP : selectMethod e.platform s.vm cellB.cls mk = .method mk := by rw [Launch.admits_selectMethod X.admits]; exact q4
  obtain ⟨vm₁, X₁, hstep₁⟩ := X.invokevirtual hexec hown hlink hnamed hmethM hstM hkP hkPi hy (a := b) (cell := cellB) hcell
    (fun z h => by rw [h] at hobj; cases hobj) hselP hmethM habM hkP hkPi (g := g) hg (argsL := argsL) (rest := rest) (hlen _ hsigM) hstack hdg
  rcases hK m meth c ⟨T.setVm vm₁, locs, cells, slots⟩ { g with stack := rest } (.invokevirtual index) mk (Value.ref b :: argsL).toArray X₁ hg hsize hdg hW (X₁.named hnamed) (hpre vm₁ X₁.warmed) with ⟨v, B, X', hpost, hsteps⟩ | ⟨q, B, X', hpost, hsteps⟩
  · exact Or.inl ⟨v, vm₁, B, X₁.warmed, X', hpost, fun target h => hstep₁ _ fun acts => by rw [doInvoke_state]; exact hsteps.trans h⟩
  · exact Or.inr ⟨q, vm₁, B, X₁.warmed, X', hpost, hstep₁ _ fun acts => by rw [doInvoke_state]; exact hsteps⟩
theorem vx_callSX (X : Stand p l e R s m args below meth c T locs cells slots) (hexec : p.tables.exec = Jvm.exec) {own : String} {index : Nat} {y : MethodName} {bytes : ByteArray} {maxL : Nat} {ret : Option FieldType} {hh : List (Nat × Nat × Nat × Nat)}
    (hown : s.vm.findClass own = some m.cls) (hlink : (Cond.methodLink own index y).before args s = true) (hstat : (Cond.static y).before args s = true) (hinit : (Cond.initialized y.cls).before args s = true)
    (hcode : (Cond.codeWith y bytes maxL ret hh).before args s = true) (hy : y.cls ≠ "java/lang/invoke/MethodHandle" ∧ y.cls ≠ "java/lang/invoke/VarHandle")
    {W9 : Nat} {Pre : Pt → Array Value → Prop} {Post : Pt → Array Value → Option Value → Pt → Prop} {PostX : Pt → Array Value → Addr → Pt → Prop} (hK : vx_Back l R p e below s args y 3 W9 Pre Post PostX)
    {g : JFrame} (hg : g.method = m) (hsize : g.locals.size = c.maxLocals) {argsL rest : List Value} (hlen : ∀ sig, parseMethodDescriptor y.desc = some sig → argsL.length = sig.parameters.length)
    (hstack : g.stack = argsL.reverse ++ rest) (hW : 2 * g.monitorRoom + (rest.map fun v => v.category).sum ≤ W9) (hdg : decode c.code g.pc = .ok (.invokestatic index, 3))
    (hpre : ∀ vm₁, s.WarmedH vm₁ → Pre ⟨T.setVm vm₁, locs, cells, slots⟩ argsL.toArray) :
    (∃ (v : Option Value) (vm₁ : Vm) (B : Pt), s.WarmedH vm₁ ∧ Stand p l e R s m args below meth c B.U B.locs B.cells B.slots ∧ Post ⟨T.setVm vm₁, locs, cells, slots⟩ argsL.toArray v B ∧
      ∀ target, Steps p.tables e below (B.U.setTop { g with pc := g.pc + 3, stack := v.toList ++ rest }) target → Steps p.tables e below (T.setTop g) target) ∨
    (∃ (q : Addr) (vm₁ : Vm) (B : Pt), s.WarmedH vm₁ ∧ Stand p l e R s m args below meth c B.U B.locs B.cells B.slots ∧ PostX ⟨T.setVm vm₁, locs, cells, slots⟩ argsL.toArray q B ∧
      Steps p.tables e below (T.setTop g) ((B.U.setTop { g with stack := rest }).pushFrame (.throwing q))) := by
  obtain ⟨mk, methM, cM, hnamed, hmethM, -, -, -, -, -, -, hsigM⟩ := Cond.codeWith_spec hcode
  have hstatic : methM.isStatic = true := Cond.static_spec hnamed hmethM hstat
  obtain ⟨kP, hkP, -⟩ := className_of_methodNamed hnamed
  have hinitP : kP.init = .initialized := Cond.initialized_spec (findClass_of_methodNamed hnamed) hkP hinit
  obtain ⟨vm₁, X₁, hstep₁⟩ := X.invokestatic hexec hown hlink hnamed hmethM hstatic hkP hinitP hy (g := g) hg (argsL := argsL) (rest := rest) (hlen _ hsigM) hstack hdg
  rcases hK m meth c ⟨T.setVm vm₁, locs, cells, slots⟩ { g with stack := rest } (.invokestatic index) mk argsL.toArray X₁ hg hsize hdg hW (X₁.named hnamed) (hpre vm₁ X₁.warmed) with ⟨v, B, X', hpost, hsteps⟩ | ⟨q, B, X', hpost, hsteps⟩
  · exact Or.inl ⟨v, vm₁, B, X₁.warmed, X', hpost, fun target h => hstep₁ _ fun acts => by rw [doInvoke_state]; exact hsteps.trans h⟩
  · exact Or.inr ⟨q, vm₁, B, X₁.warmed, X', hpost, hstep₁ _ fun acts => by rw [doInvoke_state]; exact hsteps⟩
theorem vx_callVW (X : Stand p l e R s m args below meth c T locs cells slots) (hexec : p.tables.exec = Jvm.exec) {own C : String} {index : Nat} {y : MethodName} {bytes : ByteArray} {maxL : Nat} {ret : Option FieldType} {hh : List (Nat × Nat × Nat × Nat)}
    (hown : s.vm.findClass own = some m.cls) (hlink : (Cond.methodLink own index y).before args s = true) (hinst : (Cond.instanceMethod y).before args s = true) (hsel : (Cond.selects C y y).before args s = true)
    (hcode : (Cond.codeWith y bytes maxL ret hh).before args s = true) (hy : y.cls ≠ "java/lang/invoke/MethodHandle" ∧ y.cls ≠ "java/lang/invoke/VarHandle")
    {W9 : Nat} {Pre : Pt → Array Value → Prop} {Post : Pt → Array Value → Option Value → Pt → Prop} (hK : Back l R p e below s args y 3 W9 Pre Post)
    {b : Addr} {cellB : Cell} (hcell : T.heap[b]? = some cellB) (hobj : cellB.vm.isStatics = false) (hcls : s.vm.findClass C = some cellB.cls)
    {g : JFrame} (hg : g.method = m) (hsize : g.locals.size = c.maxLocals) {argsL rest : List Value} (hlen : ∀ sig, parseMethodDescriptor y.desc = some sig → argsL.length = sig.parameters.length)
    (hstack : g.stack = argsL.reverse ++ .ref b :: rest) (hW : 2 * g.monitorRoom + (rest.map fun v => v.category).sum ≤ W9) (hdg : decode c.code g.pc = .ok (.invokevirtual index, 3))
    (hpre : ∀ vm₁, s.WarmedH vm₁ → Pre ⟨T.setVm vm₁, locs, cells, slots⟩ (Value.ref b :: argsL).toArray) :
    ∃ (v : Option Value) (vm₁ : Vm) (B : Pt), s.WarmedH vm₁ ∧ Stand p l e R s m args below meth c B.U B.locs B.cells B.slots ∧ Post ⟨T.setVm vm₁, locs, cells, slots⟩ (Value.ref b :: argsL).toArray v B ∧
      ∀ target, Steps p.tables e below (B.U.setTop { g with pc := g.pc + 3, stack := v.toList ++ rest }) target → Steps p.tables e below (T.setTop g) target := by
  obtain ⟨mk, methM, hnamed, hmethM, hstM, habM⟩ := Cond.instanceMethod_spec hinst
  obtain ⟨m8, methM', cM, hn8, hmethM', -, -, -, -, -, -, hsigM⟩ := Cond.codeWith_spec hcode
  cases Option.some.inj (hn8.symm.trans hnamed)
  cases hmethM.symm.trans hmethM'
  obtain ⟨c2, r2, m2, q1, q2, q3, q4, kP, hkP, hkPi⟩ := Cond.selects_spec hsel
  cases hcls.symm.trans q1
  cases (State.methodFound?_of_named hnamed hy).symm.trans q2
  cases hnamed.symm.trans q3
  have hselP : selectMethod e.platform s.vm cellB.cls mk = .method mk := by rw [Launch.admits_selectMethod X.admits]; exact q4
  obtain ⟨vm₁, X₁, hstep₁⟩ := X.invokevirtual hexec hown hlink hnamed hmethM hstM hkP hkPi hy (a := b) (cell := cellB) hcell
    (fun z h => by rw [h] at hobj; cases hobj) hselP hmethM habM hkP hkPi (g := g) hg (argsL := argsL) (rest := rest) (hlen _ hsigM) hstack hdg
  obtain ⟨v, B, X', hpost, hsteps⟩ := hK m meth c ⟨T.setVm vm₁, locs, cells, slots⟩ { g with stack := rest } (.invokevirtual index) mk (Value.ref b :: argsL).toArray X₁ hg hsize hdg hW (X₁.named hnamed) (hpre vm₁ X₁.warmed)
  exact ⟨v, vm₁, B, X₁.warmed, X', hpost, fun target h => hstep₁ _ fun acts => by rw [doInvoke_state]; exact hsteps.trans h⟩
abbrev vx_CVW (R : Room) (s : State) (args : Array Value) (own C : String) (index : Nat) (y : MethodName) (bytes : ByteArray) (maxL : Nat) (ret : Option FieldType) (hh : List (Nat × Nat × Nat × Nat)) (ws : List Cond) (rm : Room) (mc ms n : Nat) : Prop :=
  (rm.cells = mc ∧ rm.slots = ms ∧ rm.frames + 1 ≤ R.frames ∧ 8 + (maxL + 11) + rm.locals ≤ R.locals ∧ (∀ w ∈ ws, ∀ (a' : Array Value) (U : State), s.WarmedH U.vm → w.before a' U = true) ∧ Cond.codeWith y bytes maxL ret hh ∈ ws) ∧
  (Cond.codeWith y bytes maxL ret hh).before args s = true ∧ (Cond.initialized y.cls).before args s = true ∧ (y.cls ≠ "java/lang/invoke/MethodHandle" ∧ y.cls ≠ "java/lang/invoke/VarHandle") ∧
  (∀ sig, parseMethodDescriptor y.desc = some sig → n = sig.parameters.length) ∧ (Cond.methodLink own index y).before args s = true ∧ (Cond.instanceMethod y).before args s = true ∧ (Cond.selects C y y).before args s = true
theorem vx_cwVW {own C : String} {index maxL mc ms : Nat} {y : MethodName} {bytes : ByteArray} {ret : Option FieldType} {hh : List (Nat × Nat × Nat × Nat)} {Ts ws ws' : List Cond} {rm : Room} (n : Nat) (ht : ∀ w ∈ Ts, w.before args s = true) (hT : GoodIn Ts (wsV own index C y ws)) (hw : ws = Cond.codeWith y bytes maxL ret hh :: ws') (hrc : rm.cells = mc) (hrs : rm.slots = ms)
    (hd : y.cls = C ∧ y.cls ≠ "java/lang/invoke/MethodHandle" ∧ y.cls ≠ "java/lang/invoke/VarHandle" ∧ (parseMethodDescriptor y.desc).map (fun d => d.parameters.length) = some n) (hR : rm.frames + 1 ≤ R.frames ∧ 8 + (maxL + 11) + rm.locals ≤ R.locals) :
    vx_CVW R s args own C index y bytes maxL ret hh ws rm mc ms n := by
  obtain ⟨hC, hd⟩ := hd
  subst hC
  have ok : ∀ w ∈ wsV own index y.cls y ws, w.before args s = true := fun w h => ht w (hT w h).1
  have hG : GoodIn Ts ws := fun w h => hT w (by unfold wsV; exact List.mem_append_right _ h)
  have hc : Cond.codeWith y bytes maxL ret hh ∈ ws := by rw [hw]; exact List.mem_cons_self
  refine ⟨⟨hrc, hrs, hR.1, hR.2, pay_in ht hG, hc⟩, ht _ (hG _ hc).1, ok _ (by simp [wsV]), ⟨hd.1, hd.2.1⟩, fun sig h => ?_, ok _ (by simp [wsV]), ok _ (by simp [wsV]), ok _ (by simp [wsV])⟩
  have h2 := hd.2.2
  rw [h] at h2
  exact (Option.some.inj h2).symm
theorem vx_runVW {y : MethodName} {bytes cc : ByteArray} {maxL nL mc ms n index : Nat} {ret : Option FieldType} {hh : List (Nat × Nat × Nat × Nat)} {ws : List Cond} {rm : Room} {Pc : Array Value → State → Prop} {Qc : Array Value → State → Outcome → State → Prop} {free : Addr → Prop} {Ts : List Cond} {own C : String} {b : Addr} {As rest : List Value} {g : JFrame}
    (S : CallFix p m c cc nL s args Ts own) (hM : Met l y ws rm Pc Qc mc ms free) (cw : vx_CVW R s args own C index y bytes maxL ret hh ws rm mc ms n) (hp : PreV s H C b Pc As)
    (hg : g.method = m) (hn : As.length = n) (hsize : g.locals.size = nL) (hstack : g.stack = As.reverse ++ .ref b :: rest) (hW : 2 * g.monitorRoom + (rest.map fun v => v.category).sum ≤ 8) (hdg : decode cc g.pc = .ok (.invokevirtual index, 3)) (hf : cells + mc ≤ R.cells ∧ slots + ms ≤ R.slots) :
    va_Run p l e R s m args below meth c H locs cells slots mc ms g rest (Qc (Value.ref b :: As).toArray) free := by
  obtain ⟨⟨hrc, hrs, hfr, hlo, hws, hcw⟩, hcode, hini, hy, hlen, hl, hin, hse⟩ := cw
  have hK : Back l R p e below s args y 3 8 (PreOf R mc ms Pc) (PostOf Qc mc ms free) := va_backW (hh := hh) (bytes := bytes) (maxL := maxL) (ret := ret) hM hp.1 hrc hrs hfr hlo hws hcw (fun a' U hW => word_at hW (Or.inl (by first | rfl | simp [Cond.onTables, Cond.keeps, Cond.steady])) hini)
  obtain ⟨hx, hb, hml, ho, -⟩ := S
  obtain ⟨-, ⟨cellB, hcB, hoB, hclB⟩, hPc⟩ := hp
  intro T hT X
  obtain ⟨v, vm₁, ⟨U', l2, c2, s2⟩, hW₁, X', ⟨g', mk, t, L, e1, e2, hq, h1, hL, h2, h3⟩, st⟩ := vx_callVW X hx (C := C) (hh := hh) (bytes := bytes) (maxL := maxL) (ret := ret) ho hl hin hse hcode hy hK (by rw [hT]; exact hcB) hoB hclB hg (hsize.trans hml.symm) (argsL := As) (rest := rest) (fun sig h => hn.trans (hlen sig h)) hstack hW (by rw [hb]; exact hdg)
    (fun vm₁ hW₁ => ⟨hf.1, hf.2, hPc (T.setVm vm₁) hT hW₁⟩)
  dsimp only [Pt.U, Pt.locs, Pt.cells, Pt.slots] at X' e1 e2 h1 h2 h3 st
  subst h1; subst h2; subst h3
  exact ⟨v, (T.setVm vm₁).calling g' mk (Value.ref b :: As).toArray, t, U', L, hT, X', hL, e1, e2, hq, st⟩
section
variable {y : MethodName} {bytes cc : ByteArray} {maxL nL mc ms n index : Nat} {ret : Option FieldType} {ws : List Cond} {rm : Room} {Pc : Array Value → State → Prop} {Qc : Array Value → State → Outcome → State → Prop} {XC : String → State → State → Prop} {free : Addr → Prop} {Ts : List Cond} {own C : String} {b : Addr} {As rest : List Value} {g : JFrame}
theorem vx_runVX {hh : List (Nat × Nat × Nat × Nat)} (S : CallFix p m c cc nL s args Ts own) (hM : vx_Met l y ws rm Pc Qc XC mc ms free) (cw : vx_CVW R s args own C index y bytes maxL ret hh ws rm mc ms n) (hp : PreV s H C b Pc As)
    (hg : g.method = m) (hn : As.length = n) (hsize : g.locals.size = nL) (hstack : g.stack = As.reverse ++ .ref b :: rest) (hW : 2 * g.monitorRoom + (rest.map fun v => v.category).sum ≤ 8) (hdg : decode cc g.pc = .ok (.invokevirtual index, 3)) (hf : cells + mc ≤ R.cells ∧ slots + ms ≤ R.slots) :
    vx_Run p l e R s m args below meth c H locs cells slots mc ms g rest (Qc (Value.ref b :: As).toArray) XC free := by
  obtain ⟨⟨hrc, hrs, hfr, hlo, hws, hcw⟩, hcode, hini, hy, hlen, hl, hin, hse⟩ := cw
  have hK : vx_Back l R p e below s args y 3 8 (PreOf R mc ms Pc) (PostOf Qc mc ms free) (vx_Post XC mc ms free) := vx_backW (hh := hh) (bytes := bytes) (maxL := maxL) (ret := ret) hM hp.1 hrc hrs hfr hlo hws hcw (fun a' U hW => word_at hW (Or.inl (by first | rfl | simp [Cond.onTables, Cond.keeps, Cond.steady])) hini)
  obtain ⟨hx, hb, hml, ho, -⟩ := S
  obtain ⟨-, ⟨cellB, hcB, hoB, hclB⟩, hPc⟩ := hp
  intro T hT X
  rcases vx_callVX X hx (C := C) (hh := hh) (bytes := bytes) (maxL := maxL) (ret := ret) ho hl hin hse hcode hy hK (by rw [hT]; exact hcB) hoB hclB hg (hsize.trans hml.symm) (argsL := As) (rest := rest) (fun sig h => hn.trans (hlen sig h)) hstack hW (by rw [hb]; exact hdg)
    (fun vm₁ hW₁ => ⟨hf.1, hf.2, hPc (T.setVm vm₁) hT hW₁⟩) with ⟨v, vm₁, ⟨U', l2, c2, s2⟩, hW₁, X', ⟨g', mk, t, L, e1, e2, hq, h1, hL, h2, h3⟩, st⟩ | ⟨q, vm₁, ⟨U', l2, c2, s2⟩, hW₁, X', ⟨g', mk, t, L, E, ce, e1, e2, hq, hce, hcv, hcl, h1, hL, h2, h3⟩, st⟩
  · dsimp only [Pt.U, Pt.locs, Pt.cells, Pt.slots] at X' e1 e2 h1 h2 h3 st
    subst h1; subst h2; subst h3
    exact Or.inl ⟨v, (T.setVm vm₁).calling g' mk (Value.ref b :: As).toArray, t, U', L, hT, X', hL, e1, e2, hq, st⟩
  · dsimp only [Pt.U, Pt.locs, Pt.cells, Pt.slots] at X' e1 e2 h1 h2 h3 st hcl
    subst h1; subst h2; subst h3
    exact Or.inr ⟨q, (T.setVm vm₁).calling g' mk (Value.ref b :: As).toArray, t, U', L, E, ce, hT, X', hL, e1, e2, hq, hce, hcv, vx_cls hW₁ hcl, st⟩
theorem vx_runSX {hh : List (Nat × Nat × Nat × Nat)} (S : CallFix p m c cc nL s args Ts own) (hM : vx_Met l y ws rm Pc Qc XC mc ms free) (cw : vx_CSW R s args own index y bytes maxL ret hh ws rm mc ms n) (hp : PreS s H Pc As)
    (hg : g.method = m) (hn : As.length = n) (hsize : g.locals.size = nL) (hstack : g.stack = As.reverse ++ rest) (hW : 2 * g.monitorRoom + (rest.map fun v => v.category).sum ≤ 8) (hdg : decode cc g.pc = .ok (.invokestatic index, 3)) (hf : cells + mc ≤ R.cells ∧ slots + ms ≤ R.slots) :
    vx_Run p l e R s m args below meth c H locs cells slots mc ms g rest (Qc As.toArray) XC free := by
  obtain ⟨⟨hrc, hrs, hfr, hlo, hws, hcw⟩, hcode, hini, hy, hlen, hl, hstt⟩ := cw
  have hK : vx_Back l R p e below s args y 3 8 (PreOf R mc ms Pc) (PostOf Qc mc ms free) (vx_Post XC mc ms free) := vx_backW (hh := hh) (bytes := bytes) (maxL := maxL) (ret := ret) hM hp.1 hrc hrs hfr hlo hws hcw (fun a' U hW => word_at hW (Or.inl (by first | rfl | simp [Cond.onTables, Cond.keeps, Cond.steady])) hini)
  obtain ⟨hx, hb, hml, ho, -⟩ := S
  intro T hT X
  rcases vx_callSX X hx (hh := hh) (bytes := bytes) (maxL := maxL) (ret := ret) ho hl hstt hini hcode hy hK hg (hsize.trans hml.symm) (argsL := As) (rest := rest) (fun sig h => hn.trans (hlen sig h)) hstack hW (by rw [hb]; exact hdg)
    (fun vm₁ hW₁ => ⟨hf.1, hf.2, hp.2 (T.setVm vm₁) hT hW₁⟩) with ⟨v, vm₁, ⟨U', l2, c2, s2⟩, hW₁, X', ⟨g', mk, t, L, e1, e2, hq, h1, hL, h2, h3⟩, st⟩ | ⟨q, vm₁, ⟨U', l2, c2, s2⟩, hW₁, X', ⟨g', mk, t, L, E, ce, e1, e2, hq, hce, hcv, hcl, h1, hL, h2, h3⟩, st⟩
  · dsimp only [Pt.U, Pt.locs, Pt.cells, Pt.slots] at X' e1 e2 h1 h2 h3 st
    subst h1; subst h2; subst h3
    exact Or.inl ⟨v, (T.setVm vm₁).calling g' mk As.toArray, t, U', L, hT, X', hL, e1, e2, hq, st⟩
  · dsimp only [Pt.U, Pt.locs, Pt.cells, Pt.slots] at X' e1 e2 h1 h2 h3 st hcl
    subst h1; subst h2; subst h3
    exact Or.inr ⟨q, (T.setVm vm₁).calling g' mk As.toArray, t, U', L, E, ce, hT, X', hL, e1, e2, hq, hce, hcv, vx_cls hW₁ hcl, st⟩
end
end VXH
theorem vx_ofWH {l : Launch} {y : MethodName} {ws ws' : List Cond} {rm : Room} {Pc : Array Value → State → Prop} {Qc : Array Value → State → Outcome → State → Prop} {XC : String → State → State → Prop} {mc ms : Nat} {free : Addr → Prop} {cc : ByteArray} {maxL : Nat} {ret : Option FieldType} {hh : List (Nat × Nat × Nat × Nat)}
    (hy : plainName y.cls = true) (hw : ws = Cond.codeWith y cc maxL ret hh :: ws')
    (body : ∀ p e s m args below meth c s₁, BodyLoose p l y (headSpec ws rm) cc maxL ret e s m args below meth c s₁ → c.maxLocals = maxL → Pc args s →
      W p l e (headSpec ws rm).room s m args below meth c s.heap [] 0 0 (vx_MQ below Qc XC args s mc ms free) (entryFrame m args maxL)) : vx_Met l y ws rm Pc Qc XC mc ms free := by
  refine MetFree.of_bodyS (code := cc) (maxLocals := maxL) (ret := ret) hy ?_ ?_
  · intro args s m h hn
    obtain ⟨m9, meth, c, hn9, h1, h2, h3, h4, -, h5, h6, -⟩ := Cond.codeWith_spec (atoms_spec (ws := ws) h _ (by rw [hw]; exact List.mem_cons_self))
    cases hn.symm.trans hn9
    exact ⟨meth, c, h1, h2, h3, h4, h5, h6⟩
  · intro p e s m args below meth c s₁ B hml hP _
    have hh0 : s₁.heap = s.heap := by rw [B.state]; rfl
    obtain ⟨t, a1, o, b1, b2, b3⟩ := body p e s m args below meth c s₁ B hml hP s₁ hh0 (Stand.of_body B)
    exact ⟨t, o, a1, b1, b2, b3⟩
/-! ===== END ===== -/
end
section
def RX0 : String := "SalesDesk$Account"
def TX0 : u_T := fun k => match k with
  | 0 => ("SalesDesk$Account", "above", "LSalesDesk$Account;", true)
  | 1 => ("SalesDesk$Account", "area", "I", true)
  | 2 => ("SalesDesk$Account", "size", "I", true)
  | _ => ("SalesDesk$Account", "exception", "I", false)
def tyX0 : Nat → FieldType := fun k => match k with
  | 0 => .object "SalesDesk$Account"
  | 1 => .int
  | 2 => .int
  | _ => .int
abbrev wsX00 : List Cond := u_ws RX0 TX0 4
theorem nmX0 : ∀ a, a < 4 → ∀ b, b < 4 → a ≠ b → (TX0 a).2.1 ≠ (TX0 b).2.1 := by decide +kernel
theorem tyX0_ok : ∀ k, k < 4 → parseFieldDescriptor (TX0 k).2.2.1 = some (tyX0 k) := by decide +kernel
abbrev cX0_init : ByteArray := prog_2_method_1_code
def yX0_init : MethodName := ⟨RX0, "<init>", "(LSalesDesk$Account;II)V"⟩
def RX1 : String := "SalesDesk$Chance"
def TX1 : u_T := fun k => match k with
  | 0 => ("SalesDesk$Chance", "account", "LSalesDesk$Account;", true)
  | 1 => ("SalesDesk$Chance", "amount", "I", true)
  | 2 => ("SalesDesk$Chance", "shares", "[I", true)
  | 3 => ("SalesDesk$Chance", "daysBefore", "[I", true)
  | 4 => ("SalesDesk$Chance", "stage", "I", false)
  | 5 => ("SalesDesk$Chance", "cameOn", "I", false)
  | 6 => ("SalesDesk$Chance", "keptRegion", "I", false)
  | _ => ("SalesDesk$Chance", "counting", "LSalesDesk$Quote;", false)
def tyX1 : Nat → FieldType := fun k => match k with
  | 0 => .object "SalesDesk$Account"
  | 1 => .int
  | 2 => .array .int
  | 3 => .array .int
  | 4 => .int
  | 5 => .int
  | 6 => .int
  | _ => .object "SalesDesk$Quote"
abbrev wsX10 : List Cond := u_ws RX1 TX1 8
theorem nmX1 : ∀ a, a < 8 → ∀ b, b < 8 → a ≠ b → (TX1 a).2.1 ≠ (TX1 b).2.1 := by decide +kernel
theorem tyX1_ok : ∀ k, k < 8 → parseFieldDescriptor (TX1 k).2.2.1 = some (tyX1 k) := by decide +kernel
abbrev cX1_init : ByteArray := prog_3_method_1_code
def yX1_init : MethodName := ⟨RX1, "<init>", "(LSalesDesk$Account;II)V"⟩
def RX2 : String := "SalesDesk$Freeze"
def TX2 : u_T := fun k => match k with
  | _ => ("SalesDesk$Freeze", "forecasts", "[I", true)
def tyX2 : Nat → FieldType := fun k => match k with
  | _ => .array .int
abbrev wsX20 : List Cond := u_ws RX2 TX2 1
theorem nmX2 : ∀ a, a < 1 → ∀ b, b < 1 → a ≠ b → (TX2 a).2.1 ≠ (TX2 b).2.1 := by decide +kernel
theorem tyX2_ok : ∀ k, k < 1 → parseFieldDescriptor (TX2 k).2.2.1 = some (tyX2 k) := by decide +kernel
abbrev cX2_init : ByteArray := prog_4_method_1_code
def yX2_init : MethodName := ⟨RX2, "<init>", "()V"⟩
def RX3 : String := "SalesDesk$Quote"
def TX3 : u_T := fun k => match k with
  | 0 => ("SalesDesk$Quote", "number", "I", true)
  | 1 => ("SalesDesk$Quote", "chance", "LSalesDesk$Chance;", true)
  | 2 => ("SalesDesk$Quote", "maker", "LSalesDesk$Seller;", true)
  | 3 => ("SalesDesk$Quote", "discount", "I", true)
  | _ => ("SalesDesk$Quote", "approved", "Z", false)
def tyX3 : Nat → FieldType := fun k => match k with
  | 0 => .int
  | 1 => .object "SalesDesk$Chance"
  | 2 => .object "SalesDesk$Seller"
  | 3 => .int
  | _ => .boolean
abbrev wsX30 : List Cond := u_ws RX3 TX3 5
theorem nmX3 : ∀ a, a < 5 → ∀ b, b < 5 → a ≠ b → (TX3 a).2.1 ≠ (TX3 b).2.1 := by decide +kernel
theorem tyX3_ok : ∀ k, k < 5 → parseFieldDescriptor (TX3 k).2.2.1 = some (tyX3 k) := by decide +kernel
abbrev cX3_init : ByteArray := prog_5_method_1_code
def yX3_init : MethodName := ⟨RX3, "<init>", "(ILSalesDesk$Chance;LSalesDesk$Seller;I)V"⟩
def RX4 : String := "SalesDesk$Rule"
def TX4 : u_T := fun k => match k with
  | 0 => ("SalesDesk$Rule", "first", "I", true)
  | 1 => ("SalesDesk$Rule", "last", "I", true)
  | 2 => ("SalesDesk$Rule", "size", "I", true)
  | _ => ("SalesDesk$Rule", "region", "I", true)
def tyX4 : Nat → FieldType := fun k => match k with
  | 0 => .int
  | 1 => .int
  | 2 => .int
  | _ => .int
abbrev wsX40 : List Cond := u_ws RX4 TX4 4
theorem nmX4 : ∀ a, a < 4 → ∀ b, b < 4 → a ≠ b → (TX4 a).2.1 ≠ (TX4 b).2.1 := by decide +kernel
theorem tyX4_ok : ∀ k, k < 4 → parseFieldDescriptor (TX4 k).2.2.1 = some (tyX4 k) := by decide +kernel
abbrev cX4_init : ByteArray := prog_6_method_1_code
def yX4_init : MethodName := ⟨RX4, "<init>", "(IIII)V"⟩
def RX5 : String := "SalesDesk$Seller"
def TX5 : u_T := fun k => match k with
  | 0 => ("SalesDesk$Seller", "number", "I", true)
  | 1 => ("SalesDesk$Seller", "above", "LSalesDesk$Seller;", true)
  | 2 => ("SalesDesk$Seller", "limit", "I", true)
  | _ => ("SalesDesk$Seller", "adjustment", "I", false)
def tyX5 : Nat → FieldType := fun k => match k with
  | 0 => .int
  | 1 => .object "SalesDesk$Seller"
  | 2 => .int
  | _ => .int
abbrev wsX50 : List Cond := u_ws RX5 TX5 4
theorem nmX5 : ∀ a, a < 4 → ∀ b, b < 4 → a ≠ b → (TX5 a).2.1 ≠ (TX5 b).2.1 := by decide +kernel
theorem tyX5_ok : ∀ k, k < 4 → parseFieldDescriptor (TX5 k).2.2.1 = some (tyX5 k) := by decide +kernel
abbrev cX5_init : ByteArray := prog_7_method_1_code
def yX5_init : MethodName := ⟨RX5, "<init>", "(ILSalesDesk$Seller;I)V"⟩
def RX6 : String := "SalesDesk"
def TX6 : u_T := fun k => match k with
  | 0 => ("SalesDesk", "accounts", "Ljava/util/ArrayList;", true)
  | 1 => ("SalesDesk", "rules", "Ljava/util/ArrayList;", true)
  | 2 => ("SalesDesk", "sellers", "Ljava/util/ArrayList;", true)
  | 3 => ("SalesDesk", "chances", "Ljava/util/ArrayList;", true)
  | 4 => ("SalesDesk", "quotes", "Ljava/util/ArrayList;", true)
  | 5 => ("SalesDesk", "freezes", "Ljava/util/ArrayList;", true)
  | _ => ("SalesDesk", "today", "I", false)
def tyX6 : Nat → FieldType := fun k => match k with
  | 0 => .object "java/util/ArrayList"
  | 1 => .object "java/util/ArrayList"
  | 2 => .object "java/util/ArrayList"
  | 3 => .object "java/util/ArrayList"
  | 4 => .object "java/util/ArrayList"
  | 5 => .object "java/util/ArrayList"
  | _ => .int
abbrev wsX60 : List Cond := u_ws RX6 TX6 7
theorem nmX6 : ∀ a, a < 7 → ∀ b, b < 7 → a ≠ b → (TX6 a).2.1 ≠ (TX6 b).2.1 := by decide +kernel
theorem tyX6_ok : ∀ k, k < 7 → parseFieldDescriptor (TX6 k).2.2.1 = some (tyX6 k) := by decide +kernel
abbrev cX6_init : ByteArray := prog_1_method_1_code
def yX6_init : MethodName := ⟨RX6, "<init>", "()V"⟩
abbrev cX6_pass : ByteArray := prog_1_method_2_code
def yX6_pass : MethodName := ⟨RX6, "pass", "(I)I"⟩
abbrev cX6_addAccount : ByteArray := prog_1_method_3_code
def yX6_addAccount : MethodName := ⟨RX6, "addAccount", "(III)I"⟩
abbrev cX6_putRule : ByteArray := prog_1_method_4_code
def yX6_putRule : MethodName := ⟨RX6, "putRule", "(IIIII)I"⟩
abbrev cX6_removeRule : ByteArray := prog_1_method_5_code
def yX6_removeRule : MethodName := ⟨RX6, "removeRule", "(I)I"⟩
abbrev cX6_except : ByteArray := prog_1_method_6_code
def yX6_except : MethodName := ⟨RX6, "except", "(II)I"⟩
abbrev cX6_regionOf : ByteArray := prog_1_method_7_code
def yX6_regionOf : MethodName := ⟨RX6, "regionOf", "(I)I"⟩
abbrev cX6_addSeller : ByteArray := prog_1_method_8_code
def yX6_addSeller : MethodName := ⟨RX6, "addSeller", "(II)I"⟩
abbrev cX6_adjust : ByteArray := prog_1_method_9_code
def yX6_adjust : MethodName := ⟨RX6, "adjust", "(II)I"⟩
abbrev cX6_addChance : ByteArray := prog_1_method_10_code
def yX6_addChance : MethodName := ⟨RX6, "addChance", "(III)I"⟩
abbrev cX6_giveShare : ByteArray := prog_1_method_11_code
def yX6_giveShare : MethodName := ⟨RX6, "giveShare", "(IIII)I"⟩
abbrev cX6_move : ByteArray := prog_1_method_12_code
def yX6_move : MethodName := ⟨RX6, "move", "(II)I"⟩
abbrev cX6_stage : ByteArray := prog_1_method_13_code
def yX6_stage : MethodName := ⟨RX6, "stage", "(I)I"⟩
abbrev cX6_daysIn : ByteArray := prog_1_method_14_code
def yX6_daysIn : MethodName := ⟨RX6, "daysIn", "(II)I"⟩
abbrev cX6_stalled : ByteArray := prog_1_method_15_code
def yX6_stalled : MethodName := ⟨RX6, "stalled", "(I)I"⟩
abbrev cX6_worth : ByteArray := prog_1_method_16_code
def yX6_worth : MethodName := ⟨RX6, "worth", "(I)I"⟩
abbrev cX6_inRegion : ByteArray := prog_1_method_17_code
def yX6_inRegion : MethodName := ⟨RX6, "inRegion", "(II)I"⟩
abbrev cX6_won : ByteArray := prog_1_method_18_code
def yX6_won : MethodName := ⟨RX6, "won", "(I)I"⟩
abbrev cX6_quote : ByteArray := prog_1_method_19_code
def yX6_quote : MethodName := ⟨RX6, "quote", "(III)I"⟩
abbrev cX6_approve : ByteArray := prog_1_method_20_code
def yX6_approve : MethodName := ⟨RX6, "approve", "(II)V"⟩
abbrev cX6_counting : ByteArray := prog_1_method_21_code
def yX6_counting : MethodName := ⟨RX6, "counting", "(I)I"⟩
abbrev cX6_waiting : ByteArray := prog_1_method_22_code
def yX6_waiting : MethodName := ⟨RX6, "waiting", "()I"⟩
abbrev cX6_forecast : ByteArray := prog_1_method_23_code
def yX6_forecast : MethodName := ⟨RX6, "forecast", "(I)I"⟩
abbrev cX6_own : ByteArray := prog_1_method_24_code
def yX6_own : MethodName := ⟨RX6, "own", "(I)I"⟩
abbrev cX6_freeze : ByteArray := prog_1_method_25_code
def yX6_freeze : MethodName := ⟨RX6, "freeze", "()I"⟩
abbrev cX6_since : ByteArray := prog_1_method_26_code
def yX6_since : MethodName := ⟨RX6, "since", "(II)I"⟩
abbrev cX6_accountAt : ByteArray := prog_1_method_27_code
def yX6_accountAt : MethodName := ⟨RX6, "accountAt", "(I)LSalesDesk$Account;"⟩
abbrev cX6_sellerAt : ByteArray := prog_1_method_28_code
def yX6_sellerAt : MethodName := ⟨RX6, "sellerAt", "(I)LSalesDesk$Seller;"⟩
abbrev cX6_chanceAt : ByteArray := prog_1_method_29_code
def yX6_chanceAt : MethodName := ⟨RX6, "chanceAt", "(I)LSalesDesk$Chance;"⟩
abbrev cX6_quoteAt : ByteArray := prog_1_method_30_code
def yX6_quoteAt : MethodName := ⟨RX6, "quoteAt", "(I)LSalesDesk$Quote;"⟩
abbrev cX6_requireRange : ByteArray := prog_1_method_31_code
def yX6_requireRange : MethodName := ⟨RX6, "requireRange", "(III)V"⟩
abbrev cX6_requireStage : ByteArray := prog_1_method_32_code
def yX6_requireStage : MethodName := ⟨RX6, "requireStage", "(I)V"⟩
abbrev cX6_requireRoom : ByteArray := prog_1_method_33_code
def yX6_requireRoom : MethodName := ⟨RX6, "requireRoom", "(II)V"⟩
abbrev cX6_requireOpen : ByteArray := prog_1_method_34_code
def yX6_requireOpen : MethodName := ⟨RX6, "requireOpen", "(LSalesDesk$Chance;)V"⟩
abbrev cX6_regionNow : ByteArray := prog_1_method_35_code
def yX6_regionNow : MethodName := ⟨RX6, "regionNow", "(LSalesDesk$Account;)I"⟩
abbrev cX6_ruledRegion : ByteArray := prog_1_method_36_code
def yX6_ruledRegion : MethodName := ⟨RX6, "ruledRegion", "(LSalesDesk$Account;)I"⟩
abbrev cX6_regionFor : ByteArray := prog_1_method_37_code
def yX6_regionFor : MethodName := ⟨RX6, "regionFor", "(LSalesDesk$Chance;)I"⟩
abbrev cX6_isInTree : ByteArray := prog_1_method_38_code
def yX6_isInTree : MethodName := ⟨RX6, "isInTree", "(LSalesDesk$Account;LSalesDesk$Account;)Z"⟩
abbrev cX6_isOpen : ByteArray := prog_1_method_39_code
def yX6_isOpen : MethodName := ⟨RX6, "isOpen", "(LSalesDesk$Chance;)Z"⟩
abbrev cX6_canCome : ByteArray := prog_1_method_40_code
def yX6_canCome : MethodName := ⟨RX6, "canCome", "(LSalesDesk$Chance;I)Z"⟩
abbrev cX6_canApprove : ByteArray := prog_1_method_41_code
def yX6_canApprove : MethodName := ⟨RX6, "canApprove", "(LSalesDesk$Quote;LSalesDesk$Seller;)Z"⟩
abbrev cX6_letCount : ByteArray := prog_1_method_42_code
def yX6_letCount : MethodName := ⟨RX6, "letCount", "(LSalesDesk$Quote;)V"⟩
abbrev cX6_worthNow : ByteArray := prog_1_method_43_code
def yX6_worthNow : MethodName := ⟨RX6, "worthNow", "(LSalesDesk$Chance;)I"⟩
abbrev cX6_isInTeam : ByteArray := prog_1_method_44_code
def yX6_isInTeam : MethodName := ⟨RX6, "isInTeam", "(LSalesDesk$Seller;LSalesDesk$Seller;)Z"⟩
abbrev cX6_ownNow : ByteArray := prog_1_method_45_code
def yX6_ownNow : MethodName := ⟨RX6, "ownNow", "(LSalesDesk$Seller;)I"⟩
abbrev cX6_forecastNow : ByteArray := prog_1_method_46_code
def yX6_forecastNow : MethodName := ⟨RX6, "forecastNow", "(LSalesDesk$Seller;)I"⟩
abbrev cX6_hundredths : ByteArray := prog_1_method_47_code
def yX6_hundredths : MethodName := ⟨RX6, "hundredths", "(II)I"⟩
abbrev cX6_at : ByteArray := prog_1_method_48_code
def yX6_at : MethodName := ⟨RX6, "at", "([II)I"⟩
abbrev cX6_addTo : ByteArray := prog_1_method_49_code
def yX6_addTo : MethodName := ⟨RX6, "addTo", "([III)V"⟩
def RX7 : String := "SalesDeskModel"
def TX7 : u_T := fun k => match k with
  | 0 => ("SalesDeskModel", "day", "I", false)
  | 1 => ("SalesDeskModel", "accounts", "I", false)
  | 2 => ("SalesDeskModel", "aboveAccount", "[I", true)
  | 3 => ("SalesDeskModel", "area", "[I", true)
  | 4 => ("SalesDeskModel", "size", "[I", true)
  | 5 => ("SalesDeskModel", "exception", "[I", true)
  | 6 => ("SalesDeskModel", "rules", "I", false)
  | 7 => ("SalesDeskModel", "first", "[I", true)
  | 8 => ("SalesDeskModel", "last", "[I", true)
  | 9 => ("SalesDeskModel", "least", "[I", true)
  | 10 => ("SalesDeskModel", "to", "[I", true)
  | 11 => ("SalesDeskModel", "sellers", "I", false)
  | 12 => ("SalesDeskModel", "above", "[I", true)
  | 13 => ("SalesDeskModel", "limit", "[I", true)
  | 14 => ("SalesDeskModel", "adjustment", "[I", true)
  | 15 => ("SalesDeskModel", "chances", "I", false)
  | 16 => ("SalesDeskModel", "account", "[I", true)
  | 17 => ("SalesDeskModel", "amount", "[I", true)
  | 18 => ("SalesDeskModel", "stage", "[I", true)
  | 19 => ("SalesDeskModel", "came", "[I", true)
  | 20 => ("SalesDeskModel", "keptRegion", "[I", true)
  | 21 => ("SalesDeskModel", "share", "[I", true)
  | 22 => ("SalesDeskModel", "spent", "[I", true)
  | 23 => ("SalesDeskModel", "quotes", "I", false)
  | 24 => ("SalesDeskModel", "approvals", "I", false)
  | 25 => ("SalesDeskModel", "chance", "[I", true)
  | 26 => ("SalesDeskModel", "maker", "[I", true)
  | 27 => ("SalesDeskModel", "discount", "[I", true)
  | 28 => ("SalesDeskModel", "approved", "[I", true)
  | 29 => ("SalesDeskModel", "freezes", "I", false)
  | 30 => ("SalesDeskModel", "frozen", "[I", true)
  | _ => ("SalesDeskModel", "thrown", "I", false)
def tyX7 : Nat → FieldType := fun k => match k with
  | 0 => .int
  | 1 => .int
  | 2 => .array .int
  | 3 => .array .int
  | 4 => .array .int
  | 5 => .array .int
  | 6 => .int
  | 7 => .array .int
  | 8 => .array .int
  | 9 => .array .int
  | 10 => .array .int
  | 11 => .int
  | 12 => .array .int
  | 13 => .array .int
  | 14 => .array .int
  | 15 => .int
  | 16 => .array .int
  | 17 => .array .int
  | 18 => .array .int
  | 19 => .array .int
  | 20 => .array .int
  | 21 => .array .int
  | 22 => .array .int
  | 23 => .int
  | 24 => .int
  | 25 => .array .int
  | 26 => .array .int
  | 27 => .array .int
  | 28 => .array .int
  | 29 => .int
  | 30 => .array .int
  | _ => .int
abbrev wsX70 : List Cond := u_ws RX7 TX7 32
theorem nmX7 : ∀ a, a < 32 → ∀ b, b < 32 → a ≠ b → (TX7 a).2.1 ≠ (TX7 b).2.1 := by decide +kernel
theorem tyX7_ok : ∀ k, k < 32 → parseFieldDescriptor (TX7 k).2.2.1 = some (tyX7 k) := by decide +kernel
abbrev cX7_init : ByteArray := prog_9_method_1_code
def yX7_init : MethodName := ⟨RX7, "<init>", "()V"⟩
abbrev cX7_thrown : ByteArray := prog_9_method_2_code
def yX7_thrown : MethodName := ⟨RX7, "thrown", "()I"⟩
abbrev cX7_in : ByteArray := prog_9_method_3_code
def yX7_in : MethodName := ⟨RX7, "in", "(III)Z"⟩
abbrev cX7_goes : ByteArray := prog_9_method_4_code
def yX7_goes : MethodName := ⟨RX7, "goes", "(ZZZ)Z"⟩
abbrev cX7_isAccount : ByteArray := prog_9_method_5_code
def yX7_isAccount : MethodName := ⟨RX7, "isAccount", "(I)Z"⟩
abbrev cX7_isSeller : ByteArray := prog_9_method_6_code
def yX7_isSeller : MethodName := ⟨RX7, "isSeller", "(I)Z"⟩
abbrev cX7_isChance : ByteArray := prog_9_method_7_code
def yX7_isChance : MethodName := ⟨RX7, "isChance", "(I)Z"⟩
abbrev cX7_pass : ByteArray := prog_9_method_8_code
def yX7_pass : MethodName := ⟨RX7, "pass", "(I)I"⟩
abbrev cX7_addAccount : ByteArray := prog_9_method_9_code
def yX7_addAccount : MethodName := ⟨RX7, "addAccount", "(III)I"⟩
abbrev cX7_copyRule : ByteArray := prog_9_method_10_code
def yX7_copyRule : MethodName := ⟨RX7, "copyRule", "(II)V"⟩
abbrev cX7_putRule : ByteArray := prog_9_method_11_code
def yX7_putRule : MethodName := ⟨RX7, "putRule", "(IIIII)I"⟩
abbrev cX7_removeRule : ByteArray := prog_9_method_12_code
def yX7_removeRule : MethodName := ⟨RX7, "removeRule", "(I)I"⟩
abbrev cX7_except : ByteArray := prog_9_method_13_code
def yX7_except : MethodName := ⟨RX7, "except", "(II)I"⟩
abbrev cX7_ownRegion : ByteArray := prog_9_method_14_code
def yX7_ownRegion : MethodName := ⟨RX7, "ownRegion", "(I)I"⟩
abbrev cX7_region : ByteArray := prog_9_method_15_code
def yX7_region : MethodName := ⟨RX7, "region", "(I)I"⟩
abbrev cX7_regionOf : ByteArray := prog_9_method_16_code
def yX7_regionOf : MethodName := ⟨RX7, "regionOf", "(I)I"⟩
abbrev cX7_addSeller : ByteArray := prog_9_method_17_code
def yX7_addSeller : MethodName := ⟨RX7, "addSeller", "(II)I"⟩
abbrev cX7_adjust : ByteArray := prog_9_method_18_code
def yX7_adjust : MethodName := ⟨RX7, "adjust", "(II)I"⟩
abbrev cX7_addChance : ByteArray := prog_9_method_19_code
def yX7_addChance : MethodName := ⟨RX7, "addChance", "(III)I"⟩
abbrev cX7_isOpen : ByteArray := prog_9_method_20_code
def yX7_isOpen : MethodName := ⟨RX7, "isOpen", "(I)Z"⟩
abbrev cX7_giveShare : ByteArray := prog_9_method_21_code
def yX7_giveShare : MethodName := ⟨RX7, "giveShare", "(IIII)I"⟩
abbrev cX7_counts : ByteArray := prog_9_method_22_code
def yX7_counts : MethodName := ⟨RX7, "counts", "(I)I"⟩
abbrev cX7_canCome : ByteArray := prog_9_method_23_code
def yX7_canCome : MethodName := ⟨RX7, "canCome", "(II)Z"⟩
abbrev cX7_move : ByteArray := prog_9_method_24_code
def yX7_move : MethodName := ⟨RX7, "move", "(II)I"⟩
abbrev cX7_stage : ByteArray := prog_9_method_25_code
def yX7_stage : MethodName := ⟨RX7, "stage", "(I)I"⟩
abbrev cX7_daysIn : ByteArray := prog_9_method_26_code
def yX7_daysIn : MethodName := ⟨RX7, "daysIn", "(II)I"⟩
abbrev cX7_stalled : ByteArray := prog_9_method_27_code
def yX7_stalled : MethodName := ⟨RX7, "stalled", "(I)I"⟩
abbrev cX7_worthOf : ByteArray := prog_9_method_28_code
def yX7_worthOf : MethodName := ⟨RX7, "worthOf", "(I)I"⟩
abbrev cX7_worth : ByteArray := prog_9_method_29_code
def yX7_worth : MethodName := ⟨RX7, "worth", "(I)I"⟩
abbrev cX7_inRegion : ByteArray := prog_9_method_30_code
def yX7_inRegion : MethodName := ⟨RX7, "inRegion", "(II)I"⟩
abbrev cX7_won : ByteArray := prog_9_method_31_code
def yX7_won : MethodName := ⟨RX7, "won", "(I)I"⟩
abbrev cX7_approves : ByteArray := prog_9_method_32_code
def yX7_approves : MethodName := ⟨RX7, "approves", "(I)V"⟩
abbrev cX7_quote : ByteArray := prog_9_method_33_code
def yX7_quote : MethodName := ⟨RX7, "quote", "(III)I"⟩
abbrev cX7_isAbove : ByteArray := prog_9_method_34_code
def yX7_isAbove : MethodName := ⟨RX7, "isAbove", "(II)Z"⟩
abbrev cX7_approve : ByteArray := prog_9_method_35_code
def yX7_approve : MethodName := ⟨RX7, "approve", "(II)V"⟩
abbrev cX7_counting : ByteArray := prog_9_method_36_code
def yX7_counting : MethodName := ⟨RX7, "counting", "(I)I"⟩
abbrev cX7_waiting : ByteArray := prog_9_method_37_code
def yX7_waiting : MethodName := ⟨RX7, "waiting", "()I"⟩
abbrev cX7_weight : ByteArray := prog_9_method_38_code
def yX7_weight : MethodName := ⟨RX7, "weight", "(I)I"⟩
abbrev cX7_ownOf : ByteArray := prog_9_method_39_code
def yX7_ownOf : MethodName := ⟨RX7, "ownOf", "(I)I"⟩
abbrev cX7_forecastOf : ByteArray := prog_9_method_40_code
def yX7_forecastOf : MethodName := ⟨RX7, "forecastOf", "(I)I"⟩
abbrev cX7_forecast : ByteArray := prog_9_method_41_code
def yX7_forecast : MethodName := ⟨RX7, "forecast", "(I)I"⟩
abbrev cX7_own : ByteArray := prog_9_method_42_code
def yX7_own : MethodName := ⟨RX7, "own", "(I)I"⟩
abbrev cX7_freeze : ByteArray := prog_9_method_43_code
def yX7_freeze : MethodName := ⟨RX7, "freeze", "()I"⟩
abbrev cX7_since : ByteArray := prog_9_method_44_code
def yX7_since : MethodName := ⟨RX7, "since", "(II)I"⟩
def RJx145de : String := "java/io/Serializable"
def TJx145de : u_T := fun k => match k with
  | _ => ("", "", "", false)
def tyJx145de : Nat → FieldType := fun k => match k with
  | _ => .int
abbrev wsJx145de0 : List Cond := u_ws RJx145de TJx145de 0
theorem nmJx145de : ∀ a, a < 0 → ∀ b, b < 0 → a ≠ b → (TJx145de a).2.1 ≠ (TJx145de b).2.1 := by decide +kernel
theorem tyJx145de_ok : ∀ k, k < 0 → parseFieldDescriptor (TJx145de k).2.2.1 = some (tyJx145de k) := by decide +kernel
def RJ5 : String := "java/lang/AbstractStringBuilder"
def TJ5 : u_T := fun k => match k with
  | _ => ("", "", "", false)
def tyJ5 : Nat → FieldType := fun k => match k with
  | _ => .int
abbrev wsJ50 : List Cond := u_ws RJ5 TJ5 0
theorem nmJ5 : ∀ a, a < 0 → ∀ b, b < 0 → a ≠ b → (TJ5 a).2.1 ≠ (TJ5 b).2.1 := by decide +kernel
theorem tyJ5_ok : ∀ k, k < 0 → parseFieldDescriptor (TJ5 k).2.2.1 = some (tyJ5 k) := by decide +kernel
abbrev cJ5_init_d00df : ByteArray := prog_11_method_2_code
def yJ5_init_d00df : MethodName := ⟨RJ5, "<init>", "(I)V"⟩
abbrev cJ5_length_8abf5 : ByteArray := prog_11_method_6_code
def yJ5_length_8abf5 : MethodName := ⟨RJ5, "length", "()I"⟩
abbrev cJ5_ensureCapacityInternal_d00df : ByteArray := prog_11_method_9_code
def yJ5_ensureCapacityInternal_d00df : MethodName := ⟨RJ5, "ensureCapacityInternal", "(I)V"⟩
abbrev cJ5_newCapacity_0f7a4 : ByteArray := prog_11_method_10_code
def yJ5_newCapacity_0f7a4 : MethodName := ⟨RJ5, "newCapacity", "(I)I"⟩
abbrev cJ5_inflate_da8c8 : ByteArray := prog_11_method_11_code
def yJ5_inflate_da8c8 : MethodName := ⟨RJ5, "inflate", "()V"⟩
abbrev cJ5_append_cf1ce : ByteArray := prog_11_method_22_code
def yJ5_append_cf1ce : MethodName := ⟨RJ5, "append", "(Ljava/lang/String;)Ljava/lang/AbstractStringBuilder;"⟩
abbrev cJ5_appendNull_278bc : ByteArray := prog_11_method_26_code
def yJ5_appendNull_278bc : MethodName := ⟨RJ5, "appendNull", "()Ljava/lang/AbstractStringBuilder;"⟩
abbrev cJ5_append_c97b9 : ByteArray := prog_11_method_32_code
def yJ5_append_c97b9 : MethodName := ⟨RJ5, "append", "(I)Ljava/lang/AbstractStringBuilder;"⟩
abbrev cJ5_getValue_6d5f1 : ByteArray := prog_11_method_64_code
def yJ5_getValue_6d5f1 : MethodName := ⟨RJ5, "getValue", "()[B"⟩
abbrev cJ5_isLatin1_aae02 : ByteArray := prog_11_method_68_code
def yJ5_isLatin1_aae02 : MethodName := ⟨RJ5, "isLatin1", "()Z"⟩
abbrev cJ5_inflateIfNeededFor_a7421 : ByteArray := prog_11_method_71_code
def yJ5_inflateIfNeededFor_a7421 : MethodName := ⟨RJ5, "inflateIfNeededFor", "(Ljava/lang/String;)V"⟩
abbrev cJ5_putStringAt_47b60 : ByteArray := prog_11_method_73_code
def yJ5_putStringAt_47b60 : MethodName := ⟨RJ5, "putStringAt", "(ILjava/lang/String;)V"⟩
def RJx2cfe8 : String := "java/lang/Appendable"
def TJx2cfe8 : u_T := fun k => match k with
  | _ => ("", "", "", false)
def tyJx2cfe8 : Nat → FieldType := fun k => match k with
  | _ => .int
abbrev wsJx2cfe80 : List Cond := u_ws RJx2cfe8 TJx2cfe8 0
theorem nmJx2cfe8 : ∀ a, a < 0 → ∀ b, b < 0 → a ≠ b → (TJx2cfe8 a).2.1 ≠ (TJx2cfe8 b).2.1 := by decide +kernel
theorem tyJx2cfe8_ok : ∀ k, k < 0 → parseFieldDescriptor (TJx2cfe8 k).2.2.1 = some (tyJx2cfe8 k) := by decide +kernel
def RJx9f9b0 : String := "java/lang/CharSequence"
def TJx9f9b0 : u_T := fun k => match k with
  | _ => ("", "", "", false)
def tyJx9f9b0 : Nat → FieldType := fun k => match k with
  | _ => .int
abbrev wsJx9f9b00 : List Cond := u_ws RJx9f9b0 TJx9f9b0 0
theorem nmJx9f9b0 : ∀ a, a < 0 → ∀ b, b < 0 → a ≠ b → (TJx9f9b0 a).2.1 ≠ (TJx9f9b0 b).2.1 := by decide +kernel
theorem tyJx9f9b0_ok : ∀ k, k < 0 → parseFieldDescriptor (TJx9f9b0 k).2.2.1 = some (tyJx9f9b0 k) := by decide +kernel
def RJx8e188 : String := "java/lang/Cloneable"
def TJx8e188 : u_T := fun k => match k with
  | _ => ("", "", "", false)
def tyJx8e188 : Nat → FieldType := fun k => match k with
  | _ => .int
abbrev wsJx8e1880 : List Cond := u_ws RJx8e188 TJx8e188 0
theorem nmJx8e188 : ∀ a, a < 0 → ∀ b, b < 0 → a ≠ b → (TJx8e188 a).2.1 ≠ (TJx8e188 b).2.1 := by decide +kernel
theorem tyJx8e188_ok : ∀ k, k < 0 → parseFieldDescriptor (TJx8e188 k).2.2.1 = some (tyJx8e188 k) := by decide +kernel
def RJxb160c : String := "java/lang/Comparable"
def TJxb160c : u_T := fun k => match k with
  | _ => ("", "", "", false)
def tyJxb160c : Nat → FieldType := fun k => match k with
  | _ => .int
abbrev wsJxb160c0 : List Cond := u_ws RJxb160c TJxb160c 0
theorem nmJxb160c : ∀ a, a < 0 → ∀ b, b < 0 → a ≠ b → (TJxb160c a).2.1 ≠ (TJxb160c b).2.1 := by decide +kernel
theorem tyJxb160c_ok : ∀ k, k < 0 → parseFieldDescriptor (TJxb160c k).2.2.1 = some (tyJxb160c k) := by decide +kernel
def RJ6 : String := "java/lang/Integer"
def TJ6 : u_T := fun k => match k with
  | _ => ("", "", "", false)
def tyJ6 : Nat → FieldType := fun k => match k with
  | _ => .int
abbrev wsJ60 : List Cond := u_ws RJ6 TJ6 0
theorem nmJ6 : ∀ a, a < 0 → ∀ b, b < 0 → a ≠ b → (TJ6 a).2.1 ≠ (TJ6 b).2.1 := by decide +kernel
theorem tyJ6_ok : ∀ k, k < 0 → parseFieldDescriptor (TJ6 k).2.2.1 = some (tyJ6 k) := by decide +kernel
abbrev cJ6_getChars_ba4f3 : ByteArray := prog_20_method_12_code
def yJ6_getChars_ba4f3 : MethodName := ⟨RJ6, "getChars", "(II[B)I"⟩
abbrev cJ6_stringSize_0f7a4 : ByteArray := prog_20_method_13_code
def yJ6_stringSize_0f7a4 : MethodName := ⟨RJ6, "stringSize", "(I)I"⟩
def RJxab1ab : String := "java/lang/Iterable"
def TJxab1ab : u_T := fun k => match k with
  | _ => ("", "", "", false)
def tyJxab1ab : Nat → FieldType := fun k => match k with
  | _ => .int
abbrev wsJxab1ab0 : List Cond := u_ws RJxab1ab TJxab1ab 0
theorem nmJxab1ab : ∀ a, a < 0 → ∀ b, b < 0 → a ≠ b → (TJxab1ab a).2.1 ≠ (TJxab1ab b).2.1 := by decide +kernel
theorem tyJxab1ab_ok : ∀ k, k < 0 → parseFieldDescriptor (TJxab1ab k).2.2.1 = some (tyJxab1ab k) := by decide +kernel
def RJ9 : String := "java/lang/Math"
def TJ9 : u_T := fun k => match k with
  | _ => ("", "", "", false)
def tyJ9 : Nat → FieldType := fun k => match k with
  | _ => .int
abbrev wsJ90 : List Cond := u_ws RJ9 TJ9 0
theorem nmJ9 : ∀ a, a < 0 → ∀ b, b < 0 → a ≠ b → (TJ9 a).2.1 ≠ (TJ9 b).2.1 := by decide +kernel
theorem tyJ9_ok : ∀ k, k < 0 → parseFieldDescriptor (TJ9 k).2.2.1 = some (tyJ9 k) := by decide +kernel
abbrev cJ9_max_7cf53 : ByteArray := prog_22_method_65_code
def yJ9_max_7cf53 : MethodName := ⟨RJ9, "max", "(II)I"⟩
abbrev cJ9_min_7cf53 : ByteArray := prog_22_method_69_code
def yJ9_min_7cf53 : MethodName := ⟨RJ9, "min", "(II)I"⟩
def RJxd2413 : String := "java/lang/Number"
def TJxd2413 : u_T := fun k => match k with
  | _ => ("", "", "", false)
def tyJxd2413 : Nat → FieldType := fun k => match k with
  | _ => .int
abbrev wsJxd24130 : List Cond := u_ws RJxd2413 TJxd2413 0
theorem nmJxd2413 : ∀ a, a < 0 → ∀ b, b < 0 → a ≠ b → (TJxd2413 a).2.1 ≠ (TJxd2413 b).2.1 := by decide +kernel
theorem tyJxd2413_ok : ∀ k, k < 0 → parseFieldDescriptor (TJxd2413 k).2.2.1 = some (tyJxd2413 k) := by decide +kernel
def RJ0 : String := "java/lang/String"
def TJ0 : u_T := fun k => match k with
  | 0 => ("java/lang/String", "value", "[B", true)
  | 1 => ("java/lang/String", "coder", "B", true)
  | 2 => ("java/lang/String", "hash", "I", false)
  | _ => ("java/lang/String", "hashIsZero", "Z", false)
def tyJ0 : Nat → FieldType := fun k => match k with
  | 0 => .array .byte
  | 1 => .byte
  | 2 => .int
  | _ => .boolean
abbrev wsJ00 : List Cond := u_ws RJ0 TJ0 4
theorem nmJ0 : ∀ a, a < 4 → ∀ b, b < 4 → a ≠ b → (TJ0 a).2.1 ≠ (TJ0 b).2.1 := by decide +kernel
theorem tyJ0_ok : ∀ k, k < 4 → parseFieldDescriptor (TJ0 k).2.2.1 = some (tyJ0 k) := by decide +kernel
abbrev cJ0_init_81219 : ByteArray := prog_25_method_53_code
def yJ0_init_81219 : MethodName := ⟨RJ0, "<init>", "(Ljava/lang/StringBuilder;)V"⟩
abbrev cJ0_length_8abf5 : ByteArray := prog_25_method_54_code
def yJ0_length_8abf5 : MethodName := ⟨RJ0, "length", "()I"⟩
abbrev cJ0_getBytes_840e7 : ByteArray := prog_25_method_147_code
def yJ0_getBytes_840e7 : MethodName := ⟨RJ0, "getBytes", "([BIB)V"⟩
abbrev cJ0_init_db425 : ByteArray := prog_25_method_150_code
def yJ0_init_db425 : MethodName := ⟨RJ0, "<init>", "(Ljava/lang/AbstractStringBuilder;Ljava/lang/Void;)V"⟩
abbrev cJ0_coder_7d493 : ByteArray := prog_25_method_152_code
def yJ0_coder_7d493 : MethodName := ⟨RJ0, "coder", "()B"⟩
abbrev cJ0_checkBoundsOffCount_cabcc : ByteArray := prog_25_method_157_code
def yJ0_checkBoundsOffCount_cabcc : MethodName := ⟨RJ0, "checkBoundsOffCount", "(III)I"⟩
abbrev cJ0_checkBoundsBeginEnd_23922 : ByteArray := prog_25_method_158_code
def yJ0_checkBoundsBeginEnd_23922 : MethodName := ⟨RJ0, "checkBoundsBeginEnd", "(III)V"⟩
def RJ4 : String := "java/lang/StringBuilder"
def TJ4 : u_T := fun k => match k with
  | 0 => ("java/lang/AbstractStringBuilder", "value", "[B", false)
  | 1 => ("java/lang/AbstractStringBuilder", "coder", "B", false)
  | 2 => ("java/lang/AbstractStringBuilder", "maybeLatin1", "Z", false)
  | _ => ("java/lang/AbstractStringBuilder", "count", "I", false)
def tyJ4 : Nat → FieldType := fun k => match k with
  | 0 => .array .byte
  | 1 => .byte
  | 2 => .boolean
  | _ => .int
abbrev wsJ40 : List Cond := u_ws RJ4 TJ4 4
theorem nmJ4 : ∀ a, a < 4 → ∀ b, b < 4 → a ≠ b → (TJ4 a).2.1 ≠ (TJ4 b).2.1 := by decide +kernel
theorem tyJ4_ok : ∀ k, k < 4 → parseFieldDescriptor (TJ4 k).2.2.1 = some (tyJ4 k) := by decide +kernel
abbrev cJ4_init_da8c8 : ByteArray := prog_26_method_1_code
def yJ4_init_da8c8 : MethodName := ⟨RJ4, "<init>", "()V"⟩
abbrev cJ4_append_15ec4 : ByteArray := prog_26_method_7_code
def yJ4_append_15ec4 : MethodName := ⟨RJ4, "append", "(Ljava/lang/String;)Ljava/lang/StringBuilder;"⟩
abbrev cJ4_append_bf812 : ByteArray := prog_26_method_15_code
def yJ4_append_bf812 : MethodName := ⟨RJ4, "append", "(I)Ljava/lang/StringBuilder;"⟩
abbrev cJ4_toString_0e30d : ByteArray := prog_26_method_42_code
def yJ4_toString_0e30d : MethodName := ⟨RJ4, "toString", "()Ljava/lang/String;"⟩
abbrev cJ4_length_8abf5 : ByteArray := prog_26_method_93_code
def yJ4_length_8abf5 : MethodName := ⟨RJ4, "length", "()I"⟩
def RJ1 : String := "java/lang/StringLatin1"
def TJ1 : u_T := fun k => match k with
  | _ => ("", "", "", false)
def tyJ1 : Nat → FieldType := fun k => match k with
  | _ => .int
abbrev wsJ10 : List Cond := u_ws RJ1 TJ1 0
theorem nmJ1 : ∀ a, a < 0 → ∀ b, b < 0 → a ≠ b → (TJ1 a).2.1 ≠ (TJ1 b).2.1 := by decide +kernel
theorem tyJ1_ok : ∀ k, k < 0 → parseFieldDescriptor (TJ1 k).2.2.1 = some (tyJ1 k) := by decide +kernel
abbrev cJ1_inflate_0e8fd : ByteArray := prog_27_method_50_code
def yJ1_inflate_0e8fd : MethodName := ⟨RJ1, "inflate", "([BI[BII)V"⟩
def RJ2 : String := "java/lang/StringUTF16"
def TJ2 : u_T := fun k => match k with
  | _ => ("", "", "", false)
def tyJ2 : Nat → FieldType := fun k => match k with
  | _ => .int
abbrev wsJ20 : List Cond := u_ws RJ2 TJ2 0
theorem nmJ2 : ∀ a, a < 0 → ∀ b, b < 0 → a ≠ b → (TJ2 a).2.1 ≠ (TJ2 b).2.1 := by decide +kernel
theorem tyJ2_ok : ∀ k, k < 0 → parseFieldDescriptor (TJ2 k).2.2.1 = some (tyJ2 k) := by decide +kernel
abbrev cJ2_newBytesFor_77867 : ByteArray := prog_28_method_2_code
def yJ2_newBytesFor_77867 : MethodName := ⟨RJ2, "newBytesFor", "(I)[B"⟩
abbrev cJ2_newBytesLength_0f7a4 : ByteArray := prog_28_method_3_code
def yJ2_newBytesLength_0f7a4 : MethodName := ⟨RJ2, "newBytesLength", "(I)I"⟩
abbrev cJ2_putChar_b72d1 : ByteArray := prog_28_method_4_code
def yJ2_putChar_b72d1 : MethodName := ⟨RJ2, "putChar", "([BII)V"⟩
abbrev cJ2_getChar_3b067 : ByteArray := prog_28_method_5_code
def yJ2_getChar_3b067 : MethodName := ⟨RJ2, "getChar", "([BI)C"⟩
abbrev cJ2_length_9d52b : ByteArray := prog_28_method_6_code
def yJ2_length_9d52b : MethodName := ⟨RJ2, "length", "([B)I"⟩
abbrev cJ2_coderFromArrayLen_85cad : ByteArray := prog_28_method_15_code
def yJ2_coderFromArrayLen_85cad : MethodName := ⟨RJ2, "coderFromArrayLen", "([BI)B"⟩
abbrev cJ2_compress_39247 : ByteArray := prog_28_method_17_code
def yJ2_compress_39247 : MethodName := ⟨RJ2, "compress", "([BII)[B"⟩
abbrev cJ2_compress_5af95 : ByteArray := prog_28_method_22_code
def yJ2_compress_5af95 : MethodName := ⟨RJ2, "compress", "([BI[BII)I"⟩
abbrev cJ2_getChars_46870 : ByteArray := prog_28_method_77_code
def yJ2_getChars_46870 : MethodName := ⟨RJ2, "getChars", "(III[B)I"⟩
abbrev cJ2_putCharsAt_cd4e5 : ByteArray := prog_28_method_81_code
def yJ2_putCharsAt_cd4e5 : MethodName := ⟨RJ2, "putCharsAt", "([BICCCC)I"⟩
abbrev cJ2_inflate_0e8fd : ByteArray := prog_28_method_86_code
def yJ2_inflate_0e8fd : MethodName := ⟨RJ2, "inflate", "([BI[BII)V"⟩
abbrev cJ2_getChars_ba4f3 : ByteArray := prog_28_method_89_code
def yJ2_getChars_ba4f3 : MethodName := ⟨RJ2, "getChars", "(II[B)I"⟩
abbrev cJ2_checkBoundsBeginEnd_d044e : ByteArray := prog_28_method_93_code
def yJ2_checkBoundsBeginEnd_d044e : MethodName := ⟨RJ2, "checkBoundsBeginEnd", "(II[B)V"⟩
abbrev cJ2_checkBoundsOffCount_d044e : ByteArray := prog_28_method_94_code
def yJ2_checkBoundsOffCount_d044e : MethodName := ⟨RJ2, "checkBoundsOffCount", "(II[B)V"⟩
def RJ10 : String := "java/lang/System"
def TJ10 : u_T := fun k => match k with
  | _ => ("", "", "", false)
def tyJ10 : Nat → FieldType := fun k => match k with
  | _ => .int
abbrev wsJ100 : List Cond := u_ws RJ10 TJ10 0
theorem nmJ10 : ∀ a, a < 0 → ∀ b, b < 0 → a ≠ b → (TJ10 a).2.1 ≠ (TJ10 b).2.1 := by decide +kernel
theorem tyJ10_ok : ∀ k, k < 0 → parseFieldDescriptor (TJ10 k).2.2.1 = some (tyJ10 k) := by decide +kernel
def RJxfd54e : String := "java/lang/constant/Constable"
def TJxfd54e : u_T := fun k => match k with
  | _ => ("", "", "", false)
def tyJxfd54e : Nat → FieldType := fun k => match k with
  | _ => .int
abbrev wsJxfd54e0 : List Cond := u_ws RJxfd54e TJxfd54e 0
theorem nmJxfd54e : ∀ a, a < 0 → ∀ b, b < 0 → a ≠ b → (TJxfd54e a).2.1 ≠ (TJxfd54e b).2.1 := by decide +kernel
theorem tyJxfd54e_ok : ∀ k, k < 0 → parseFieldDescriptor (TJxfd54e k).2.2.1 = some (tyJxfd54e k) := by decide +kernel
def RJx3cf43 : String := "java/lang/constant/ConstantDesc"
def TJx3cf43 : u_T := fun k => match k with
  | _ => ("", "", "", false)
def tyJx3cf43 : Nat → FieldType := fun k => match k with
  | _ => .int
abbrev wsJx3cf430 : List Cond := u_ws RJx3cf43 TJx3cf43 0
theorem nmJx3cf43 : ∀ a, a < 0 → ∀ b, b < 0 → a ≠ b → (TJx3cf43 a).2.1 ≠ (TJx3cf43 b).2.1 := by decide +kernel
theorem tyJx3cf43_ok : ∀ k, k < 0 → parseFieldDescriptor (TJx3cf43 k).2.2.1 = some (tyJx3cf43 k) := by decide +kernel
def RJxa1e45 : String := "java/util/AbstractCollection"
def TJxa1e45 : u_T := fun k => match k with
  | _ => ("", "", "", false)
def tyJxa1e45 : Nat → FieldType := fun k => match k with
  | _ => .int
abbrev wsJxa1e450 : List Cond := u_ws RJxa1e45 TJxa1e45 0
theorem nmJxa1e45 : ∀ a, a < 0 → ∀ b, b < 0 → a ≠ b → (TJxa1e45 a).2.1 ≠ (TJxa1e45 b).2.1 := by decide +kernel
theorem tyJxa1e45_ok : ∀ k, k < 0 → parseFieldDescriptor (TJxa1e45 k).2.2.1 = some (tyJxa1e45 k) := by decide +kernel
abbrev cJxa1e45_init_da8c8 : ByteArray := prog_33_method_1_code
def yJxa1e45_init_da8c8 : MethodName := ⟨RJxa1e45, "<init>", "()V"⟩
def RJxc12de : String := "java/util/AbstractList"
def TJxc12de : u_T := fun k => match k with
  | _ => ("", "", "", false)
def tyJxc12de : Nat → FieldType := fun k => match k with
  | _ => .int
abbrev wsJxc12de0 : List Cond := u_ws RJxc12de TJxc12de 0
theorem nmJxc12de : ∀ a, a < 0 → ∀ b, b < 0 → a ≠ b → (TJxc12de a).2.1 ≠ (TJxc12de b).2.1 := by decide +kernel
theorem tyJxc12de_ok : ∀ k, k < 0 → parseFieldDescriptor (TJxc12de k).2.2.1 = some (tyJxc12de k) := by decide +kernel
abbrev cJxc12de_init_da8c8 : ByteArray := prog_34_method_1_code
def yJxc12de_init_da8c8 : MethodName := ⟨RJxc12de, "<init>", "()V"⟩
def RJx4a65c : String := "java/util/ArrayList"
def TJx4a65c : u_T := fun k => match k with
  | 0 => ("java/util/AbstractList", "modCount", "I", false)
  | 1 => ("java/util/ArrayList", "elementData", "[Ljava/lang/Object;", false)
  | _ => ("java/util/ArrayList", "size", "I", false)
def tyJx4a65c : Nat → FieldType := fun k => match k with
  | 0 => .int
  | 1 => .array (.object "java/lang/Object")
  | _ => .int
abbrev wsJx4a65c0 : List Cond := u_ws RJx4a65c TJx4a65c 3
theorem nmJx4a65c : ∀ a, a < 3 → ∀ b, b < 3 → a ≠ b → (TJx4a65c a).2.1 ≠ (TJx4a65c b).2.1 := by decide +kernel
theorem tyJx4a65c_ok : ∀ k, k < 3 → parseFieldDescriptor (TJx4a65c k).2.2.1 = some (tyJx4a65c k) := by decide +kernel
abbrev cJx4a65c_init_da8c8 : ByteArray := prog_35_method_2_code
def yJx4a65c_init_da8c8 : MethodName := ⟨RJx4a65c, "<init>", "()V"⟩
abbrev cJx4a65c_grow_92f84 : ByteArray := prog_35_method_6_code
def yJx4a65c_grow_92f84 : MethodName := ⟨RJx4a65c, "grow", "(I)[Ljava/lang/Object;"⟩
abbrev cJx4a65c_grow_d5877 : ByteArray := prog_35_method_7_code
def yJx4a65c_grow_d5877 : MethodName := ⟨RJx4a65c, "grow", "()[Ljava/lang/Object;"⟩
abbrev cJx4a65c_size_8abf5 : ByteArray := prog_35_method_8_code
def yJx4a65c_size_8abf5 : MethodName := ⟨RJx4a65c, "size", "()I"⟩
abbrev cJx4a65c_elementData_915e3 : ByteArray := prog_35_method_18_code
def yJx4a65c_elementData_915e3 : MethodName := ⟨RJx4a65c, "elementData", "(I)Ljava/lang/Object;"⟩
abbrev cJx4a65c_get_915e3 : ByteArray := prog_35_method_20_code
def yJx4a65c_get_915e3 : MethodName := ⟨RJx4a65c, "get", "(I)Ljava/lang/Object;"⟩
abbrev cJx4a65c_add_72be8 : ByteArray := prog_35_method_24_code
def yJx4a65c_add_72be8 : MethodName := ⟨RJx4a65c, "add", "(Ljava/lang/Object;[Ljava/lang/Object;I)V"⟩
abbrev cJx4a65c_add_9ea2d : ByteArray := prog_35_method_25_code
def yJx4a65c_add_9ea2d : MethodName := ⟨RJx4a65c, "add", "(Ljava/lang/Object;)Z"⟩
abbrev cJx4a65c_add_7a177 : ByteArray := prog_35_method_26_code
def yJx4a65c_add_7a177 : MethodName := ⟨RJx4a65c, "add", "(ILjava/lang/Object;)V"⟩
abbrev cJx4a65c_remove_915e3 : ByteArray := prog_35_method_29_code
def yJx4a65c_remove_915e3 : MethodName := ⟨RJx4a65c, "remove", "(I)Ljava/lang/Object;"⟩
abbrev cJx4a65c_fastRemove_b59b0 : ByteArray := prog_35_method_39_code
def yJx4a65c_fastRemove_b59b0 : MethodName := ⟨RJx4a65c, "fastRemove", "([Ljava/lang/Object;I)V"⟩
abbrev cJx4a65c_rangeCheckForAdd_d00df : ByteArray := prog_35_method_45_code
def yJx4a65c_rangeCheckForAdd_d00df : MethodName := ⟨RJx4a65c, "rangeCheckForAdd", "(I)V"⟩
abbrev cJx4a65c_outOfBoundsMsg_b52d3 : ByteArray := prog_35_method_46_code
def yJx4a65c_outOfBoundsMsg_b52d3 : MethodName := ⟨RJx4a65c, "outOfBoundsMsg", "(I)Ljava/lang/String;"⟩
def RJ7 : String := "java/util/Arrays"
def TJ7 : u_T := fun k => match k with
  | _ => ("", "", "", false)
def tyJ7 : Nat → FieldType := fun k => match k with
  | _ => .int
abbrev wsJ70 : List Cond := u_ws RJ7 TJ7 0
theorem nmJ7 : ∀ a, a < 0 → ∀ b, b < 0 → a ≠ b → (TJ7 a).2.1 ≠ (TJ7 b).2.1 := by decide +kernel
theorem tyJ7_ok : ∀ k, k < 0 → parseFieldDescriptor (TJ7 k).2.2.1 = some (tyJ7 k) := by decide +kernel
abbrev cJ7_copyOf_1904c : ByteArray := prog_36_method_119_code
def yJ7_copyOf_1904c : MethodName := ⟨RJ7, "copyOf", "([Ljava/lang/Object;I)[Ljava/lang/Object;"⟩
abbrev cJ7_copyOf_6403c : ByteArray := prog_36_method_120_code
def yJ7_copyOf_6403c : MethodName := ⟨RJ7, "copyOf", "([Ljava/lang/Object;ILjava/lang/Class;)[Ljava/lang/Object;"⟩
abbrev cJ7_copyOf_9075b : ByteArray := prog_36_method_121_code
def yJ7_copyOf_9075b : MethodName := ⟨RJ7, "copyOf", "([BI)[B"⟩
abbrev cJ7_checkLength_df160 : ByteArray := prog_36_method_131_code
def yJ7_checkLength_df160 : MethodName := ⟨RJ7, "checkLength", "(II)V"⟩
abbrev cJ7_copyOfRange_39247 : ByteArray := prog_36_method_132_code
def yJ7_copyOfRange_39247 : MethodName := ⟨RJ7, "copyOfRange", "([BII)[B"⟩
abbrev cJ7_copyOfRangeByte_39247 : ByteArray := prog_36_method_133_code
def yJ7_copyOfRangeByte_39247 : MethodName := ⟨RJ7, "copyOfRangeByte", "([BII)[B"⟩
def RJx5ef63 : String := "java/util/Collection"
def TJx5ef63 : u_T := fun k => match k with
  | _ => ("", "", "", false)
def tyJx5ef63 : Nat → FieldType := fun k => match k with
  | _ => .int
abbrev wsJx5ef630 : List Cond := u_ws RJx5ef63 TJx5ef63 0
theorem nmJx5ef63 : ∀ a, a < 0 → ∀ b, b < 0 → a ≠ b → (TJx5ef63 a).2.1 ≠ (TJx5ef63 b).2.1 := by decide +kernel
theorem tyJx5ef63_ok : ∀ k, k < 0 → parseFieldDescriptor (TJx5ef63 k).2.2.1 = some (tyJx5ef63 k) := by decide +kernel
def RJxbd725 : String := "java/util/List"
def TJxbd725 : u_T := fun k => match k with
  | _ => ("", "", "", false)
def tyJxbd725 : Nat → FieldType := fun k => match k with
  | _ => .int
abbrev wsJxbd7250 : List Cond := u_ws RJxbd725 TJxbd725 0
theorem nmJxbd725 : ∀ a, a < 0 → ∀ b, b < 0 → a ≠ b → (TJxbd725 a).2.1 ≠ (TJxbd725 b).2.1 := by decide +kernel
theorem tyJxbd725_ok : ∀ k, k < 0 → parseFieldDescriptor (TJxbd725 k).2.2.1 = some (tyJxbd725 k) := by decide +kernel
def RJ15 : String := "java/util/Objects"
def TJ15 : u_T := fun k => match k with
  | _ => ("", "", "", false)
def tyJ15 : Nat → FieldType := fun k => match k with
  | _ => .int
abbrev wsJ150 : List Cond := u_ws RJ15 TJ15 0
theorem nmJ15 : ∀ a, a < 0 → ∀ b, b < 0 → a ≠ b → (TJ15 a).2.1 ≠ (TJ15 b).2.1 := by decide +kernel
theorem tyJ15_ok : ∀ k, k < 0 → parseFieldDescriptor (TJ15 k).2.2.1 = some (tyJ15 k) := by decide +kernel
abbrev cJ15_checkIndex_7cf53 : ByteArray := prog_40_method_17_code
def yJ15_checkIndex_7cf53 : MethodName := ⟨RJ15, "checkIndex", "(II)I"⟩
def RJxf0a74 : String := "java/util/RandomAccess"
def TJxf0a74 : u_T := fun k => match k with
  | _ => ("", "", "", false)
def tyJxf0a74 : Nat → FieldType := fun k => match k with
  | _ => .int
abbrev wsJxf0a740 : List Cond := u_ws RJxf0a74 TJxf0a74 0
theorem nmJxf0a74 : ∀ a, a < 0 → ∀ b, b < 0 → a ≠ b → (TJxf0a74 a).2.1 ≠ (TJxf0a74 b).2.1 := by decide +kernel
theorem tyJxf0a74_ok : ∀ k, k < 0 → parseFieldDescriptor (TJxf0a74 k).2.2.1 = some (tyJxf0a74 k) := by decide +kernel
def RJxa66e6 : String := "java/util/SequencedCollection"
def TJxa66e6 : u_T := fun k => match k with
  | _ => ("", "", "", false)
def tyJxa66e6 : Nat → FieldType := fun k => match k with
  | _ => .int
abbrev wsJxa66e60 : List Cond := u_ws RJxa66e6 TJxa66e6 0
theorem nmJxa66e6 : ∀ a, a < 0 → ∀ b, b < 0 → a ≠ b → (TJxa66e6 a).2.1 ≠ (TJxa66e6 b).2.1 := by decide +kernel
theorem tyJxa66e6_ok : ∀ k, k < 0 → parseFieldDescriptor (TJxa66e6 k).2.2.1 = some (tyJxa66e6 k) := by decide +kernel
def RJ8 : String := "jdk/internal/util/ArraysSupport"
def TJ8 : u_T := fun k => match k with
  | _ => ("", "", "", false)
def tyJ8 : Nat → FieldType := fun k => match k with
  | _ => .int
abbrev wsJ80 : List Cond := u_ws RJ8 TJ8 0
theorem nmJ8 : ∀ a, a < 0 → ∀ b, b < 0 → a ≠ b → (TJ8 a).2.1 ≠ (TJ8 b).2.1 := by decide +kernel
theorem tyJ8_ok : ∀ k, k < 0 → parseFieldDescriptor (TJ8 k).2.2.1 = some (tyJ8 k) := by decide +kernel
abbrev cJ8_newLength_cabcc : ByteArray := prog_43_method_27_code
def yJ8_newLength_cabcc : MethodName := ⟨RJ8, "newLength", "(III)I"⟩
abbrev cJ8_hugeLength_7cf53 : ByteArray := prog_43_method_28_code
def yJ8_hugeLength_7cf53 : MethodName := ⟨RJ8, "hugeLength", "(II)I"⟩
def RJ3 : String := "jdk/internal/util/Preconditions"
def TJ3 : u_T := fun k => match k with
  | _ => ("", "", "", false)
def tyJ3 : Nat → FieldType := fun k => match k with
  | _ => .int
abbrev wsJ30 : List Cond := u_ws RJ3 TJ3 0
theorem nmJ3 : ∀ a, a < 0 → ∀ b, b < 0 → a ≠ b → (TJ3 a).2.1 ≠ (TJ3 b).2.1 := by decide +kernel
theorem tyJ3_ok : ∀ k, k < 0 → parseFieldDescriptor (TJ3 k).2.2.1 = some (tyJ3 k) := by decide +kernel
abbrev cJ3_checkIndex_8e157 : ByteArray := prog_44_method_11_code
def yJ3_checkIndex_8e157 : MethodName := ⟨RJ3, "checkIndex", "(IILjava/util/function/BiFunction;)I"⟩
abbrev cJ3_checkFromToIndex_8c36e : ByteArray := prog_44_method_12_code
def yJ3_checkFromToIndex_8c36e : MethodName := ⟨RJ3, "checkFromToIndex", "(IIILjava/util/function/BiFunction;)I"⟩
abbrev cJ3_checkFromIndexSize_8c36e : ByteArray := prog_44_method_13_code
def yJ3_checkFromIndexSize_8c36e : MethodName := ⟨RJ3, "checkFromIndexSize", "(IIILjava/util/function/BiFunction;)I"⟩
def RL : String := "SalesDeskLaw"
abbrev cL_pass : ByteArray := method_3_code
def yL_pass : MethodName := ⟨RL, "pass", "(LSalesDesk;I[J)I"⟩
abbrev cL_addAccount : ByteArray := method_4_code
def yL_addAccount : MethodName := ⟨RL, "addAccount", "(LSalesDesk;III[J)I"⟩
abbrev cL_putRule : ByteArray := method_5_code
def yL_putRule : MethodName := ⟨RL, "putRule", "(LSalesDesk;IIIII[J)I"⟩
abbrev cL_removeRule : ByteArray := method_6_code
def yL_removeRule : MethodName := ⟨RL, "removeRule", "(LSalesDesk;I[J)I"⟩
abbrev cL_except : ByteArray := method_7_code
def yL_except : MethodName := ⟨RL, "except", "(LSalesDesk;II[J)I"⟩
abbrev cL_regionOf : ByteArray := method_8_code
def yL_regionOf : MethodName := ⟨RL, "regionOf", "(LSalesDesk;I[J)I"⟩
abbrev cL_addSeller : ByteArray := method_9_code
def yL_addSeller : MethodName := ⟨RL, "addSeller", "(LSalesDesk;II[J)I"⟩
abbrev cL_adjust : ByteArray := method_10_code
def yL_adjust : MethodName := ⟨RL, "adjust", "(LSalesDesk;II[J)I"⟩
abbrev cL_addChance : ByteArray := method_11_code
def yL_addChance : MethodName := ⟨RL, "addChance", "(LSalesDesk;III[J)I"⟩
abbrev cL_giveShare : ByteArray := method_12_code
def yL_giveShare : MethodName := ⟨RL, "giveShare", "(LSalesDesk;IIII[J)I"⟩
abbrev cL_move : ByteArray := method_13_code
def yL_move : MethodName := ⟨RL, "move", "(LSalesDesk;II[J)I"⟩
abbrev cL_stage : ByteArray := method_14_code
def yL_stage : MethodName := ⟨RL, "stage", "(LSalesDesk;I[J)I"⟩
abbrev cL_daysIn : ByteArray := method_15_code
def yL_daysIn : MethodName := ⟨RL, "daysIn", "(LSalesDesk;II[J)I"⟩
abbrev cL_stalled : ByteArray := method_16_code
def yL_stalled : MethodName := ⟨RL, "stalled", "(LSalesDesk;I[J)I"⟩
abbrev cL_worth : ByteArray := method_17_code
def yL_worth : MethodName := ⟨RL, "worth", "(LSalesDesk;I[J)I"⟩
abbrev cL_inRegion : ByteArray := method_18_code
def yL_inRegion : MethodName := ⟨RL, "inRegion", "(LSalesDesk;II[J)I"⟩
abbrev cL_won : ByteArray := method_19_code
def yL_won : MethodName := ⟨RL, "won", "(LSalesDesk;I[J)I"⟩
abbrev cL_quote : ByteArray := method_20_code
def yL_quote : MethodName := ⟨RL, "quote", "(LSalesDesk;III[J)I"⟩
abbrev cL_approve : ByteArray := method_21_code
def yL_approve : MethodName := ⟨RL, "approve", "(LSalesDesk;II)I"⟩
abbrev cL_counting : ByteArray := method_22_code
def yL_counting : MethodName := ⟨RL, "counting", "(LSalesDesk;I[J)I"⟩
abbrev cL_forecast : ByteArray := method_23_code
def yL_forecast : MethodName := ⟨RL, "forecast", "(LSalesDesk;I[J)I"⟩
abbrev cL_own : ByteArray := method_24_code
def yL_own : MethodName := ⟨RL, "own", "(LSalesDesk;I[J)I"⟩
abbrev cL_freeze : ByteArray := method_25_code
def yL_freeze : MethodName := ⟨RL, "freeze", "(LSalesDesk;[J)I"⟩
abbrev cL_since : ByteArray := method_26_code
def yL_since : MethodName := ⟨RL, "since", "(LSalesDesk;II[J)I"⟩
abbrev cL_law : ByteArray := code
def yL_law : MethodName := ⟨RL, "law", "([I)Z"⟩
abbrev vwCl : List vw_C := [(RJ0, TJ0, 4), (RJ4, TJ4, 4), (RJx4a65c, TJx4a65c, 3), (RX0, TX0, 4), (RX1, TX1, 8), (RX2, TX2, 1), (RX3, TX3, 5), (RX4, TX4, 4), (RX5, TX5, 4), (RX6, TX6, 7), (RX7, TX7, 32)]
end
section
/-! the tables' words, each by its place -/
def zT : List Cond := lw_tbl.filter goodWord
theorem zt_p {w : Cond} (i : Nat) (h : (k2_sels lw_privs)[i]? = some w) (g : goodWord w = true) : w ∈ zT := List.mem_filter.mpr ⟨List.mem_append_left _ (List.mem_of_getElem? h), g⟩
theorem zt_t {w : Cond} (h : w ∈ tables_1) (g : goodWord w = true) : w ∈ zT := List.mem_filter.mpr ⟨List.mem_append_right _ h, g⟩
theorem zt_1 {w : Cond} (i : Nat) (h : tables_1_1[i]? = some w) (g : goodWord w = true) : w ∈ zT := zt_t (List.mem_append_left _ (List.mem_of_getElem? h)) g
theorem zt_2 {w : Cond} (i : Nat) (h : tables_1_2[i]? = some w) (g : goodWord w = true) : w ∈ zT := zt_t (List.mem_append_right _ (List.mem_append_left _ (List.mem_of_getElem? h))) g
theorem zt_3 {w : Cond} (i : Nat) (h : tables_1_3[i]? = some w) (g : goodWord w = true) : w ∈ zT := zt_t (List.mem_append_right _ (List.mem_append_right _ (List.mem_append_left _ (List.mem_of_getElem? h)))) g
theorem zt_4 {w : Cond} (i : Nat) (h : tables_1_4[i]? = some w) (g : goodWord w = true) : w ∈ zT := zt_t (List.mem_append_right _ (List.mem_append_right _ (List.mem_append_right _ (List.mem_append_left _ (List.mem_of_getElem? h))))) g
theorem zt_5 {w : Cond} (i : Nat) (h : tables_1_5[i]? = some w) (g : goodWord w = true) : w ∈ zT := zt_t (List.mem_append_right _ (List.mem_append_right _ (List.mem_append_right _ (List.mem_append_right _ (List.mem_append_left _ (List.mem_of_getElem? h)))))) g
theorem zt_6 {w : Cond} (i : Nat) (h : tables_1_6[i]? = some w) (g : goodWord w = true) : w ∈ zT := zt_t (List.mem_append_right _ (List.mem_append_right _ (List.mem_append_right _ (List.mem_append_right _ (List.mem_append_right _ (List.mem_of_getElem? h)))))) g
theorem kl_RL_8 : Cond.classLink RL 8 RX6 ∈ zT := zt_1 32 (by decide +kernel) rfl
theorem ist_RX6 : Cond.instantiable RX6 7 ∈ zT := zt_1 33 (by decide +kernel) rfl
theorem ini_RX6 : Cond.initialized RX6 ∈ zT := zt_1 1 (by decide +kernel) rfl
theorem kl_RL_97 : Cond.classLink RL 97 RX7 ∈ zT := zt_4 237 (by decide +kernel) rfl
theorem ist_RX7 : Cond.instantiable RX7 32 ∈ zT := zt_4 238 (by decide +kernel) rfl
theorem ini_RX7 : Cond.initialized RX7 ∈ zT := zt_1 5 (by decide +kernel) rfl
theorem ac__long : Cond.arrayClass .long ∈ zT := zt_6 33 (by decide +kernel) rfl
theorem ml_RL_96 : Cond.methodLink RL 96 yX6_init ∈ zT := zt_1 34 (by decide +kernel) rfl
theorem im_yX6_init : Cond.instanceMethod yX6_init ∈ zT := zt_1 35 (by decide +kernel) rfl
theorem co_yX6_init : Cond.code yX6_init cX6_init 1 none ∈ zT := zt_1 36 (by decide +kernel) rfl
theorem ml_RX6_1 : Cond.methodLink RX6 1 objectInit ∈ zT := zt_1 37 (by decide +kernel) rfl
theorem im_objectInit : Cond.instanceMethod objectInit ∈ zT := zt_1 38 (by decide +kernel) rfl
theorem co_objectInit : Cond.code objectInit ⟨#[0xb1]⟩ 1 none ∈ zT := zt_1 39 (by decide +kernel) rfl
theorem kl_RX6_7 : Cond.classLink RX6 7 RJx4a65c ∈ zT := zt_1 40 (by decide +kernel) rfl
theorem ist_RJx4a65c : Cond.instantiable RJx4a65c 3 ∈ zT := zt_1 41 (by decide +kernel) rfl
theorem ini_RJx4a65c : Cond.initialized RJx4a65c ∈ zT := zt_1 4 (by decide +kernel) rfl
theorem fl_RX6_10 : Cond.fieldLink RX6 10 "SalesDesk" "accounts" "Ljava/util/ArrayList;" ∈ zT := zt_1 66 (by decide +kernel) rfl
theorem fl_RX6_16 : Cond.fieldLink RX6 16 "SalesDesk" "rules" "Ljava/util/ArrayList;" ∈ zT := zt_1 67 (by decide +kernel) rfl
theorem fl_RX6_19 : Cond.fieldLink RX6 19 "SalesDesk" "sellers" "Ljava/util/ArrayList;" ∈ zT := zt_1 68 (by decide +kernel) rfl
theorem fl_RX6_22 : Cond.fieldLink RX6 22 "SalesDesk" "chances" "Ljava/util/ArrayList;" ∈ zT := zt_1 69 (by decide +kernel) rfl
theorem fl_RX6_25 : Cond.fieldLink RX6 25 "SalesDesk" "quotes" "Ljava/util/ArrayList;" ∈ zT := zt_1 70 (by decide +kernel) rfl
theorem fl_RX6_28 : Cond.fieldLink RX6 28 "SalesDesk" "freezes" "Ljava/util/ArrayList;" ∈ zT := zt_1 71 (by decide +kernel) rfl
theorem fl_RX6_31 : Cond.fieldLink RX6 31 "SalesDesk" "today" "I" ∈ zT := zt_1 72 (by decide +kernel) rfl
theorem ml_RX6_9 : Cond.methodLink RX6 9 yJx4a65c_init_da8c8 ∈ zT := zt_1 42 (by decide +kernel) rfl
theorem im_yJx4a65c_init_da8c8 : Cond.instanceMethod yJx4a65c_init_da8c8 ∈ zT := zt_1 43 (by decide +kernel) rfl
theorem co_yJx4a65c_init_da8c8 : Cond.code yJx4a65c_init_da8c8 cJx4a65c_init_da8c8 1 none ∈ zT := zt_1 44 (by decide +kernel) rfl
theorem fl_RJx4a65c_39 : Cond.fieldLink RJx4a65c 39 "java/util/ArrayList" "DEFAULTCAPACITY_EMPTY_ELEMENTDATA" "[Ljava/lang/Object;" ∈ zT := zt_1 52 (by decide +kernel) rfl
theorem fl_RJx4a65c_9 : Cond.fieldLink RJx4a65c 9 "java/util/ArrayList" "elementData" "[Ljava/lang/Object;" ∈ zT := zt_1 54 (by decide +kernel) rfl
theorem ml_RJx4a65c_1 : Cond.methodLink RJx4a65c 1 yJxc12de_init_da8c8 ∈ zT := zt_1 45 (by decide +kernel) rfl
theorem im_yJxc12de_init_da8c8 : Cond.instanceMethod yJxc12de_init_da8c8 ∈ zT := zt_1 46 (by decide +kernel) rfl
theorem ini_RJxc12de : Cond.initialized RJxc12de ∈ zT := zt_1 3 (by decide +kernel) rfl
theorem co_yJxc12de_init_da8c8 : Cond.code yJxc12de_init_da8c8 cJxc12de_init_da8c8 1 none ∈ zT := zt_1 47 (by decide +kernel) rfl
theorem fl_RJxc12de_7 : Cond.fieldLink RJxc12de 7 "java/util/AbstractList" "modCount" "I" ∈ zT := zt_1 56 (by decide +kernel) rfl
theorem ml_RJxc12de_1 : Cond.methodLink RJxc12de 1 yJxa1e45_init_da8c8 ∈ zT := zt_1 48 (by decide +kernel) rfl
theorem im_yJxa1e45_init_da8c8 : Cond.instanceMethod yJxa1e45_init_da8c8 ∈ zT := zt_1 49 (by decide +kernel) rfl
theorem ini_RJxa1e45 : Cond.initialized RJxa1e45 ∈ zT := zt_1 2 (by decide +kernel) rfl
theorem co_yJxa1e45_init_da8c8 : Cond.code yJxa1e45_init_da8c8 cJxa1e45_init_da8c8 1 none ∈ zT := zt_1 50 (by decide +kernel) rfl
theorem ml_RJxa1e45_1 : Cond.methodLink RJxa1e45 1 objectInit ∈ zT := zt_1 51 (by decide +kernel) rfl
theorem ml_RL_99 : Cond.methodLink RL 99 yX7_init ∈ zT := zt_4 239 (by decide +kernel) rfl
theorem im_yX7_init : Cond.instanceMethod yX7_init ∈ zT := zt_5 0 (by decide +kernel) rfl
theorem co_yX7_init : Cond.code yX7_init cX7_init 1 none ∈ zT := zt_5 1 (by decide +kernel) rfl
theorem ml_RX7_1 : Cond.methodLink RX7 1 objectInit ∈ zT := zt_5 2 (by decide +kernel) rfl
theorem ac__int : Cond.arrayClass .int ∈ zT := zt_4 14 (by decide +kernel) rfl
theorem fl_RX7_7 : Cond.fieldLink RX7 7 "SalesDeskModel" "aboveAccount" "[I" ∈ zT := zt_5 5 (by decide +kernel) rfl
theorem fl_RX7_13 : Cond.fieldLink RX7 13 "SalesDeskModel" "area" "[I" ∈ zT := zt_5 6 (by decide +kernel) rfl
theorem fl_RX7_16 : Cond.fieldLink RX7 16 "SalesDeskModel" "size" "[I" ∈ zT := zt_5 7 (by decide +kernel) rfl
theorem fl_RX7_19 : Cond.fieldLink RX7 19 "SalesDeskModel" "exception" "[I" ∈ zT := zt_5 8 (by decide +kernel) rfl
theorem fl_RX7_22 : Cond.fieldLink RX7 22 "SalesDeskModel" "first" "[I" ∈ zT := zt_5 10 (by decide +kernel) rfl
theorem fl_RX7_25 : Cond.fieldLink RX7 25 "SalesDeskModel" "last" "[I" ∈ zT := zt_5 11 (by decide +kernel) rfl
theorem fl_RX7_28 : Cond.fieldLink RX7 28 "SalesDeskModel" "least" "[I" ∈ zT := zt_5 12 (by decide +kernel) rfl
theorem fl_RX7_31 : Cond.fieldLink RX7 31 "SalesDeskModel" "to" "[I" ∈ zT := zt_5 13 (by decide +kernel) rfl
theorem fl_RX7_34 : Cond.fieldLink RX7 34 "SalesDeskModel" "above" "[I" ∈ zT := zt_5 15 (by decide +kernel) rfl
theorem fl_RX7_37 : Cond.fieldLink RX7 37 "SalesDeskModel" "limit" "[I" ∈ zT := zt_5 16 (by decide +kernel) rfl
theorem fl_RX7_40 : Cond.fieldLink RX7 40 "SalesDeskModel" "adjustment" "[I" ∈ zT := zt_5 17 (by decide +kernel) rfl
theorem fl_RX7_43 : Cond.fieldLink RX7 43 "SalesDeskModel" "account" "[I" ∈ zT := zt_5 19 (by decide +kernel) rfl
theorem fl_RX7_46 : Cond.fieldLink RX7 46 "SalesDeskModel" "amount" "[I" ∈ zT := zt_5 20 (by decide +kernel) rfl
theorem fl_RX7_49 : Cond.fieldLink RX7 49 "SalesDeskModel" "stage" "[I" ∈ zT := zt_5 21 (by decide +kernel) rfl
theorem fl_RX7_52 : Cond.fieldLink RX7 52 "SalesDeskModel" "came" "[I" ∈ zT := zt_5 22 (by decide +kernel) rfl
theorem fl_RX7_55 : Cond.fieldLink RX7 55 "SalesDeskModel" "keptRegion" "[I" ∈ zT := zt_5 23 (by decide +kernel) rfl
theorem fl_RX7_58 : Cond.fieldLink RX7 58 "SalesDeskModel" "share" "[I" ∈ zT := zt_5 24 (by decide +kernel) rfl
theorem fl_RX7_61 : Cond.fieldLink RX7 61 "SalesDeskModel" "spent" "[I" ∈ zT := zt_5 25 (by decide +kernel) rfl
theorem fl_RX7_64 : Cond.fieldLink RX7 64 "SalesDeskModel" "chance" "[I" ∈ zT := zt_5 28 (by decide +kernel) rfl
theorem fl_RX7_67 : Cond.fieldLink RX7 67 "SalesDeskModel" "maker" "[I" ∈ zT := zt_5 29 (by decide +kernel) rfl
theorem fl_RX7_70 : Cond.fieldLink RX7 70 "SalesDeskModel" "discount" "[I" ∈ zT := zt_5 30 (by decide +kernel) rfl
theorem fl_RX7_73 : Cond.fieldLink RX7 73 "SalesDeskModel" "approved" "[I" ∈ zT := zt_5 31 (by decide +kernel) rfl
theorem fl_RX7_76 : Cond.fieldLink RX7 76 "SalesDeskModel" "frozen" "[I" ∈ zT := zt_5 33 (by decide +kernel) rfl
theorem ml_RL_100 : Cond.methodLink RL 100 yL_pass ∈ zT := zt_1 114 (by decide +kernel) rfl
theorem sm_yL_pass : Cond.static yL_pass ∈ zT := zt_1 115 (by decide +kernel) rfl
theorem ini_RL : Cond.initialized RL ∈ zT := zt_1 0 (by decide +kernel) rfl
theorem cw_yL_pass : Cond.codeWith yL_pass cL_pass 4 (some .int) [(0, 9, 12, 13), (0, 9, 15, 15)] ∈ zT := zt_1 116 (by decide +kernel) rfl
theorem kl_RL_13 : Cond.classLink RL 13 "java/lang/IllegalArgumentException" ∈ zT := zt_1 117 (by decide +kernel) rfl
theorem kl_RL_15 : Cond.classLink RL 15 "java/lang/IllegalStateException" ∈ zT := zt_1 118 (by decide +kernel) rfl
theorem ml_RL_7 : Cond.methodLink RL 7 yX6_pass ∈ zT := zt_1 119 (by decide +kernel) rfl
theorem im_yX6_pass : Cond.instanceMethod yX6_pass ∈ zT := zt_1 120 (by decide +kernel) rfl
theorem se_yX6_pass : Cond.selects RX6 yX6_pass yX6_pass ∈ zT := zt_1 121 (by decide +kernel) rfl
theorem co_yX6_pass : Cond.code yX6_pass cX6_pass 2 (some .int) ∈ zT := zt_1 122 (by decide +kernel) rfl
theorem kl_RX6_40 : Cond.classLink RX6 40 "java/lang/IllegalStateException" ∈ zT := zt_1 196 (by decide +kernel) rfl
theorem ini_IllegalStateException : Cond.initialized "java/lang/IllegalStateException" ∈ zT := zt_1 10 (by decide +kernel) rfl
theorem kc_RX6_39 : Cond.constant RX6 39 (100000) ∈ zT := zt_1 195 (by decide +kernel) rfl
theorem ml_RX6_35 : Cond.methodLink RX6 35 yX6_requireRange ∈ zT := zt_1 123 (by decide +kernel) rfl
theorem sm_yX6_requireRange : Cond.static yX6_requireRange ∈ zT := zt_1 124 (by decide +kernel) rfl
theorem co_yX6_requireRange : Cond.code yX6_requireRange cX6_requireRange 3 none ∈ zT := zt_1 125 (by decide +kernel) rfl
theorem kl_RX6_126 : Cond.classLink RX6 126 "java/lang/IllegalArgumentException" ∈ zT := zt_1 126 (by decide +kernel) rfl
theorem ini_IllegalArgumentException : Cond.initialized "java/lang/IllegalArgumentException" ∈ zT := zt_1 9 (by decide +kernel) rfl
theorem ml_RL_105 : Cond.methodLink RL 105 yX7_pass ∈ zT := zt_5 104 (by decide +kernel) rfl
theorem im_yX7_pass : Cond.instanceMethod yX7_pass ∈ zT := zt_5 105 (by decide +kernel) rfl
theorem se_yX7_pass : Cond.selects RX7 yX7_pass yX7_pass ∈ zT := zt_5 106 (by decide +kernel) rfl
theorem co_yX7_pass : Cond.code yX7_pass cX7_pass 3 (some .int) ∈ zT := zt_5 107 (by decide +kernel) rfl
theorem fl_RX7_96 : Cond.fieldLink RX7 96 "SalesDeskModel" "day" "I" ∈ zT := zt_5 3 (by decide +kernel) rfl
theorem kc_RX7_99 : Cond.constant RX7 99 (100000) ∈ zT := zt_5 111 (by decide +kernel) rfl
theorem ml_RX7_86 : Cond.methodLink RX7 86 yX7_in ∈ zT := zt_5 108 (by decide +kernel) rfl
theorem sm_yX7_in : Cond.static yX7_in ∈ zT := zt_5 109 (by decide +kernel) rfl
theorem co_yX7_in : Cond.code yX7_in cX7_in 3 (some .boolean) ∈ zT := zt_5 110 (by decide +kernel) rfl
theorem ml_RX7_100 : Cond.methodLink RX7 100 yX7_goes ∈ zT := zt_5 112 (by decide +kernel) rfl
theorem im_yX7_goes : Cond.instanceMethod yX7_goes ∈ zT := zt_5 114 (by decide +kernel) rfl
theorem se_yX7_goes : Cond.selects RX7 yX7_goes yX7_goes ∈ zT := zt_p 16 (by decide +kernel) rfl
theorem co_yX7_goes : Cond.code yX7_goes cX7_goes 4 (some .boolean) ∈ zT := zt_5 115 (by decide +kernel) rfl
theorem fl_RX7_79 : Cond.fieldLink RX7 79 "SalesDeskModel" "thrown" "I" ∈ zT := zt_5 34 (by decide +kernel) rfl
theorem ml_RL_106 : Cond.methodLink RL 106 yX7_thrown ∈ zT := zt_5 100 (by decide +kernel) rfl
theorem im_yX7_thrown : Cond.instanceMethod yX7_thrown ∈ zT := zt_5 101 (by decide +kernel) rfl
theorem se_yX7_thrown : Cond.selects RX7 yX7_thrown yX7_thrown ∈ zT := zt_5 102 (by decide +kernel) rfl
theorem co_yX7_thrown : Cond.code yX7_thrown cX7_thrown 1 (some .int) ∈ zT := zt_5 103 (by decide +kernel) rfl
theorem ml_RL_109 : Cond.methodLink RL 109 yL_addAccount ∈ zT := zt_1 212 (by decide +kernel) rfl
theorem sm_yL_addAccount : Cond.static yL_addAccount ∈ zT := zt_1 213 (by decide +kernel) rfl
theorem cw_yL_addAccount : Cond.codeWith yL_addAccount cL_addAccount 6 (some .int) [(0, 12, 15, 21), (0, 12, 19, 13), (0, 12, 23, 15)] ∈ zT := zt_1 214 (by decide +kernel) rfl
theorem kl_RL_21 : Cond.classLink RL 21 "java/lang/IndexOutOfBoundsException" ∈ zT := zt_1 215 (by decide +kernel) rfl
theorem ml_RL_17 : Cond.methodLink RL 17 yX6_addAccount ∈ zT := zt_1 216 (by decide +kernel) rfl
theorem im_yX6_addAccount : Cond.instanceMethod yX6_addAccount ∈ zT := zt_1 217 (by decide +kernel) rfl
theorem se_yX6_addAccount : Cond.selects RX6 yX6_addAccount yX6_addAccount ∈ zT := zt_1 218 (by decide +kernel) rfl
theorem co_yX6_addAccount : Cond.code yX6_addAccount cX6_addAccount 5 (some .int) ∈ zT := zt_1 219 (by decide +kernel) rfl
theorem kl_RX6_59 : Cond.classLink RX6 59 RX0 ∈ zT := zt_2 0 (by decide +kernel) rfl
theorem ist_RX0 : Cond.instantiable RX0 4 ∈ zT := zt_2 5 (by decide +kernel) rfl
theorem ini_RX0 : Cond.initialized RX0 ∈ zT := zt_1 14 (by decide +kernel) rfl
theorem ml_RX6_47 : Cond.methodLink RX6 47 yX6_accountAt ∈ zT := zt_1 220 (by decide +kernel) rfl
theorem im_yX6_accountAt : Cond.instanceMethod yX6_accountAt ∈ zT := zt_1 222 (by decide +kernel) rfl
theorem se_yX6_accountAt : Cond.selects RX6 yX6_accountAt yX6_accountAt ∈ zT := zt_p 1 (by decide +kernel) rfl
theorem co_yX6_accountAt : Cond.code yX6_accountAt cX6_accountAt 2 (some (.object "SalesDesk$Account")) ∈ zT := zt_1 223 (by decide +kernel) rfl
theorem kl_RX6_68 : Cond.classLink RX6 68 "java/lang/IndexOutOfBoundsException" ∈ zT := zt_1 224 (by decide +kernel) rfl
theorem ini_IndexOutOfBoundsException : Cond.initialized "java/lang/IndexOutOfBoundsException" ∈ zT := zt_1 11 (by decide +kernel) rfl
theorem ml_RX6_51 : Cond.methodLink RX6 51 yJx4a65c_size_8abf5 ∈ zT := zt_1 92 (by decide +kernel) rfl
theorem im_yJx4a65c_size_8abf5 : Cond.instanceMethod yJx4a65c_size_8abf5 ∈ zT := zt_1 93 (by decide +kernel) rfl
theorem se_yJx4a65c_size_8abf5 : Cond.selects RJx4a65c yJx4a65c_size_8abf5 yJx4a65c_size_8abf5 ∈ zT := zt_1 94 (by decide +kernel) rfl
theorem co_yJx4a65c_size_8abf5 : Cond.code yJx4a65c_size_8abf5 cJx4a65c_size_8abf5 1 (some .int) ∈ zT := zt_1 95 (by decide +kernel) rfl
theorem fl_RJx4a65c_48 : Cond.fieldLink RJx4a65c 48 "java/util/ArrayList" "size" "I" ∈ zT := zt_1 55 (by decide +kernel) rfl
theorem ml_RX6_171 : Cond.methodLink RX6 171 yJx4a65c_get_915e3 ∈ zT := zt_1 96 (by decide +kernel) rfl
theorem im_yJx4a65c_get_915e3 : Cond.instanceMethod yJx4a65c_get_915e3 ∈ zT := zt_1 97 (by decide +kernel) rfl
theorem se_yJx4a65c_get_915e3 : Cond.selects RJx4a65c yJx4a65c_get_915e3 yJx4a65c_get_915e3 ∈ zT := zt_1 98 (by decide +kernel) rfl
theorem co_yJx4a65c_get_915e3 : Cond.code yJx4a65c_get_915e3 cJx4a65c_get_915e3 2 (some (.object "java/lang/Object")) ∈ zT := zt_1 99 (by decide +kernel) rfl
theorem ml_RJx4a65c_118 : Cond.methodLink RJx4a65c 118 yJ15_checkIndex_7cf53 ∈ zT := zt_1 100 (by decide +kernel) rfl
theorem sm_yJ15_checkIndex_7cf53 : Cond.static yJ15_checkIndex_7cf53 ∈ zT := zt_1 101 (by decide +kernel) rfl
theorem ini_RJ15 : Cond.initialized RJ15 ∈ zT := zt_1 12 (by decide +kernel) rfl
theorem co_yJ15_checkIndex_7cf53 : Cond.code yJ15_checkIndex_7cf53 cJ15_checkIndex_7cf53 2 (some .int) ∈ zT := zt_1 102 (by decide +kernel) rfl
theorem ml_RJ15_105 : Cond.methodLink RJ15 105 yJ3_checkIndex_8e157 ∈ zT := zt_1 103 (by decide +kernel) rfl
theorem sm_yJ3_checkIndex_8e157 : Cond.static yJ3_checkIndex_8e157 ∈ zT := zt_1 104 (by decide +kernel) rfl
theorem ini_RJ3 : Cond.initialized RJ3 ∈ zT := zt_1 13 (by decide +kernel) rfl
theorem co_yJ3_checkIndex_8e157 : Cond.code yJ3_checkIndex_8e157 cJ3_checkIndex_8e157 3 (some .int) ∈ zT := zt_1 105 (by decide +kernel) rfl
theorem ml_RJx4a65c_123 : Cond.methodLink RJx4a65c 123 yJx4a65c_elementData_915e3 ∈ zT := zt_1 106 (by decide +kernel) rfl
theorem im_yJx4a65c_elementData_915e3 : Cond.instanceMethod yJx4a65c_elementData_915e3 ∈ zT := zt_1 107 (by decide +kernel) rfl
theorem se_yJx4a65c_elementData_915e3 : Cond.selects RJx4a65c yJx4a65c_elementData_915e3 yJx4a65c_elementData_915e3 ∈ zT := zt_1 108 (by decide +kernel) rfl
theorem co_yJx4a65c_elementData_915e3 : Cond.code yJx4a65c_elementData_915e3 cJx4a65c_elementData_915e3 2 (some (.object "java/lang/Object")) ∈ zT := zt_1 109 (by decide +kernel) rfl
theorem ml_RX6_55 : Cond.methodLink RX6 55 yX6_requireRoom ∈ zT := zt_2 1 (by decide +kernel) rfl
theorem sm_yX6_requireRoom : Cond.static yX6_requireRoom ∈ zT := zt_2 2 (by decide +kernel) rfl
theorem co_yX6_requireRoom : Cond.code yX6_requireRoom cX6_requireRoom 2 none ∈ zT := zt_2 3 (by decide +kernel) rfl
theorem ml_RX6_61 : Cond.methodLink RX6 61 yX0_init ∈ zT := zt_2 6 (by decide +kernel) rfl
theorem im_yX0_init : Cond.instanceMethod yX0_init ∈ zT := zt_2 7 (by decide +kernel) rfl
theorem co_yX0_init : Cond.code yX0_init cX0_init 4 none ∈ zT := zt_2 8 (by decide +kernel) rfl
theorem ml_RX0_3 : Cond.methodLink RX0 3 objectInit ∈ zT := zt_2 9 (by decide +kernel) rfl
theorem fl_RX0_9 : Cond.fieldLink RX0 9 "SalesDesk$Account" "exception" "I" ∈ zT := zt_2 16 (by decide +kernel) rfl
theorem fl_RX0_15 : Cond.fieldLink RX0 15 "SalesDesk$Account" "above" "LSalesDesk$Account;" ∈ zT := zt_2 10 (by decide +kernel) rfl
theorem fl_RX0_19 : Cond.fieldLink RX0 19 "SalesDesk$Account" "area" "I" ∈ zT := zt_2 12 (by decide +kernel) rfl
theorem fl_RX0_22 : Cond.fieldLink RX0 22 "SalesDesk$Account" "size" "I" ∈ zT := zt_2 14 (by decide +kernel) rfl
theorem ml_RX6_64 : Cond.methodLink RX6 64 yJx4a65c_add_9ea2d ∈ zT := zt_2 27 (by decide +kernel) rfl
theorem im_yJx4a65c_add_9ea2d : Cond.instanceMethod yJx4a65c_add_9ea2d ∈ zT := zt_2 28 (by decide +kernel) rfl
theorem se_yJx4a65c_add_9ea2d : Cond.selects RJx4a65c yJx4a65c_add_9ea2d yJx4a65c_add_9ea2d ∈ zT := zt_2 29 (by decide +kernel) rfl
theorem co_yJx4a65c_add_9ea2d : Cond.code yJx4a65c_add_9ea2d cJx4a65c_add_9ea2d 2 (some .boolean) ∈ zT := zt_2 30 (by decide +kernel) rfl
theorem fl_RJx4a65c_63 : Cond.fieldLink RJx4a65c 63 "java/util/ArrayList" "modCount" "I" ∈ zT := zt_1 57 (by decide +kernel) rfl
theorem sf_modCount : Cond.sameField "java/util/ArrayList" "java/util/AbstractList" "modCount" "I" ∈ zT := zt_1 58 (by decide +kernel) rfl
theorem ml_RJx4a65c_131 : Cond.methodLink RJx4a65c 131 yJx4a65c_add_72be8 ∈ zT := zt_2 31 (by decide +kernel) rfl
theorem im_yJx4a65c_add_72be8 : Cond.instanceMethod yJx4a65c_add_72be8 ∈ zT := zt_2 33 (by decide +kernel) rfl
theorem se_yJx4a65c_add_72be8 : Cond.selects RJx4a65c yJx4a65c_add_72be8 yJx4a65c_add_72be8 ∈ zT := zt_p 2 (by decide +kernel) rfl
theorem co_yJx4a65c_add_72be8 : Cond.code yJx4a65c_add_72be8 cJx4a65c_add_72be8 4 none ∈ zT := zt_2 34 (by decide +kernel) rfl
theorem ml_RJx4a65c_129 : Cond.methodLink RJx4a65c 129 yJx4a65c_grow_d5877 ∈ zT := zt_2 35 (by decide +kernel) rfl
theorem im_yJx4a65c_grow_d5877 : Cond.instanceMethod yJx4a65c_grow_d5877 ∈ zT := zt_2 37 (by decide +kernel) rfl
theorem se_yJx4a65c_grow_d5877 : Cond.selects RJx4a65c yJx4a65c_grow_d5877 yJx4a65c_grow_d5877 ∈ zT := zt_p 3 (by decide +kernel) rfl
theorem co_yJx4a65c_grow_d5877 : Cond.code yJx4a65c_grow_d5877 cJx4a65c_grow_d5877 1 (some (.array (.object "java/lang/Object"))) ∈ zT := zt_2 38 (by decide +kernel) rfl
theorem ml_RJx4a65c_69 : Cond.methodLink RJx4a65c 69 yJx4a65c_grow_92f84 ∈ zT := zt_2 39 (by decide +kernel) rfl
theorem im_yJx4a65c_grow_92f84 : Cond.instanceMethod yJx4a65c_grow_92f84 ∈ zT := zt_2 41 (by decide +kernel) rfl
theorem se_yJx4a65c_grow_92f84 : Cond.selects RJx4a65c yJx4a65c_grow_92f84 yJx4a65c_grow_92f84 ∈ zT := zt_p 4 (by decide +kernel) rfl
theorem co_yJx4a65c_grow_92f84 : Cond.code yJx4a65c_grow_92f84 cJx4a65c_grow_92f84 4 (some (.array (.object "java/lang/Object"))) ∈ zT := zt_2 42 (by decide +kernel) rfl
theorem ml_RJx4a65c_79 : Cond.methodLink RJx4a65c 79 Lib.Math.max.name ∈ zT := zt_2 87 (by decide +kernel) rfl
theorem sm_Lib_Math_max_name : Cond.static Lib.Math.max.name ∈ zT := zt_2 47 (by decide +kernel) rfl
theorem ini_Math : Cond.initialized "java/lang/Math" ∈ zT := zt_1 16 (by decide +kernel) rfl
theorem co_Lib_Math_max_name : Cond.code Lib.Math.max.name Lib.Math.max.code 2 (some .int) ∈ zT := zt_2 48 (by decide +kernel) rfl
theorem kl_RJx4a65c_7 : Cond.classLink RJx4a65c 7 "java/lang/Object" ∈ zT := zt_2 88 (by decide +kernel) rfl
theorem ml_RJx4a65c_73 : Cond.methodLink RJx4a65c 73 yJ8_newLength_cabcc ∈ zT := zt_2 43 (by decide +kernel) rfl
theorem sm_yJ8_newLength_cabcc : Cond.static yJ8_newLength_cabcc ∈ zT := zt_2 44 (by decide +kernel) rfl
theorem ini_RJ8 : Cond.initialized RJ8 ∈ zT := zt_1 15 (by decide +kernel) rfl
theorem co_yJ8_newLength_cabcc : Cond.code yJ8_newLength_cabcc cJ8_newLength_cabcc 4 (some .int) ∈ zT := zt_2 45 (by decide +kernel) rfl
theorem ml_RJ8_194 : Cond.methodLink RJ8 194 Lib.Math.max.name ∈ zT := zt_2 46 (by decide +kernel) rfl
theorem kc_RJ8_200 : Cond.constant RJ8 200 (2147483639) ∈ zT := zt_2 49 (by decide +kernel) rfl
theorem ml_RJ8_201 : Cond.methodLink RJ8 201 yJ8_hugeLength_7cf53 ∈ zT := zt_2 50 (by decide +kernel) rfl
theorem sm_yJ8_hugeLength_7cf53 : Cond.static yJ8_hugeLength_7cf53 ∈ zT := zt_2 51 (by decide +kernel) rfl
theorem co_yJ8_hugeLength_7cf53 : Cond.code yJ8_hugeLength_7cf53 cJ8_hugeLength_7cf53 3 (some .int) ∈ zT := zt_2 52 (by decide +kernel) rfl
theorem ml_RJx4a65c_66 : Cond.methodLink RJx4a65c 66 yJ7_copyOf_1904c ∈ zT := zt_2 53 (by decide +kernel) rfl
theorem sm_yJ7_copyOf_1904c : Cond.static yJ7_copyOf_1904c ∈ zT := zt_2 54 (by decide +kernel) rfl
theorem ini_RJ7 : Cond.initialized RJ7 ∈ zT := zt_1 17 (by decide +kernel) rfl
theorem co_yJ7_copyOf_1904c : Cond.code yJ7_copyOf_1904c cJ7_copyOf_1904c 2 (some (.array (.object "java/lang/Object"))) ∈ zT := zt_2 55 (by decide +kernel) rfl
theorem ml_RJ7_86 : Cond.methodLink RJ7 86 ⟨"java/lang/Object", "getClass", "()Ljava/lang/Class;"⟩ ∈ zT := zt_2 56 (by decide +kernel) rfl
theorem se_getClass : Cond.selects "[Ljava/lang/Object;" ⟨"java/lang/Object", "getClass", "()Ljava/lang/Class;"⟩ ⟨"java/lang/Object", "getClass", "()Ljava/lang/Class;"⟩ ∈ zT := zt_6 60 (by decide +kernel) rfl
theorem im_Object__ : Cond.instanceMethod ⟨"java/lang/Object", "getClass", "()Ljava/lang/Class;"⟩ ∈ zT := zt_2 57 (by decide +kernel) rfl
theorem na_Object__ : Cond.native ⟨"java/lang/Object", "getClass", "()Ljava/lang/Class;"⟩ ∈ zT := zt_2 74 (by decide +kernel) rfl
theorem ml_RJ7_300 : Cond.methodLink RJ7 300 yJ7_copyOf_6403c ∈ zT := zt_2 75 (by decide +kernel) rfl
theorem sm_yJ7_copyOf_6403c : Cond.static yJ7_copyOf_6403c ∈ zT := zt_2 76 (by decide +kernel) rfl
theorem co_yJ7_copyOf_6403c : Cond.code yJ7_copyOf_6403c cJ7_copyOf_6403c 4 (some (.array (.object "java/lang/Object"))) ∈ zT := zt_2 77 (by decide +kernel) rfl
theorem kl_RJ7_110 : Cond.classLink RJ7 110 "[Ljava/lang/Object;" ∈ zT := zt_2 78 (by decide +kernel) rfl
theorem kl_RJ7_2 : Cond.classLink RJ7 2 "java/lang/Object" ∈ zT := zt_2 80 (by decide +kernel) rfl
theorem ml_RJ7_304 : Cond.methodLink RJ7 304 Lib.Math.min.name ∈ zT := zt_2 81 (by decide +kernel) rfl
theorem sm_Lib_Math_min_name : Cond.static Lib.Math.min.name ∈ zT := zt_2 82 (by decide +kernel) rfl
theorem co_Lib_Math_min_name : Cond.code Lib.Math.min.name Lib.Math.min.code 2 (some .int) ∈ zT := zt_2 83 (by decide +kernel) rfl
theorem ml_RJ7_150 : Cond.methodLink RJ7 150 arraycopyName ∈ zT := zt_2 84 (by decide +kernel) rfl
theorem na_arraycopyName : Cond.native arraycopyName ∈ zT := zt_2 86 (by decide +kernel) rfl
theorem sm_arraycopyName : Cond.static arraycopyName ∈ zT := zt_2 85 (by decide +kernel) rfl
theorem ini_System : Cond.initialized "java/lang/System" ∈ zT := zt_1 18 (by decide +kernel) rfl
theorem ml_RL_112 : Cond.methodLink RL 112 yX7_addAccount ∈ zT := zt_5 116 (by decide +kernel) rfl
theorem im_yX7_addAccount : Cond.instanceMethod yX7_addAccount ∈ zT := zt_5 117 (by decide +kernel) rfl
theorem se_yX7_addAccount : Cond.selects RX7 yX7_addAccount yX7_addAccount ∈ zT := zt_5 118 (by decide +kernel) rfl
theorem co_yX7_addAccount : Cond.code yX7_addAccount cX7_addAccount 4 (some .int) ∈ zT := zt_5 119 (by decide +kernel) rfl
theorem fl_RX7_83 : Cond.fieldLink RX7 83 "SalesDeskModel" "accounts" "I" ∈ zT := zt_5 4 (by decide +kernel) rfl
theorem ml_RX7_104 : Cond.methodLink RX7 104 yX7_isAccount ∈ zT := zt_5 120 (by decide +kernel) rfl
theorem im_yX7_isAccount : Cond.instanceMethod yX7_isAccount ∈ zT := zt_5 122 (by decide +kernel) rfl
theorem se_yX7_isAccount : Cond.selects RX7 yX7_isAccount yX7_isAccount ∈ zT := zt_p 17 (by decide +kernel) rfl
theorem co_yX7_isAccount : Cond.code yX7_isAccount cX7_isAccount 2 (some .boolean) ∈ zT := zt_5 123 (by decide +kernel) rfl
theorem ml_RL_113 : Cond.methodLink RL 113 yL_putRule ∈ zT := zt_2 89 (by decide +kernel) rfl
theorem sm_yL_putRule : Cond.static yL_putRule ∈ zT := zt_2 90 (by decide +kernel) rfl
theorem cw_yL_putRule : Cond.codeWith yL_putRule cL_putRule 8 (some .int) [(0, 16, 19, 21), (0, 16, 23, 13), (0, 16, 27, 15)] ∈ zT := zt_2 91 (by decide +kernel) rfl
theorem ml_RL_23 : Cond.methodLink RL 23 yX6_putRule ∈ zT := zt_2 92 (by decide +kernel) rfl
theorem im_yX6_putRule : Cond.instanceMethod yX6_putRule ∈ zT := zt_2 93 (by decide +kernel) rfl
theorem se_yX6_putRule : Cond.selects RX6 yX6_putRule yX6_putRule ∈ zT := zt_2 94 (by decide +kernel) rfl
theorem co_yX6_putRule : Cond.code yX6_putRule cX6_putRule 6 (some .int) ∈ zT := zt_2 95 (by decide +kernel) rfl
theorem kl_RX6_73 : Cond.classLink RX6 73 RX4 ∈ zT := zt_2 97 (by decide +kernel) rfl
theorem ist_RX4 : Cond.instantiable RX4 4 ∈ zT := zt_2 98 (by decide +kernel) rfl
theorem ini_RX4 : Cond.initialized RX4 ∈ zT := zt_1 19 (by decide +kernel) rfl
theorem ml_RX6_75 : Cond.methodLink RX6 75 yX4_init ∈ zT := zt_2 99 (by decide +kernel) rfl
theorem im_yX4_init : Cond.instanceMethod yX4_init ∈ zT := zt_2 100 (by decide +kernel) rfl
theorem co_yX4_init : Cond.code yX4_init cX4_init 5 none ∈ zT := zt_2 101 (by decide +kernel) rfl
theorem ml_RX4_1 : Cond.methodLink RX4 1 objectInit ∈ zT := zt_2 102 (by decide +kernel) rfl
theorem fl_RX4_7 : Cond.fieldLink RX4 7 "SalesDesk$Rule" "first" "I" ∈ zT := zt_2 103 (by decide +kernel) rfl
theorem fl_RX4_13 : Cond.fieldLink RX4 13 "SalesDesk$Rule" "last" "I" ∈ zT := zt_2 105 (by decide +kernel) rfl
theorem fl_RX4_16 : Cond.fieldLink RX4 16 "SalesDesk$Rule" "size" "I" ∈ zT := zt_2 107 (by decide +kernel) rfl
theorem fl_RX4_19 : Cond.fieldLink RX4 19 "SalesDesk$Rule" "region" "I" ∈ zT := zt_2 109 (by decide +kernel) rfl
theorem ml_RX6_78 : Cond.methodLink RX6 78 yJx4a65c_add_7a177 ∈ zT := zt_2 120 (by decide +kernel) rfl
theorem im_yJx4a65c_add_7a177 : Cond.instanceMethod yJx4a65c_add_7a177 ∈ zT := zt_2 121 (by decide +kernel) rfl
theorem se_yJx4a65c_add_7a177 : Cond.selects RJx4a65c yJx4a65c_add_7a177 yJx4a65c_add_7a177 ∈ zT := zt_2 122 (by decide +kernel) rfl
theorem co_yJx4a65c_add_7a177 : Cond.code yJx4a65c_add_7a177 cJx4a65c_add_7a177 5 none ∈ zT := zt_2 123 (by decide +kernel) rfl
theorem ml_RJx4a65c_112 : Cond.methodLink RJx4a65c 112 arraycopyName ∈ zT := zt_3 125 (by decide +kernel) rfl
theorem ml_RJx4a65c_135 : Cond.methodLink RJx4a65c 135 yJx4a65c_rangeCheckForAdd_d00df ∈ zT := zt_2 124 (by decide +kernel) rfl
theorem im_yJx4a65c_rangeCheckForAdd_d00df : Cond.instanceMethod yJx4a65c_rangeCheckForAdd_d00df ∈ zT := zt_2 126 (by decide +kernel) rfl
theorem se_yJx4a65c_rangeCheckForAdd_d00df : Cond.selects RJx4a65c yJx4a65c_rangeCheckForAdd_d00df yJx4a65c_rangeCheckForAdd_d00df ∈ zT := zt_p 5 (by decide +kernel) rfl
theorem co_yJx4a65c_rangeCheckForAdd_d00df : Cond.code yJx4a65c_rangeCheckForAdd_d00df cJx4a65c_rangeCheckForAdd_d00df 2 none ∈ zT := zt_2 127 (by decide +kernel) rfl
theorem ml_RL_116 : Cond.methodLink RL 116 yX7_putRule ∈ zT := zt_5 124 (by decide +kernel) rfl
theorem im_yX7_putRule : Cond.instanceMethod yX7_putRule ∈ zT := zt_5 125 (by decide +kernel) rfl
theorem se_yX7_putRule : Cond.selects RX7 yX7_putRule yX7_putRule ∈ zT := zt_5 126 (by decide +kernel) rfl
theorem co_yX7_putRule : Cond.code yX7_putRule cX7_putRule 8 (some .int) ∈ zT := zt_5 127 (by decide +kernel) rfl
theorem fl_RX7_108 : Cond.fieldLink RX7 108 "SalesDeskModel" "rules" "I" ∈ zT := zt_5 9 (by decide +kernel) rfl
theorem ml_RX7_111 : Cond.methodLink RX7 111 yX7_copyRule ∈ zT := zt_5 128 (by decide +kernel) rfl
theorem im_yX7_copyRule : Cond.instanceMethod yX7_copyRule ∈ zT := zt_5 130 (by decide +kernel) rfl
theorem se_yX7_copyRule : Cond.selects RX7 yX7_copyRule yX7_copyRule ∈ zT := zt_p 18 (by decide +kernel) rfl
theorem co_yX7_copyRule : Cond.code yX7_copyRule cX7_copyRule 3 none ∈ zT := zt_5 131 (by decide +kernel) rfl
theorem ml_RL_117 : Cond.methodLink RL 117 yL_removeRule ∈ zT := zt_3 126 (by decide +kernel) rfl
theorem sm_yL_removeRule : Cond.static yL_removeRule ∈ zT := zt_3 127 (by decide +kernel) rfl
theorem cw_yL_removeRule : Cond.codeWith yL_removeRule cL_removeRule 4 (some .int) [(0, 9, 12, 21)] ∈ zT := zt_3 128 (by decide +kernel) rfl
theorem ml_RL_27 : Cond.methodLink RL 27 yX6_removeRule ∈ zT := zt_3 129 (by decide +kernel) rfl
theorem im_yX6_removeRule : Cond.instanceMethod yX6_removeRule ∈ zT := zt_3 130 (by decide +kernel) rfl
theorem se_yX6_removeRule : Cond.selects RX6 yX6_removeRule yX6_removeRule ∈ zT := zt_3 131 (by decide +kernel) rfl
theorem co_yX6_removeRule : Cond.code yX6_removeRule cX6_removeRule 2 (some .int) ∈ zT := zt_3 132 (by decide +kernel) rfl
theorem ml_RX6_83 : Cond.methodLink RX6 83 yJx4a65c_remove_915e3 ∈ zT := zt_3 134 (by decide +kernel) rfl
theorem im_yJx4a65c_remove_915e3 : Cond.instanceMethod yJx4a65c_remove_915e3 ∈ zT := zt_3 135 (by decide +kernel) rfl
theorem se_yJx4a65c_remove_915e3 : Cond.selects RJx4a65c yJx4a65c_remove_915e3 yJx4a65c_remove_915e3 ∈ zT := zt_3 136 (by decide +kernel) rfl
theorem co_yJx4a65c_remove_915e3 : Cond.code yJx4a65c_remove_915e3 cJx4a65c_remove_915e3 4 (some (.object "java/lang/Object")) ∈ zT := zt_3 137 (by decide +kernel) rfl
theorem ml_RJx4a65c_144 : Cond.methodLink RJx4a65c 144 yJx4a65c_fastRemove_b59b0 ∈ zT := zt_3 138 (by decide +kernel) rfl
theorem im_yJx4a65c_fastRemove_b59b0 : Cond.instanceMethod yJx4a65c_fastRemove_b59b0 ∈ zT := zt_3 140 (by decide +kernel) rfl
theorem se_yJx4a65c_fastRemove_b59b0 : Cond.selects RJx4a65c yJx4a65c_fastRemove_b59b0 yJx4a65c_fastRemove_b59b0 ∈ zT := zt_p 7 (by decide +kernel) rfl
theorem co_yJx4a65c_fastRemove_b59b0 : Cond.code yJx4a65c_fastRemove_b59b0 cJx4a65c_fastRemove_b59b0 4 none ∈ zT := zt_3 141 (by decide +kernel) rfl
theorem ml_RL_119 : Cond.methodLink RL 119 yX7_removeRule ∈ zT := zt_5 132 (by decide +kernel) rfl
theorem im_yX7_removeRule : Cond.instanceMethod yX7_removeRule ∈ zT := zt_5 133 (by decide +kernel) rfl
theorem se_yX7_removeRule : Cond.selects RX7 yX7_removeRule yX7_removeRule ∈ zT := zt_5 134 (by decide +kernel) rfl
theorem co_yX7_removeRule : Cond.code yX7_removeRule cX7_removeRule 3 (some .int) ∈ zT := zt_5 135 (by decide +kernel) rfl
theorem ml_RL_120 : Cond.methodLink RL 120 yL_except ∈ zT := zt_3 142 (by decide +kernel) rfl
theorem sm_yL_except : Cond.static yL_except ∈ zT := zt_3 143 (by decide +kernel) rfl
theorem cw_yL_except : Cond.codeWith yL_except cL_except 5 (some .int) [(0, 10, 13, 21), (0, 10, 17, 13)] ∈ zT := zt_3 144 (by decide +kernel) rfl
theorem ml_RL_30 : Cond.methodLink RL 30 yX6_except ∈ zT := zt_3 145 (by decide +kernel) rfl
theorem im_yX6_except : Cond.instanceMethod yX6_except ∈ zT := zt_3 146 (by decide +kernel) rfl
theorem se_yX6_except : Cond.selects RX6 yX6_except yX6_except ∈ zT := zt_3 147 (by decide +kernel) rfl
theorem co_yX6_except : Cond.code yX6_except cX6_except 5 (some .int) ∈ zT := zt_3 148 (by decide +kernel) rfl
theorem fl_RX6_87 : Cond.fieldLink RX6 87 "SalesDesk$Account" "exception" "I" ∈ zT := zt_2 17 (by decide +kernel) rfl
theorem ml_RL_123 : Cond.methodLink RL 123 yX7_except ∈ zT := zt_5 136 (by decide +kernel) rfl
theorem im_yX7_except : Cond.instanceMethod yX7_except ∈ zT := zt_5 137 (by decide +kernel) rfl
theorem se_yX7_except : Cond.selects RX7 yX7_except yX7_except ∈ zT := zt_5 138 (by decide +kernel) rfl
theorem co_yX7_except : Cond.code yX7_except cX7_except 4 (some .int) ∈ zT := zt_5 139 (by decide +kernel) rfl
theorem ml_RL_124 : Cond.methodLink RL 124 yL_regionOf ∈ zT := zt_3 149 (by decide +kernel) rfl
theorem sm_yL_regionOf : Cond.static yL_regionOf ∈ zT := zt_3 150 (by decide +kernel) rfl
theorem cw_yL_regionOf : Cond.codeWith yL_regionOf cL_regionOf 4 (some .int) [(0, 9, 12, 21)] ∈ zT := zt_3 151 (by decide +kernel) rfl
theorem ml_RL_34 : Cond.methodLink RL 34 yX6_regionOf ∈ zT := zt_3 152 (by decide +kernel) rfl
theorem im_yX6_regionOf : Cond.instanceMethod yX6_regionOf ∈ zT := zt_3 153 (by decide +kernel) rfl
theorem se_yX6_regionOf : Cond.selects RX6 yX6_regionOf yX6_regionOf ∈ zT := zt_3 154 (by decide +kernel) rfl
theorem co_yX6_regionOf : Cond.code yX6_regionOf cX6_regionOf 2 (some .int) ∈ zT := zt_3 155 (by decide +kernel) rfl
theorem ml_RX6_90 : Cond.methodLink RX6 90 yX6_regionNow ∈ zT := zt_3 156 (by decide +kernel) rfl
theorem im_yX6_regionNow : Cond.instanceMethod yX6_regionNow ∈ zT := zt_3 158 (by decide +kernel) rfl
theorem se_yX6_regionNow : Cond.selects RX6 yX6_regionNow yX6_regionNow ∈ zT := zt_p 8 (by decide +kernel) rfl
theorem co_yX6_regionNow : Cond.code yX6_regionNow cX6_regionNow 4 (some .int) ∈ zT := zt_3 159 (by decide +kernel) rfl
theorem fl_RX6_257 : Cond.fieldLink RX6 257 "SalesDesk$Account" "above" "LSalesDesk$Account;" ∈ zT := zt_2 11 (by decide +kernel) rfl
theorem ml_RX6_254 : Cond.methodLink RX6 254 yX6_ruledRegion ∈ zT := zt_3 160 (by decide +kernel) rfl
theorem im_yX6_ruledRegion : Cond.instanceMethod yX6_ruledRegion ∈ zT := zt_3 162 (by decide +kernel) rfl
theorem se_yX6_ruledRegion : Cond.selects RX6 yX6_ruledRegion yX6_ruledRegion ∈ zT := zt_p 9 (by decide +kernel) rfl
theorem co_yX6_ruledRegion : Cond.code yX6_ruledRegion cX6_ruledRegion 4 (some .int) ∈ zT := zt_3 163 (by decide +kernel) rfl
theorem fl_RX6_260 : Cond.fieldLink RX6 260 "SalesDesk$Rule" "first" "I" ∈ zT := zt_2 104 (by decide +kernel) rfl
theorem fl_RX6_263 : Cond.fieldLink RX6 263 "SalesDesk$Account" "area" "I" ∈ zT := zt_2 13 (by decide +kernel) rfl
theorem fl_RX6_266 : Cond.fieldLink RX6 266 "SalesDesk$Rule" "last" "I" ∈ zT := zt_2 106 (by decide +kernel) rfl
theorem fl_RX6_269 : Cond.fieldLink RX6 269 "SalesDesk$Rule" "size" "I" ∈ zT := zt_2 108 (by decide +kernel) rfl
theorem fl_RX6_271 : Cond.fieldLink RX6 271 "SalesDesk$Account" "size" "I" ∈ zT := zt_2 15 (by decide +kernel) rfl
theorem fl_RX6_272 : Cond.fieldLink RX6 272 "SalesDesk$Rule" "region" "I" ∈ zT := zt_2 110 (by decide +kernel) rfl
theorem ml_RL_126 : Cond.methodLink RL 126 yX7_regionOf ∈ zT := zt_5 140 (by decide +kernel) rfl
theorem im_yX7_regionOf : Cond.instanceMethod yX7_regionOf ∈ zT := zt_5 141 (by decide +kernel) rfl
theorem se_yX7_regionOf : Cond.selects RX7 yX7_regionOf yX7_regionOf ∈ zT := zt_5 142 (by decide +kernel) rfl
theorem co_yX7_regionOf : Cond.code yX7_regionOf cX7_regionOf 2 (some .int) ∈ zT := zt_5 143 (by decide +kernel) rfl
theorem ml_RX7_119 : Cond.methodLink RX7 119 yX7_region ∈ zT := zt_5 144 (by decide +kernel) rfl
theorem im_yX7_region : Cond.instanceMethod yX7_region ∈ zT := zt_5 146 (by decide +kernel) rfl
theorem se_yX7_region : Cond.selects RX7 yX7_region yX7_region ∈ zT := zt_p 19 (by decide +kernel) rfl
theorem co_yX7_region : Cond.code yX7_region cX7_region 3 (some .int) ∈ zT := zt_5 147 (by decide +kernel) rfl
theorem ml_RX7_115 : Cond.methodLink RX7 115 yX7_ownRegion ∈ zT := zt_5 148 (by decide +kernel) rfl
theorem im_yX7_ownRegion : Cond.instanceMethod yX7_ownRegion ∈ zT := zt_5 150 (by decide +kernel) rfl
theorem se_yX7_ownRegion : Cond.selects RX7 yX7_ownRegion yX7_ownRegion ∈ zT := zt_p 20 (by decide +kernel) rfl
theorem co_yX7_ownRegion : Cond.code yX7_ownRegion cX7_ownRegion 4 (some .int) ∈ zT := zt_5 151 (by decide +kernel) rfl
theorem ml_RL_127 : Cond.methodLink RL 127 yL_addSeller ∈ zT := zt_3 164 (by decide +kernel) rfl
theorem sm_yL_addSeller : Cond.static yL_addSeller ∈ zT := zt_3 165 (by decide +kernel) rfl
theorem cw_yL_addSeller : Cond.codeWith yL_addSeller cL_addSeller 5 (some .int) [(0, 10, 13, 21), (0, 10, 17, 13), (0, 10, 21, 15)] ∈ zT := zt_3 166 (by decide +kernel) rfl
theorem ml_RL_37 : Cond.methodLink RL 37 yX6_addSeller ∈ zT := zt_3 167 (by decide +kernel) rfl
theorem im_yX6_addSeller : Cond.instanceMethod yX6_addSeller ∈ zT := zt_3 168 (by decide +kernel) rfl
theorem se_yX6_addSeller : Cond.selects RX6 yX6_addSeller yX6_addSeller ∈ zT := zt_3 169 (by decide +kernel) rfl
theorem co_yX6_addSeller : Cond.code yX6_addSeller cX6_addSeller 4 (some .int) ∈ zT := zt_3 170 (by decide +kernel) rfl
theorem kl_RX6_98 : Cond.classLink RX6 98 RX5 ∈ zT := zt_3 176 (by decide +kernel) rfl
theorem ist_RX5 : Cond.instantiable RX5 4 ∈ zT := zt_3 177 (by decide +kernel) rfl
theorem ini_RX5 : Cond.initialized RX5 ∈ zT := zt_1 27 (by decide +kernel) rfl
theorem ml_RX6_94 : Cond.methodLink RX6 94 yX6_sellerAt ∈ zT := zt_3 171 (by decide +kernel) rfl
theorem im_yX6_sellerAt : Cond.instanceMethod yX6_sellerAt ∈ zT := zt_3 173 (by decide +kernel) rfl
theorem se_yX6_sellerAt : Cond.selects RX6 yX6_sellerAt yX6_sellerAt ∈ zT := zt_p 10 (by decide +kernel) rfl
theorem co_yX6_sellerAt : Cond.code yX6_sellerAt cX6_sellerAt 2 (some (.object "SalesDesk$Seller")) ∈ zT := zt_3 174 (by decide +kernel) rfl
theorem ml_RX6_100 : Cond.methodLink RX6 100 yX5_init ∈ zT := zt_3 178 (by decide +kernel) rfl
theorem im_yX5_init : Cond.instanceMethod yX5_init ∈ zT := zt_3 179 (by decide +kernel) rfl
theorem co_yX5_init : Cond.code yX5_init cX5_init 4 none ∈ zT := zt_3 180 (by decide +kernel) rfl
theorem ml_RX5_1 : Cond.methodLink RX5 1 objectInit ∈ zT := zt_3 181 (by decide +kernel) rfl
theorem fl_RX5_7 : Cond.fieldLink RX5 7 "SalesDesk$Seller" "adjustment" "I" ∈ zT := zt_3 188 (by decide +kernel) rfl
theorem fl_RX5_13 : Cond.fieldLink RX5 13 "SalesDesk$Seller" "number" "I" ∈ zT := zt_3 182 (by decide +kernel) rfl
theorem fl_RX5_16 : Cond.fieldLink RX5 16 "SalesDesk$Seller" "above" "LSalesDesk$Seller;" ∈ zT := zt_3 184 (by decide +kernel) rfl
theorem fl_RX5_20 : Cond.fieldLink RX5 20 "SalesDesk$Seller" "limit" "I" ∈ zT := zt_3 186 (by decide +kernel) rfl
theorem ml_RL_129 : Cond.methodLink RL 129 yX7_addSeller ∈ zT := zt_5 152 (by decide +kernel) rfl
theorem im_yX7_addSeller : Cond.instanceMethod yX7_addSeller ∈ zT := zt_5 153 (by decide +kernel) rfl
theorem se_yX7_addSeller : Cond.selects RX7 yX7_addSeller yX7_addSeller ∈ zT := zt_5 154 (by decide +kernel) rfl
theorem co_yX7_addSeller : Cond.code yX7_addSeller cX7_addSeller 3 (some .int) ∈ zT := zt_5 155 (by decide +kernel) rfl
theorem fl_RX7_90 : Cond.fieldLink RX7 90 "SalesDeskModel" "sellers" "I" ∈ zT := zt_5 14 (by decide +kernel) rfl
theorem ml_RX7_122 : Cond.methodLink RX7 122 yX7_isSeller ∈ zT := zt_5 156 (by decide +kernel) rfl
theorem im_yX7_isSeller : Cond.instanceMethod yX7_isSeller ∈ zT := zt_5 158 (by decide +kernel) rfl
theorem se_yX7_isSeller : Cond.selects RX7 yX7_isSeller yX7_isSeller ∈ zT := zt_p 21 (by decide +kernel) rfl
theorem co_yX7_isSeller : Cond.code yX7_isSeller cX7_isSeller 2 (some .boolean) ∈ zT := zt_5 159 (by decide +kernel) rfl
theorem ml_RL_130 : Cond.methodLink RL 130 yL_adjust ∈ zT := zt_3 199 (by decide +kernel) rfl
theorem sm_yL_adjust : Cond.static yL_adjust ∈ zT := zt_3 200 (by decide +kernel) rfl
theorem cw_yL_adjust : Cond.codeWith yL_adjust cL_adjust 5 (some .int) [(0, 10, 13, 21), (0, 10, 17, 13)] ∈ zT := zt_3 201 (by decide +kernel) rfl
theorem ml_RL_40 : Cond.methodLink RL 40 yX6_adjust ∈ zT := zt_3 202 (by decide +kernel) rfl
theorem im_yX6_adjust : Cond.instanceMethod yX6_adjust ∈ zT := zt_3 203 (by decide +kernel) rfl
theorem se_yX6_adjust : Cond.selects RX6 yX6_adjust yX6_adjust ∈ zT := zt_3 204 (by decide +kernel) rfl
theorem co_yX6_adjust : Cond.code yX6_adjust cX6_adjust 5 (some .int) ∈ zT := zt_3 205 (by decide +kernel) rfl
theorem kc_RX6_103 : Cond.constant RX6 103 (-1000000) ∈ zT := zt_3 206 (by decide +kernel) rfl
theorem kc_RX6_104 : Cond.constant RX6 104 (1000000) ∈ zT := zt_3 207 (by decide +kernel) rfl
theorem fl_RX6_105 : Cond.fieldLink RX6 105 "SalesDesk$Seller" "adjustment" "I" ∈ zT := zt_3 189 (by decide +kernel) rfl
theorem ml_RL_132 : Cond.methodLink RL 132 yX7_adjust ∈ zT := zt_5 160 (by decide +kernel) rfl
theorem im_yX7_adjust : Cond.instanceMethod yX7_adjust ∈ zT := zt_5 161 (by decide +kernel) rfl
theorem se_yX7_adjust : Cond.selects RX7 yX7_adjust yX7_adjust ∈ zT := zt_5 162 (by decide +kernel) rfl
theorem co_yX7_adjust : Cond.code yX7_adjust cX7_adjust 4 (some .int) ∈ zT := zt_5 163 (by decide +kernel) rfl
theorem kc_RX7_125 : Cond.constant RX7 125 (-1000000) ∈ zT := zt_5 164 (by decide +kernel) rfl
theorem kc_RX7_126 : Cond.constant RX7 126 (1000000) ∈ zT := zt_5 165 (by decide +kernel) rfl
theorem ml_RL_133 : Cond.methodLink RL 133 yL_addChance ∈ zT := zt_3 208 (by decide +kernel) rfl
theorem sm_yL_addChance : Cond.static yL_addChance ∈ zT := zt_3 209 (by decide +kernel) rfl
theorem cw_yL_addChance : Cond.codeWith yL_addChance cL_addChance 6 (some .int) [(0, 12, 15, 21), (0, 12, 19, 13), (0, 12, 23, 15)] ∈ zT := zt_3 210 (by decide +kernel) rfl
theorem ml_RL_43 : Cond.methodLink RL 43 yX6_addChance ∈ zT := zt_3 211 (by decide +kernel) rfl
theorem im_yX6_addChance : Cond.instanceMethod yX6_addChance ∈ zT := zt_3 212 (by decide +kernel) rfl
theorem se_yX6_addChance : Cond.selects RX6 yX6_addChance yX6_addChance ∈ zT := zt_3 213 (by decide +kernel) rfl
theorem co_yX6_addChance : Cond.code yX6_addChance cX6_addChance 7 (some .int) ∈ zT := zt_3 214 (by decide +kernel) rfl
theorem kl_RX6_108 : Cond.classLink RX6 108 RX1 ∈ zT := zt_3 215 (by decide +kernel) rfl
theorem ist_RX1 : Cond.instantiable RX1 8 ∈ zT := zt_3 216 (by decide +kernel) rfl
theorem ini_RX1 : Cond.initialized RX1 ∈ zT := zt_1 28 (by decide +kernel) rfl
theorem fl_RX6_111 : Cond.fieldLink RX6 111 "SalesDesk$Chance" "shares" "[I" ∈ zT := zt_3 226 (by decide +kernel) rfl
theorem fl_RX6_115 : Cond.fieldLink RX6 115 "SalesDesk$Seller" "number" "I" ∈ zT := zt_3 183 (by decide +kernel) rfl
theorem ml_RX6_110 : Cond.methodLink RX6 110 yX1_init ∈ zT := zt_3 217 (by decide +kernel) rfl
theorem im_yX1_init : Cond.instanceMethod yX1_init ∈ zT := zt_3 218 (by decide +kernel) rfl
theorem co_yX1_init : Cond.code yX1_init cX1_init 4 none ∈ zT := zt_3 219 (by decide +kernel) rfl
theorem ml_RX1_3 : Cond.methodLink RX1 3 objectInit ∈ zT := zt_3 220 (by decide +kernel) rfl
theorem fl_RX1_9 : Cond.fieldLink RX1 9 "SalesDesk$Chance" "shares" "[I" ∈ zT := zt_3 225 (by decide +kernel) rfl
theorem fl_RX1_15 : Cond.fieldLink RX1 15 "SalesDesk$Chance" "daysBefore" "[I" ∈ zT := zt_3 227 (by decide +kernel) rfl
theorem fl_RX1_18 : Cond.fieldLink RX1 18 "SalesDesk$Chance" "stage" "I" ∈ zT := zt_3 229 (by decide +kernel) rfl
theorem fl_RX1_22 : Cond.fieldLink RX1 22 "SalesDesk$Chance" "keptRegion" "I" ∈ zT := zt_3 233 (by decide +kernel) rfl
theorem fl_RX1_25 : Cond.fieldLink RX1 25 "SalesDesk$Chance" "counting" "LSalesDesk$Quote;" ∈ zT := zt_3 235 (by decide +kernel) rfl
theorem fl_RX1_29 : Cond.fieldLink RX1 29 "SalesDesk$Chance" "account" "LSalesDesk$Account;" ∈ zT := zt_3 221 (by decide +kernel) rfl
theorem fl_RX1_33 : Cond.fieldLink RX1 33 "SalesDesk$Chance" "amount" "I" ∈ zT := zt_3 223 (by decide +kernel) rfl
theorem fl_RX1_36 : Cond.fieldLink RX1 36 "SalesDesk$Chance" "cameOn" "I" ∈ zT := zt_3 231 (by decide +kernel) rfl
theorem ml_RX6_118 : Cond.methodLink RX6 118 yX6_addTo ∈ zT := zt_4 15 (by decide +kernel) rfl
theorem sm_yX6_addTo : Cond.static yX6_addTo ∈ zT := zt_4 16 (by decide +kernel) rfl
theorem co_yX6_addTo : Cond.code yX6_addTo cX6_addTo 3 none ∈ zT := zt_4 17 (by decide +kernel) rfl
theorem ml_RL_135 : Cond.methodLink RL 135 yX7_addChance ∈ zT := zt_5 166 (by decide +kernel) rfl
theorem im_yX7_addChance : Cond.instanceMethod yX7_addChance ∈ zT := zt_5 167 (by decide +kernel) rfl
theorem se_yX7_addChance : Cond.selects RX7 yX7_addChance yX7_addChance ∈ zT := zt_5 168 (by decide +kernel) rfl
theorem co_yX7_addChance : Cond.code yX7_addChance cX7_addChance 4 (some .int) ∈ zT := zt_5 169 (by decide +kernel) rfl
theorem fl_RX7_93 : Cond.fieldLink RX7 93 "SalesDeskModel" "chances" "I" ∈ zT := zt_5 18 (by decide +kernel) rfl
theorem ml_RL_136 : Cond.methodLink RL 136 yL_giveShare ∈ zT := zt_4 18 (by decide +kernel) rfl
theorem sm_yL_giveShare : Cond.static yL_giveShare ∈ zT := zt_4 19 (by decide +kernel) rfl
theorem cw_yL_giveShare : Cond.codeWith yL_giveShare cL_giveShare 7 (some .int) [(0, 14, 17, 21), (0, 14, 21, 13), (0, 14, 25, 15)] ∈ zT := zt_4 20 (by decide +kernel) rfl
theorem ml_RL_46 : Cond.methodLink RL 46 yX6_giveShare ∈ zT := zt_4 21 (by decide +kernel) rfl
theorem im_yX6_giveShare : Cond.instanceMethod yX6_giveShare ∈ zT := zt_4 22 (by decide +kernel) rfl
theorem se_yX6_giveShare : Cond.selects RX6 yX6_giveShare yX6_giveShare ∈ zT := zt_4 23 (by decide +kernel) rfl
theorem co_yX6_giveShare : Cond.code yX6_giveShare cX6_giveShare 8 (some .int) ∈ zT := zt_4 24 (by decide +kernel) rfl
theorem ml_RX6_122 : Cond.methodLink RX6 122 yX6_chanceAt ∈ zT := zt_4 25 (by decide +kernel) rfl
theorem im_yX6_chanceAt : Cond.instanceMethod yX6_chanceAt ∈ zT := zt_4 27 (by decide +kernel) rfl
theorem se_yX6_chanceAt : Cond.selects RX6 yX6_chanceAt yX6_chanceAt ∈ zT := zt_p 11 (by decide +kernel) rfl
theorem co_yX6_chanceAt : Cond.code yX6_chanceAt cX6_chanceAt 2 (some (.object "SalesDesk$Chance")) ∈ zT := zt_4 28 (by decide +kernel) rfl
theorem ml_RX6_131 : Cond.methodLink RX6 131 yX6_requireOpen ∈ zT := zt_4 31 (by decide +kernel) rfl
theorem sm_yX6_requireOpen : Cond.static yX6_requireOpen ∈ zT := zt_4 32 (by decide +kernel) rfl
theorem co_yX6_requireOpen : Cond.code yX6_requireOpen cX6_requireOpen 1 none ∈ zT := zt_4 33 (by decide +kernel) rfl
theorem ml_RX6_160 : Cond.methodLink RX6 160 yX6_isOpen ∈ zT := zt_1 111 (by decide +kernel) rfl
theorem sm_yX6_isOpen : Cond.static yX6_isOpen ∈ zT := zt_1 112 (by decide +kernel) rfl
theorem co_yX6_isOpen : Cond.code yX6_isOpen cX6_isOpen 1 (some .boolean) ∈ zT := zt_1 113 (by decide +kernel) rfl
theorem fl_RX6_157 : Cond.fieldLink RX6 157 "SalesDesk$Chance" "stage" "I" ∈ zT := zt_3 230 (by decide +kernel) rfl
theorem ml_RX6_135 : Cond.methodLink RX6 135 yX6_at ∈ zT := zt_4 35 (by decide +kernel) rfl
theorem sm_yX6_at : Cond.static yX6_at ∈ zT := zt_4 36 (by decide +kernel) rfl
theorem co_yX6_at : Cond.code yX6_at cX6_at 2 (some .int) ∈ zT := zt_4 37 (by decide +kernel) rfl
theorem ml_RL_139 : Cond.methodLink RL 139 yX7_giveShare ∈ zT := zt_5 170 (by decide +kernel) rfl
theorem im_yX7_giveShare : Cond.instanceMethod yX7_giveShare ∈ zT := zt_5 171 (by decide +kernel) rfl
theorem se_yX7_giveShare : Cond.selects RX7 yX7_giveShare yX7_giveShare ∈ zT := zt_5 172 (by decide +kernel) rfl
theorem co_yX7_giveShare : Cond.code yX7_giveShare cX7_giveShare 7 (some .int) ∈ zT := zt_5 173 (by decide +kernel) rfl
theorem ml_RX7_127 : Cond.methodLink RX7 127 yX7_isChance ∈ zT := zt_5 174 (by decide +kernel) rfl
theorem im_yX7_isChance : Cond.instanceMethod yX7_isChance ∈ zT := zt_5 176 (by decide +kernel) rfl
theorem se_yX7_isChance : Cond.selects RX7 yX7_isChance yX7_isChance ∈ zT := zt_p 22 (by decide +kernel) rfl
theorem co_yX7_isChance : Cond.code yX7_isChance cX7_isChance 2 (some .boolean) ∈ zT := zt_5 177 (by decide +kernel) rfl
theorem ml_RX7_130 : Cond.methodLink RX7 130 yX7_isOpen ∈ zT := zt_5 178 (by decide +kernel) rfl
theorem im_yX7_isOpen : Cond.instanceMethod yX7_isOpen ∈ zT := zt_5 180 (by decide +kernel) rfl
theorem se_yX7_isOpen : Cond.selects RX7 yX7_isOpen yX7_isOpen ∈ zT := zt_p 23 (by decide +kernel) rfl
theorem co_yX7_isOpen : Cond.code yX7_isOpen cX7_isOpen 2 (some .boolean) ∈ zT := zt_5 181 (by decide +kernel) rfl
theorem ml_RL_140 : Cond.methodLink RL 140 yL_move ∈ zT := zt_4 39 (by decide +kernel) rfl
theorem sm_yL_move : Cond.static yL_move ∈ zT := zt_4 40 (by decide +kernel) rfl
theorem cw_yL_move : Cond.codeWith yL_move cL_move 5 (some .int) [(0, 10, 13, 21), (0, 10, 17, 13), (0, 10, 21, 15)] ∈ zT := zt_4 41 (by decide +kernel) rfl
theorem ml_RL_50 : Cond.methodLink RL 50 yX6_move ∈ zT := zt_4 42 (by decide +kernel) rfl
theorem im_yX6_move : Cond.instanceMethod yX6_move ∈ zT := zt_4 43 (by decide +kernel) rfl
theorem se_yX6_move : Cond.selects RX6 yX6_move yX6_move ∈ zT := zt_4 44 (by decide +kernel) rfl
theorem co_yX6_move : Cond.code yX6_move cX6_move 5 (some .int) ∈ zT := zt_4 45 (by decide +kernel) rfl
theorem fl_RX6_151 : Cond.fieldLink RX6 151 "SalesDesk$Chance" "cameOn" "I" ∈ zT := zt_3 232 (by decide +kernel) rfl
theorem fl_RX6_154 : Cond.fieldLink RX6 154 "SalesDesk$Chance" "daysBefore" "[I" ∈ zT := zt_3 228 (by decide +kernel) rfl
theorem fl_RX6_164 : Cond.fieldLink RX6 164 "SalesDesk$Chance" "account" "LSalesDesk$Account;" ∈ zT := zt_3 222 (by decide +kernel) rfl
theorem fl_RX6_168 : Cond.fieldLink RX6 168 "SalesDesk$Chance" "keptRegion" "I" ∈ zT := zt_3 234 (by decide +kernel) rfl
theorem ml_RX6_141 : Cond.methodLink RX6 141 yX6_requireStage ∈ zT := zt_4 46 (by decide +kernel) rfl
theorem sm_yX6_requireStage : Cond.static yX6_requireStage ∈ zT := zt_4 47 (by decide +kernel) rfl
theorem co_yX6_requireStage : Cond.code yX6_requireStage cX6_requireStage 1 none ∈ zT := zt_4 48 (by decide +kernel) rfl
theorem ml_RX6_145 : Cond.methodLink RX6 145 yX6_canCome ∈ zT := zt_4 49 (by decide +kernel) rfl
theorem sm_yX6_canCome : Cond.static yX6_canCome ∈ zT := zt_4 50 (by decide +kernel) rfl
theorem co_yX6_canCome : Cond.code yX6_canCome cX6_canCome 2 (some .boolean) ∈ zT := zt_4 51 (by decide +kernel) rfl
theorem fl_RX6_216 : Cond.fieldLink RX6 216 "SalesDesk$Chance" "counting" "LSalesDesk$Quote;" ∈ zT := zt_3 236 (by decide +kernel) rfl
theorem ml_RL_142 : Cond.methodLink RL 142 yX7_move ∈ zT := zt_5 182 (by decide +kernel) rfl
theorem im_yX7_move : Cond.instanceMethod yX7_move ∈ zT := zt_5 183 (by decide +kernel) rfl
theorem se_yX7_move : Cond.selects RX7 yX7_move yX7_move ∈ zT := zt_5 184 (by decide +kernel) rfl
theorem co_yX7_move : Cond.code yX7_move cX7_move 6 (some .int) ∈ zT := zt_5 185 (by decide +kernel) rfl
theorem ml_RX7_139 : Cond.methodLink RX7 139 yX7_canCome ∈ zT := zt_5 186 (by decide +kernel) rfl
theorem im_yX7_canCome : Cond.instanceMethod yX7_canCome ∈ zT := zt_5 188 (by decide +kernel) rfl
theorem se_yX7_canCome : Cond.selects RX7 yX7_canCome yX7_canCome ∈ zT := zt_p 24 (by decide +kernel) rfl
theorem co_yX7_canCome : Cond.code yX7_canCome cX7_canCome 5 (some .boolean) ∈ zT := zt_5 189 (by decide +kernel) rfl
theorem ml_RX7_136 : Cond.methodLink RX7 136 yX7_counts ∈ zT := zt_5 190 (by decide +kernel) rfl
theorem im_yX7_counts : Cond.instanceMethod yX7_counts ∈ zT := zt_5 192 (by decide +kernel) rfl
theorem se_yX7_counts : Cond.selects RX7 yX7_counts yX7_counts ∈ zT := zt_p 25 (by decide +kernel) rfl
theorem co_yX7_counts : Cond.code yX7_counts cX7_counts 5 (some .int) ∈ zT := zt_5 193 (by decide +kernel) rfl
theorem fl_RX7_133 : Cond.fieldLink RX7 133 "SalesDeskModel" "quotes" "I" ∈ zT := zt_5 26 (by decide +kernel) rfl
theorem ml_RL_143 : Cond.methodLink RL 143 yL_stage ∈ zT := zt_4 53 (by decide +kernel) rfl
theorem sm_yL_stage : Cond.static yL_stage ∈ zT := zt_4 54 (by decide +kernel) rfl
theorem cw_yL_stage : Cond.codeWith yL_stage cL_stage 4 (some .int) [(0, 9, 12, 21)] ∈ zT := zt_4 55 (by decide +kernel) rfl
theorem ml_RL_53 : Cond.methodLink RL 53 yX6_stage ∈ zT := zt_4 56 (by decide +kernel) rfl
theorem im_yX6_stage : Cond.instanceMethod yX6_stage ∈ zT := zt_4 57 (by decide +kernel) rfl
theorem se_yX6_stage : Cond.selects RX6 yX6_stage yX6_stage ∈ zT := zt_4 58 (by decide +kernel) rfl
theorem co_yX6_stage : Cond.code yX6_stage cX6_stage 2 (some .int) ∈ zT := zt_4 59 (by decide +kernel) rfl
theorem ml_RL_145 : Cond.methodLink RL 145 yX7_stage ∈ zT := zt_5 194 (by decide +kernel) rfl
theorem im_yX7_stage : Cond.instanceMethod yX7_stage ∈ zT := zt_5 195 (by decide +kernel) rfl
theorem se_yX7_stage : Cond.selects RX7 yX7_stage yX7_stage ∈ zT := zt_5 196 (by decide +kernel) rfl
theorem co_yX7_stage : Cond.code yX7_stage cX7_stage 2 (some .int) ∈ zT := zt_5 197 (by decide +kernel) rfl
theorem ml_RL_146 : Cond.methodLink RL 146 yL_daysIn ∈ zT := zt_4 60 (by decide +kernel) rfl
theorem sm_yL_daysIn : Cond.static yL_daysIn ∈ zT := zt_4 61 (by decide +kernel) rfl
theorem cw_yL_daysIn : Cond.codeWith yL_daysIn cL_daysIn 5 (some .int) [(0, 10, 13, 21), (0, 10, 17, 13)] ∈ zT := zt_4 62 (by decide +kernel) rfl
theorem ml_RL_56 : Cond.methodLink RL 56 yX6_daysIn ∈ zT := zt_4 63 (by decide +kernel) rfl
theorem im_yX6_daysIn : Cond.instanceMethod yX6_daysIn ∈ zT := zt_4 64 (by decide +kernel) rfl
theorem se_yX6_daysIn : Cond.selects RX6 yX6_daysIn yX6_daysIn ∈ zT := zt_4 65 (by decide +kernel) rfl
theorem co_yX6_daysIn : Cond.code yX6_daysIn cX6_daysIn 5 (some .int) ∈ zT := zt_4 66 (by decide +kernel) rfl
theorem ml_RL_148 : Cond.methodLink RL 148 yX7_daysIn ∈ zT := zt_5 198 (by decide +kernel) rfl
theorem im_yX7_daysIn : Cond.instanceMethod yX7_daysIn ∈ zT := zt_5 199 (by decide +kernel) rfl
theorem se_yX7_daysIn : Cond.selects RX7 yX7_daysIn yX7_daysIn ∈ zT := zt_5 200 (by decide +kernel) rfl
theorem co_yX7_daysIn : Cond.code yX7_daysIn cX7_daysIn 3 (some .int) ∈ zT := zt_5 201 (by decide +kernel) rfl
theorem ml_RL_149 : Cond.methodLink RL 149 yL_stalled ∈ zT := zt_4 67 (by decide +kernel) rfl
theorem sm_yL_stalled : Cond.static yL_stalled ∈ zT := zt_4 68 (by decide +kernel) rfl
theorem cw_yL_stalled : Cond.codeWith yL_stalled cL_stalled 4 (some .int) [(0, 9, 12, 13)] ∈ zT := zt_4 69 (by decide +kernel) rfl
theorem ml_RL_59 : Cond.methodLink RL 59 yX6_stalled ∈ zT := zt_4 70 (by decide +kernel) rfl
theorem im_yX6_stalled : Cond.instanceMethod yX6_stalled ∈ zT := zt_4 71 (by decide +kernel) rfl
theorem se_yX6_stalled : Cond.selects RX6 yX6_stalled yX6_stalled ∈ zT := zt_4 72 (by decide +kernel) rfl
theorem co_yX6_stalled : Cond.code yX6_stalled cX6_stalled 5 (some .int) ∈ zT := zt_4 73 (by decide +kernel) rfl
theorem ml_RL_151 : Cond.methodLink RL 151 yX7_stalled ∈ zT := zt_5 202 (by decide +kernel) rfl
theorem im_yX7_stalled : Cond.instanceMethod yX7_stalled ∈ zT := zt_5 203 (by decide +kernel) rfl
theorem se_yX7_stalled : Cond.selects RX7 yX7_stalled yX7_stalled ∈ zT := zt_5 204 (by decide +kernel) rfl
theorem co_yX7_stalled : Cond.code yX7_stalled cX7_stalled 5 (some .int) ∈ zT := zt_5 205 (by decide +kernel) rfl
theorem ml_RL_152 : Cond.methodLink RL 152 yL_worth ∈ zT := zt_4 74 (by decide +kernel) rfl
theorem sm_yL_worth : Cond.static yL_worth ∈ zT := zt_4 75 (by decide +kernel) rfl
theorem cw_yL_worth : Cond.codeWith yL_worth cL_worth 4 (some .int) [(0, 9, 12, 21)] ∈ zT := zt_4 76 (by decide +kernel) rfl
theorem ml_RL_62 : Cond.methodLink RL 62 yX6_worth ∈ zT := zt_4 77 (by decide +kernel) rfl
theorem im_yX6_worth : Cond.instanceMethod yX6_worth ∈ zT := zt_4 78 (by decide +kernel) rfl
theorem se_yX6_worth : Cond.selects RX6 yX6_worth yX6_worth ∈ zT := zt_4 79 (by decide +kernel) rfl
theorem co_yX6_worth : Cond.code yX6_worth cX6_worth 2 (some .int) ∈ zT := zt_4 80 (by decide +kernel) rfl
theorem ml_RX6_174 : Cond.methodLink RX6 174 yX6_worthNow ∈ zT := zt_4 81 (by decide +kernel) rfl
theorem sm_yX6_worthNow : Cond.static yX6_worthNow ∈ zT := zt_4 82 (by decide +kernel) rfl
theorem co_yX6_worthNow : Cond.code yX6_worthNow cX6_worthNow 2 (some .int) ∈ zT := zt_4 83 (by decide +kernel) rfl
theorem fl_RX6_288 : Cond.fieldLink RX6 288 "SalesDesk$Chance" "amount" "I" ∈ zT := zt_3 224 (by decide +kernel) rfl
theorem fl_RX6_285 : Cond.fieldLink RX6 285 "SalesDesk$Quote" "discount" "I" ∈ zT := zt_4 127 (by decide +kernel) rfl
theorem ml_RX6_291 : Cond.methodLink RX6 291 yX6_hundredths ∈ zT := zt_4 84 (by decide +kernel) rfl
theorem sm_yX6_hundredths : Cond.static yX6_hundredths ∈ zT := zt_4 85 (by decide +kernel) rfl
theorem co_yX6_hundredths : Cond.code yX6_hundredths cX6_hundredths 2 (some .int) ∈ zT := zt_4 86 (by decide +kernel) rfl
theorem ml_RL_154 : Cond.methodLink RL 154 yX7_worth ∈ zT := zt_5 206 (by decide +kernel) rfl
theorem im_yX7_worth : Cond.instanceMethod yX7_worth ∈ zT := zt_5 207 (by decide +kernel) rfl
theorem se_yX7_worth : Cond.selects RX7 yX7_worth yX7_worth ∈ zT := zt_5 208 (by decide +kernel) rfl
theorem co_yX7_worth : Cond.code yX7_worth cX7_worth 2 (some .int) ∈ zT := zt_5 209 (by decide +kernel) rfl
theorem ml_RX7_143 : Cond.methodLink RX7 143 yX7_worthOf ∈ zT := zt_5 210 (by decide +kernel) rfl
theorem im_yX7_worthOf : Cond.instanceMethod yX7_worthOf ∈ zT := zt_5 212 (by decide +kernel) rfl
theorem se_yX7_worthOf : Cond.selects RX7 yX7_worthOf yX7_worthOf ∈ zT := zt_p 26 (by decide +kernel) rfl
theorem co_yX7_worthOf : Cond.code yX7_worthOf cX7_worthOf 3 (some .int) ∈ zT := zt_5 213 (by decide +kernel) rfl
theorem ml_RL_155 : Cond.methodLink RL 155 yL_inRegion ∈ zT := zt_4 87 (by decide +kernel) rfl
theorem sm_yL_inRegion : Cond.static yL_inRegion ∈ zT := zt_4 88 (by decide +kernel) rfl
theorem cw_yL_inRegion : Cond.codeWith yL_inRegion cL_inRegion 5 (some .int) [(0, 10, 13, 13)] ∈ zT := zt_4 89 (by decide +kernel) rfl
theorem ml_RL_65 : Cond.methodLink RL 65 yX6_inRegion ∈ zT := zt_4 90 (by decide +kernel) rfl
theorem im_yX6_inRegion : Cond.instanceMethod yX6_inRegion ∈ zT := zt_4 91 (by decide +kernel) rfl
theorem se_yX6_inRegion : Cond.selects RX6 yX6_inRegion yX6_inRegion ∈ zT := zt_4 92 (by decide +kernel) rfl
theorem co_yX6_inRegion : Cond.code yX6_inRegion cX6_inRegion 6 (some .int) ∈ zT := zt_4 93 (by decide +kernel) rfl
theorem ml_RX6_178 : Cond.methodLink RX6 178 yX6_regionFor ∈ zT := zt_4 94 (by decide +kernel) rfl
theorem im_yX6_regionFor : Cond.instanceMethod yX6_regionFor ∈ zT := zt_4 96 (by decide +kernel) rfl
theorem se_yX6_regionFor : Cond.selects RX6 yX6_regionFor yX6_regionFor ∈ zT := zt_p 12 (by decide +kernel) rfl
theorem co_yX6_regionFor : Cond.code yX6_regionFor cX6_regionFor 2 (some .int) ∈ zT := zt_4 97 (by decide +kernel) rfl
theorem ml_RL_157 : Cond.methodLink RL 157 yX7_inRegion ∈ zT := zt_5 214 (by decide +kernel) rfl
theorem im_yX7_inRegion : Cond.instanceMethod yX7_inRegion ∈ zT := zt_5 215 (by decide +kernel) rfl
theorem se_yX7_inRegion : Cond.selects RX7 yX7_inRegion yX7_inRegion ∈ zT := zt_5 216 (by decide +kernel) rfl
theorem co_yX7_inRegion : Cond.code yX7_inRegion cX7_inRegion 7 (some .int) ∈ zT := zt_5 217 (by decide +kernel) rfl
theorem ml_RL_158 : Cond.methodLink RL 158 yL_won ∈ zT := zt_4 98 (by decide +kernel) rfl
theorem sm_yL_won : Cond.static yL_won ∈ zT := zt_4 99 (by decide +kernel) rfl
theorem cw_yL_won : Cond.codeWith yL_won cL_won 4 (some .int) [(0, 9, 12, 21)] ∈ zT := zt_4 100 (by decide +kernel) rfl
theorem ml_RL_68 : Cond.methodLink RL 68 yX6_won ∈ zT := zt_4 101 (by decide +kernel) rfl
theorem im_yX6_won : Cond.instanceMethod yX6_won ∈ zT := zt_4 102 (by decide +kernel) rfl
theorem se_yX6_won : Cond.selects RX6 yX6_won yX6_won ∈ zT := zt_4 103 (by decide +kernel) rfl
theorem co_yX6_won : Cond.code yX6_won cX6_won 6 (some .int) ∈ zT := zt_4 104 (by decide +kernel) rfl
theorem ml_RX6_181 : Cond.methodLink RX6 181 yX6_isInTree ∈ zT := zt_4 105 (by decide +kernel) rfl
theorem sm_yX6_isInTree : Cond.static yX6_isInTree ∈ zT := zt_4 106 (by decide +kernel) rfl
theorem co_yX6_isInTree : Cond.code yX6_isInTree cX6_isInTree 3 (some .boolean) ∈ zT := zt_4 107 (by decide +kernel) rfl
theorem ml_RL_160 : Cond.methodLink RL 160 yX7_won ∈ zT := zt_5 218 (by decide +kernel) rfl
theorem im_yX7_won : Cond.instanceMethod yX7_won ∈ zT := zt_5 219 (by decide +kernel) rfl
theorem se_yX7_won : Cond.selects RX7 yX7_won yX7_won ∈ zT := zt_5 220 (by decide +kernel) rfl
theorem co_yX7_won : Cond.code yX7_won cX7_won 6 (some .int) ∈ zT := zt_5 221 (by decide +kernel) rfl
theorem ml_RL_161 : Cond.methodLink RL 161 yL_quote ∈ zT := zt_4 108 (by decide +kernel) rfl
theorem sm_yL_quote : Cond.static yL_quote ∈ zT := zt_4 109 (by decide +kernel) rfl
theorem cw_yL_quote : Cond.codeWith yL_quote cL_quote 6 (some .int) [(0, 12, 15, 21), (0, 12, 19, 13), (0, 12, 23, 15)] ∈ zT := zt_4 110 (by decide +kernel) rfl
theorem ml_RL_71 : Cond.methodLink RL 71 yX6_quote ∈ zT := zt_4 111 (by decide +kernel) rfl
theorem im_yX6_quote : Cond.instanceMethod yX6_quote ∈ zT := zt_4 112 (by decide +kernel) rfl
theorem se_yX6_quote : Cond.selects RX6 yX6_quote yX6_quote ∈ zT := zt_4 113 (by decide +kernel) rfl
theorem co_yX6_quote : Cond.code yX6_quote cX6_quote 7 (some .int) ∈ zT := zt_4 114 (by decide +kernel) rfl
theorem kl_RX6_185 : Cond.classLink RX6 185 RX3 ∈ zT := zt_1 110 (by decide +kernel) rfl
theorem ist_RX3 : Cond.instantiable RX3 5 ∈ zT := zt_4 115 (by decide +kernel) rfl
theorem ini_RX3 : Cond.initialized RX3 ∈ zT := zt_1 29 (by decide +kernel) rfl
theorem fl_RX6_190 : Cond.fieldLink RX6 190 "SalesDesk$Seller" "limit" "I" ∈ zT := zt_3 187 (by decide +kernel) rfl
theorem fl_RX6_197 : Cond.fieldLink RX6 197 "SalesDesk$Quote" "number" "I" ∈ zT := zt_4 121 (by decide +kernel) rfl
theorem ml_RX6_187 : Cond.methodLink RX6 187 yX3_init ∈ zT := zt_4 116 (by decide +kernel) rfl
theorem im_yX3_init : Cond.instanceMethod yX3_init ∈ zT := zt_4 117 (by decide +kernel) rfl
theorem co_yX3_init : Cond.code yX3_init cX3_init 5 none ∈ zT := zt_4 118 (by decide +kernel) rfl
theorem ml_RX3_1 : Cond.methodLink RX3 1 objectInit ∈ zT := zt_4 119 (by decide +kernel) rfl
theorem fl_RX3_7 : Cond.fieldLink RX3 7 "SalesDesk$Quote" "approved" "Z" ∈ zT := zt_4 128 (by decide +kernel) rfl
theorem fl_RX3_13 : Cond.fieldLink RX3 13 "SalesDesk$Quote" "number" "I" ∈ zT := zt_4 120 (by decide +kernel) rfl
theorem fl_RX3_17 : Cond.fieldLink RX3 17 "SalesDesk$Quote" "chance" "LSalesDesk$Chance;" ∈ zT := zt_4 122 (by decide +kernel) rfl
theorem fl_RX3_21 : Cond.fieldLink RX3 21 "SalesDesk$Quote" "maker" "LSalesDesk$Seller;" ∈ zT := zt_4 124 (by decide +kernel) rfl
theorem fl_RX3_25 : Cond.fieldLink RX3 25 "SalesDesk$Quote" "discount" "I" ∈ zT := zt_4 126 (by decide +kernel) rfl
theorem ml_RX6_193 : Cond.methodLink RX6 193 yX6_letCount ∈ zT := zt_4 141 (by decide +kernel) rfl
theorem sm_yX6_letCount : Cond.static yX6_letCount ∈ zT := zt_4 142 (by decide +kernel) rfl
theorem co_yX6_letCount : Cond.code yX6_letCount cX6_letCount 1 none ∈ zT := zt_4 143 (by decide +kernel) rfl
theorem fl_RX6_206 : Cond.fieldLink RX6 206 "SalesDesk$Quote" "approved" "Z" ∈ zT := zt_4 129 (by decide +kernel) rfl
theorem fl_RX6_202 : Cond.fieldLink RX6 202 "SalesDesk$Quote" "chance" "LSalesDesk$Chance;" ∈ zT := zt_4 123 (by decide +kernel) rfl
theorem ml_RL_163 : Cond.methodLink RL 163 yX7_quote ∈ zT := zt_5 222 (by decide +kernel) rfl
theorem im_yX7_quote : Cond.instanceMethod yX7_quote ∈ zT := zt_5 223 (by decide +kernel) rfl
theorem se_yX7_quote : Cond.selects RX7 yX7_quote yX7_quote ∈ zT := zt_5 224 (by decide +kernel) rfl
theorem co_yX7_quote : Cond.code yX7_quote cX7_quote 5 (some .int) ∈ zT := zt_5 225 (by decide +kernel) rfl
theorem ml_RX7_149 : Cond.methodLink RX7 149 yX7_approves ∈ zT := zt_5 226 (by decide +kernel) rfl
theorem im_yX7_approves : Cond.instanceMethod yX7_approves ∈ zT := zt_5 228 (by decide +kernel) rfl
theorem se_yX7_approves : Cond.selects RX7 yX7_approves yX7_approves ∈ zT := zt_p 27 (by decide +kernel) rfl
theorem co_yX7_approves : Cond.code yX7_approves cX7_approves 2 none ∈ zT := zt_5 229 (by decide +kernel) rfl
theorem fl_RX7_146 : Cond.fieldLink RX7 146 "SalesDeskModel" "approvals" "I" ∈ zT := zt_5 27 (by decide +kernel) rfl
theorem ml_RL_164 : Cond.methodLink RL 164 yL_approve ∈ zT := zt_4 144 (by decide +kernel) rfl
theorem sm_yL_approve : Cond.static yL_approve ∈ zT := zt_4 145 (by decide +kernel) rfl
theorem cw_yL_approve : Cond.codeWith yL_approve cL_approve 4 (some .int) [(0, 6, 9, 21), (0, 6, 12, 15)] ∈ zT := zt_4 146 (by decide +kernel) rfl
theorem ml_RL_74 : Cond.methodLink RL 74 yX6_approve ∈ zT := zt_4 147 (by decide +kernel) rfl
theorem im_yX6_approve : Cond.instanceMethod yX6_approve ∈ zT := zt_4 148 (by decide +kernel) rfl
theorem se_yX6_approve : Cond.selects RX6 yX6_approve yX6_approve ∈ zT := zt_4 149 (by decide +kernel) rfl
theorem co_yX6_approve : Cond.code yX6_approve cX6_approve 5 none ∈ zT := zt_4 150 (by decide +kernel) rfl
theorem ml_RX6_198 : Cond.methodLink RX6 198 yX6_quoteAt ∈ zT := zt_4 151 (by decide +kernel) rfl
theorem im_yX6_quoteAt : Cond.instanceMethod yX6_quoteAt ∈ zT := zt_4 153 (by decide +kernel) rfl
theorem se_yX6_quoteAt : Cond.selects RX6 yX6_quoteAt yX6_quoteAt ∈ zT := zt_p 13 (by decide +kernel) rfl
theorem co_yX6_quoteAt : Cond.code yX6_quoteAt cX6_quoteAt 2 (some (.object "SalesDesk$Quote")) ∈ zT := zt_4 154 (by decide +kernel) rfl
theorem ml_RX6_210 : Cond.methodLink RX6 210 yX6_canApprove ∈ zT := zt_4 156 (by decide +kernel) rfl
theorem sm_yX6_canApprove : Cond.static yX6_canApprove ∈ zT := zt_4 157 (by decide +kernel) rfl
theorem co_yX6_canApprove : Cond.code yX6_canApprove cX6_canApprove 2 (some .boolean) ∈ zT := zt_4 158 (by decide +kernel) rfl
theorem fl_RX6_275 : Cond.fieldLink RX6 275 "SalesDesk$Quote" "maker" "LSalesDesk$Seller;" ∈ zT := zt_4 125 (by decide +kernel) rfl
theorem fl_RX6_279 : Cond.fieldLink RX6 279 "SalesDesk$Seller" "above" "LSalesDesk$Seller;" ∈ zT := zt_3 185 (by decide +kernel) rfl
theorem ml_RX6_281 : Cond.methodLink RX6 281 yX6_isInTeam ∈ zT := zt_4 159 (by decide +kernel) rfl
theorem sm_yX6_isInTeam : Cond.static yX6_isInTeam ∈ zT := zt_4 160 (by decide +kernel) rfl
theorem co_yX6_isInTeam : Cond.code yX6_isInTeam cX6_isInTeam 3 (some .boolean) ∈ zT := zt_4 161 (by decide +kernel) rfl
theorem ml_RL_167 : Cond.methodLink RL 167 yX7_approve ∈ zT := zt_5 230 (by decide +kernel) rfl
theorem im_yX7_approve : Cond.instanceMethod yX7_approve ∈ zT := zt_5 231 (by decide +kernel) rfl
theorem se_yX7_approve : Cond.selects RX7 yX7_approve yX7_approve ∈ zT := zt_5 232 (by decide +kernel) rfl
theorem co_yX7_approve : Cond.code yX7_approve cX7_approve 5 none ∈ zT := zt_5 233 (by decide +kernel) rfl
theorem ml_RX7_153 : Cond.methodLink RX7 153 yX7_isAbove ∈ zT := zt_5 234 (by decide +kernel) rfl
theorem im_yX7_isAbove : Cond.instanceMethod yX7_isAbove ∈ zT := zt_5 236 (by decide +kernel) rfl
theorem se_yX7_isAbove : Cond.selects RX7 yX7_isAbove yX7_isAbove ∈ zT := zt_p 28 (by decide +kernel) rfl
theorem co_yX7_isAbove : Cond.code yX7_isAbove cX7_isAbove 4 (some .boolean) ∈ zT := zt_5 237 (by decide +kernel) rfl
theorem ml_RL_168 : Cond.methodLink RL 168 yL_counting ∈ zT := zt_4 163 (by decide +kernel) rfl
theorem sm_yL_counting : Cond.static yL_counting ∈ zT := zt_4 164 (by decide +kernel) rfl
theorem cw_yL_counting : Cond.codeWith yL_counting cL_counting 4 (some .int) [(0, 9, 12, 21), (0, 9, 15, 81)] ∈ zT := zt_4 165 (by decide +kernel) rfl
theorem kl_RL_81 : Cond.classLink RL 81 "java/util/NoSuchElementException" ∈ zT := zt_4 166 (by decide +kernel) rfl
theorem ml_RL_78 : Cond.methodLink RL 78 yX6_counting ∈ zT := zt_4 167 (by decide +kernel) rfl
theorem im_yX6_counting : Cond.instanceMethod yX6_counting ∈ zT := zt_4 168 (by decide +kernel) rfl
theorem se_yX6_counting : Cond.selects RX6 yX6_counting yX6_counting ∈ zT := zt_4 169 (by decide +kernel) rfl
theorem co_yX6_counting : Cond.code yX6_counting cX6_counting 3 (some .int) ∈ zT := zt_4 170 (by decide +kernel) rfl
theorem kl_RX6_220 : Cond.classLink RX6 220 "java/util/NoSuchElementException" ∈ zT := zt_4 171 (by decide +kernel) rfl
theorem ini_NoSuchElementException : Cond.initialized "java/util/NoSuchElementException" ∈ zT := zt_1 30 (by decide +kernel) rfl
theorem ml_RL_170 : Cond.methodLink RL 170 yX7_counting ∈ zT := zt_5 238 (by decide +kernel) rfl
theorem im_yX7_counting : Cond.instanceMethod yX7_counting ∈ zT := zt_5 239 (by decide +kernel) rfl
theorem se_yX7_counting : Cond.selects RX7 yX7_counting yX7_counting ∈ zT := zt_6 0 (by decide +kernel) rfl
theorem co_yX7_counting : Cond.code yX7_counting cX7_counting 4 (some .int) ∈ zT := zt_6 1 (by decide +kernel) rfl
theorem ml_RL_171 : Cond.methodLink RL 171 yX6_waiting ∈ zT := zt_1 88 (by decide +kernel) rfl
theorem im_yX6_waiting : Cond.instanceMethod yX6_waiting ∈ zT := zt_1 89 (by decide +kernel) rfl
theorem se_yX6_waiting : Cond.selects RX6 yX6_waiting yX6_waiting ∈ zT := zt_1 90 (by decide +kernel) rfl
theorem co_yX6_waiting : Cond.code yX6_waiting cX6_waiting 4 (some .int) ∈ zT := zt_1 91 (by decide +kernel) rfl
theorem ml_RL_174 : Cond.methodLink RL 174 yX7_waiting ∈ zT := zt_6 2 (by decide +kernel) rfl
theorem im_yX7_waiting : Cond.instanceMethod yX7_waiting ∈ zT := zt_6 3 (by decide +kernel) rfl
theorem se_yX7_waiting : Cond.selects RX7 yX7_waiting yX7_waiting ∈ zT := zt_6 4 (by decide +kernel) rfl
theorem co_yX7_waiting : Cond.code yX7_waiting cX7_waiting 3 (some .int) ∈ zT := zt_6 5 (by decide +kernel) rfl
theorem ml_RL_175 : Cond.methodLink RL 175 yL_forecast ∈ zT := zt_4 187 (by decide +kernel) rfl
theorem sm_yL_forecast : Cond.static yL_forecast ∈ zT := zt_4 188 (by decide +kernel) rfl
theorem cw_yL_forecast : Cond.codeWith yL_forecast cL_forecast 4 (some .int) [(0, 9, 12, 21)] ∈ zT := zt_4 189 (by decide +kernel) rfl
theorem ml_RL_83 : Cond.methodLink RL 83 yX6_forecast ∈ zT := zt_4 190 (by decide +kernel) rfl
theorem im_yX6_forecast : Cond.instanceMethod yX6_forecast ∈ zT := zt_4 191 (by decide +kernel) rfl
theorem se_yX6_forecast : Cond.selects RX6 yX6_forecast yX6_forecast ∈ zT := zt_4 192 (by decide +kernel) rfl
theorem co_yX6_forecast : Cond.code yX6_forecast cX6_forecast 2 (some .int) ∈ zT := zt_4 193 (by decide +kernel) rfl
theorem ml_RX6_225 : Cond.methodLink RX6 225 yX6_forecastNow ∈ zT := zt_4 194 (by decide +kernel) rfl
theorem im_yX6_forecastNow : Cond.instanceMethod yX6_forecastNow ∈ zT := zt_4 196 (by decide +kernel) rfl
theorem se_yX6_forecastNow : Cond.selects RX6 yX6_forecastNow yX6_forecastNow ∈ zT := zt_p 14 (by decide +kernel) rfl
theorem co_yX6_forecastNow : Cond.code yX6_forecastNow cX6_forecastNow 5 (some .int) ∈ zT := zt_4 197 (by decide +kernel) rfl
theorem ml_RX6_229 : Cond.methodLink RX6 229 yX6_ownNow ∈ zT := zt_4 198 (by decide +kernel) rfl
theorem im_yX6_ownNow : Cond.instanceMethod yX6_ownNow ∈ zT := zt_4 200 (by decide +kernel) rfl
theorem se_yX6_ownNow : Cond.selects RX6 yX6_ownNow yX6_ownNow ∈ zT := zt_p 15 (by decide +kernel) rfl
theorem co_yX6_ownNow : Cond.code yX6_ownNow cX6_ownNow 6 (some .int) ∈ zT := zt_4 201 (by decide +kernel) rfl
theorem fl_RX6_295 : Cond.fieldLink RX6 295 "SalesDesk" "WEIGHTS" "[I" ∈ zT := zt_4 202 (by decide +kernel) rfl
theorem ml_RL_177 : Cond.methodLink RL 177 yX7_forecast ∈ zT := zt_6 6 (by decide +kernel) rfl
theorem im_yX7_forecast : Cond.instanceMethod yX7_forecast ∈ zT := zt_6 7 (by decide +kernel) rfl
theorem se_yX7_forecast : Cond.selects RX7 yX7_forecast yX7_forecast ∈ zT := zt_6 8 (by decide +kernel) rfl
theorem co_yX7_forecast : Cond.code yX7_forecast cX7_forecast 2 (some .int) ∈ zT := zt_6 9 (by decide +kernel) rfl
theorem ml_RX7_162 : Cond.methodLink RX7 162 yX7_forecastOf ∈ zT := zt_6 10 (by decide +kernel) rfl
theorem im_yX7_forecastOf : Cond.instanceMethod yX7_forecastOf ∈ zT := zt_6 12 (by decide +kernel) rfl
theorem se_yX7_forecastOf : Cond.selects RX7 yX7_forecastOf yX7_forecastOf ∈ zT := zt_p 29 (by decide +kernel) rfl
theorem co_yX7_forecastOf : Cond.code yX7_forecastOf cX7_forecastOf 4 (some .int) ∈ zT := zt_6 13 (by decide +kernel) rfl
theorem ml_RX7_159 : Cond.methodLink RX7 159 yX7_ownOf ∈ zT := zt_6 14 (by decide +kernel) rfl
theorem im_yX7_ownOf : Cond.instanceMethod yX7_ownOf ∈ zT := zt_6 16 (by decide +kernel) rfl
theorem se_yX7_ownOf : Cond.selects RX7 yX7_ownOf yX7_ownOf ∈ zT := zt_p 30 (by decide +kernel) rfl
theorem co_yX7_ownOf : Cond.code yX7_ownOf cX7_ownOf 5 (some .int) ∈ zT := zt_6 17 (by decide +kernel) rfl
theorem ml_RX7_156 : Cond.methodLink RX7 156 yX7_weight ∈ zT := zt_6 18 (by decide +kernel) rfl
theorem sm_yX7_weight : Cond.static yX7_weight ∈ zT := zt_6 19 (by decide +kernel) rfl
theorem co_yX7_weight : Cond.code yX7_weight cX7_weight 1 (some .int) ∈ zT := zt_6 20 (by decide +kernel) rfl
theorem ml_RL_178 : Cond.methodLink RL 178 yL_own ∈ zT := zt_4 204 (by decide +kernel) rfl
theorem sm_yL_own : Cond.static yL_own ∈ zT := zt_4 205 (by decide +kernel) rfl
theorem cw_yL_own : Cond.codeWith yL_own cL_own 4 (some .int) [(0, 9, 12, 21)] ∈ zT := zt_4 206 (by decide +kernel) rfl
theorem ml_RL_86 : Cond.methodLink RL 86 yX6_own ∈ zT := zt_4 207 (by decide +kernel) rfl
theorem im_yX6_own : Cond.instanceMethod yX6_own ∈ zT := zt_4 208 (by decide +kernel) rfl
theorem se_yX6_own : Cond.selects RX6 yX6_own yX6_own ∈ zT := zt_4 209 (by decide +kernel) rfl
theorem co_yX6_own : Cond.code yX6_own cX6_own 2 (some .int) ∈ zT := zt_4 210 (by decide +kernel) rfl
theorem ml_RL_180 : Cond.methodLink RL 180 yX7_own ∈ zT := zt_6 21 (by decide +kernel) rfl
theorem im_yX7_own : Cond.instanceMethod yX7_own ∈ zT := zt_6 22 (by decide +kernel) rfl
theorem se_yX7_own : Cond.selects RX7 yX7_own yX7_own ∈ zT := zt_6 23 (by decide +kernel) rfl
theorem co_yX7_own : Cond.code yX7_own cX7_own 2 (some .int) ∈ zT := zt_6 24 (by decide +kernel) rfl
theorem ml_RL_181 : Cond.methodLink RL 181 yL_freeze ∈ zT := zt_4 211 (by decide +kernel) rfl
theorem sm_yL_freeze : Cond.static yL_freeze ∈ zT := zt_4 212 (by decide +kernel) rfl
theorem cw_yL_freeze : Cond.codeWith yL_freeze cL_freeze 3 (some .int) [(0, 8, 11, 15)] ∈ zT := zt_4 213 (by decide +kernel) rfl
theorem ml_RL_89 : Cond.methodLink RL 89 yX6_freeze ∈ zT := zt_4 214 (by decide +kernel) rfl
theorem im_yX6_freeze : Cond.instanceMethod yX6_freeze ∈ zT := zt_4 215 (by decide +kernel) rfl
theorem se_yX6_freeze : Cond.selects RX6 yX6_freeze yX6_freeze ∈ zT := zt_4 216 (by decide +kernel) rfl
theorem co_yX6_freeze : Cond.code yX6_freeze cX6_freeze 4 (some .int) ∈ zT := zt_4 217 (by decide +kernel) rfl
theorem kl_RX6_232 : Cond.classLink RX6 232 RX2 ∈ zT := zt_4 218 (by decide +kernel) rfl
theorem ist_RX2 : Cond.instantiable RX2 1 ∈ zT := zt_4 219 (by decide +kernel) rfl
theorem ini_RX2 : Cond.initialized RX2 ∈ zT := zt_1 31 (by decide +kernel) rfl
theorem fl_RX6_235 : Cond.fieldLink RX6 235 "SalesDesk$Freeze" "forecasts" "[I" ∈ zT := zt_4 225 (by decide +kernel) rfl
theorem im_yX2_init : Cond.instanceMethod yX2_init ∈ zT := zt_4 221 (by decide +kernel) rfl
theorem co_yX2_init : Cond.code yX2_init cX2_init 1 none ∈ zT := zt_4 222 (by decide +kernel) rfl
theorem ml_RX2_3 : Cond.methodLink RX2 3 objectInit ∈ zT := zt_4 223 (by decide +kernel) rfl
theorem fl_RX2_9 : Cond.fieldLink RX2 9 "SalesDesk$Freeze" "forecasts" "[I" ∈ zT := zt_4 224 (by decide +kernel) rfl
theorem ml_RL_184 : Cond.methodLink RL 184 yX7_freeze ∈ zT := zt_6 25 (by decide +kernel) rfl
theorem im_yX7_freeze : Cond.instanceMethod yX7_freeze ∈ zT := zt_6 26 (by decide +kernel) rfl
theorem se_yX7_freeze : Cond.selects RX7 yX7_freeze yX7_freeze ∈ zT := zt_6 27 (by decide +kernel) rfl
theorem co_yX7_freeze : Cond.code yX7_freeze cX7_freeze 2 (some .int) ∈ zT := zt_6 28 (by decide +kernel) rfl
theorem fl_RX7_165 : Cond.fieldLink RX7 165 "SalesDeskModel" "freezes" "I" ∈ zT := zt_5 32 (by decide +kernel) rfl
theorem ml_RL_185 : Cond.methodLink RL 185 yL_since ∈ zT := zt_4 229 (by decide +kernel) rfl
theorem sm_yL_since : Cond.static yL_since ∈ zT := zt_4 230 (by decide +kernel) rfl
theorem cw_yL_since : Cond.codeWith yL_since cL_since 5 (some .int) [(0, 10, 13, 21)] ∈ zT := zt_4 231 (by decide +kernel) rfl
theorem ml_RL_93 : Cond.methodLink RL 93 yX6_since ∈ zT := zt_4 232 (by decide +kernel) rfl
theorem im_yX6_since : Cond.instanceMethod yX6_since ∈ zT := zt_4 233 (by decide +kernel) rfl
theorem se_yX6_since : Cond.selects RX6 yX6_since yX6_since ∈ zT := zt_4 234 (by decide +kernel) rfl
theorem co_yX6_since : Cond.code yX6_since cX6_since 4 (some .int) ∈ zT := zt_4 235 (by decide +kernel) rfl
theorem ml_RL_187 : Cond.methodLink RL 187 yX7_since ∈ zT := zt_6 29 (by decide +kernel) rfl
theorem im_yX7_since : Cond.instanceMethod yX7_since ∈ zT := zt_6 30 (by decide +kernel) rfl
theorem se_yX7_since : Cond.selects RX7 yX7_since yX7_since ∈ zT := zt_6 31 (by decide +kernel) rfl
theorem co_yX7_since : Cond.code yX7_since cX7_since 3 (some .int) ∈ zT := zt_6 32 (by decide +kernel) rfl
theorem wn_X0 : ∀ w ∈ u_ws RX0 TX0 4, w ∈ zT := fun w h => List.mem_filter.mpr ⟨((goodIn_r (big := lw_tbl) (u_ws RX0 TX0 4) [289, 291, 293, 295] (by decide +kernel) (by decide +kernel)) w h).1, List.all_eq_true.mp (show (u_ws RX0 TX0 4).all goodWord = true by decide +kernel) w h⟩
theorem wn_X1 : ∀ w ∈ u_ws RX1 TX1 8, w ∈ zT := fun w h => List.mem_filter.mpr ⟨((goodIn_r (big := lw_tbl) (u_ws RX1 TX1 8) [748, 750, 752, 754, 756, 758, 760, 762] (by decide +kernel) (by decide +kernel)) w h).1, List.all_eq_true.mp (show (u_ws RX1 TX1 8).all goodWord = true by decide +kernel) w h⟩
theorem wn_X2 : ∀ w ∈ u_ws RX2 TX2 1, w ∈ zT := fun w h => List.mem_filter.mpr ⟨((goodIn_r (big := lw_tbl) (u_ws RX2 TX2 1) [977] (by decide +kernel) (by decide +kernel)) w h).1, List.all_eq_true.mp (show (u_ws RX2 TX2 1).all goodWord = true by decide +kernel) w h⟩
theorem wn_X3 : ∀ w ∈ u_ws RX3 TX3 5, w ∈ zT := fun w h => List.mem_filter.mpr ⟨((goodIn_r (big := lw_tbl) (u_ws RX3 TX3 5) [881, 883, 885, 887, 889] (by decide +kernel) (by decide +kernel)) w h).1, List.all_eq_true.mp (show (u_ws RX3 TX3 5).all goodWord = true by decide +kernel) w h⟩
theorem wn_X4 : ∀ w ∈ u_ws RX4 TX4 4, w ∈ zT := fun w h => List.mem_filter.mpr ⟨((goodIn_r (big := lw_tbl) (u_ws RX4 TX4 4) [382, 384, 386, 388] (by decide +kernel) (by decide +kernel)) w h).1, List.all_eq_true.mp (show (u_ws RX4 TX4 4).all goodWord = true by decide +kernel) w h⟩
theorem wn_X5 : ∀ w ∈ u_ws RX5 TX5 4, w ∈ zT := fun w h => List.mem_filter.mpr ⟨((goodIn_r (big := lw_tbl) (u_ws RX5 TX5 4) [701, 703, 705, 707] (by decide +kernel) (by decide +kernel)) w h).1, List.all_eq_true.mp (show (u_ws RX5 TX5 4).all goodWord = true by decide +kernel) w h⟩
theorem wn_X6 : ∀ w ∈ u_ws RX6 TX6 7, w ∈ zT := fun w h => List.mem_filter.mpr ⟨((goodIn_r (big := lw_tbl) (u_ws RX6 TX6 7) [104, 106, 108, 110, 112, 114, 116] (by decide +kernel) (by decide +kernel)) w h).1, List.all_eq_true.mp (show (u_ws RX6 TX6 7).all goodWord = true by decide +kernel) w h⟩
theorem wn_X7 : ∀ w ∈ u_ws RX7 TX7 32, w ∈ zT := fun w h => List.mem_filter.mpr ⟨((goodIn_r (big := lw_tbl) (u_ws RX7 TX7 32) [1026, 1028, 1030, 1032, 1034, 1036, 1038, 1040, 1042, 1044, 1046, 1048, 1050, 1052, 1054, 1056, 1058, 1060, 1062, 1064, 1066, 1068, 1070, 1072, 1074, 1076, 1078, 1080, 1082, 1084, 1086, 1088] (by decide +kernel) (by decide +kernel)) w h).1, List.all_eq_true.mp (show (u_ws RX7 TX7 32).all goodWord = true by decide +kernel) w h⟩
theorem wn_Jx4a65c : ∀ w ∈ u_ws RJx4a65c TJx4a65c 3, w ∈ zT := fun w h => List.mem_filter.mpr ⟨((goodIn_r (big := lw_tbl) (u_ws RJx4a65c TJx4a65c 3) [94, 90, 92] (by decide +kernel) (by decide +kernel)) w h).1, List.all_eq_true.mp (show (u_ws RJx4a65c TJx4a65c 3).all goodWord = true by decide +kernel) w h⟩
end
section
theorem dX0_init_0 : decode cX0_init 0 = .ok (.aload_n 0, 1) := by decide +kernel
theorem dX0_init_1 : decode cX0_init 1 = .ok (.invokespecial 3, 3) := by decide +kernel
theorem dX0_init_4 : decode cX0_init 4 = .ok (.aload_n 0, 1) := by decide +kernel
theorem dX0_init_5 : decode cX0_init 5 = .ok (.iconst (-1), 1) := by decide +kernel
theorem dX0_init_6 : decode cX0_init 6 = .ok (.putfield 9, 3) := by decide +kernel
theorem dX0_init_9 : decode cX0_init 9 = .ok (.aload_n 0, 1) := by decide +kernel
theorem dX0_init_10 : decode cX0_init 10 = .ok (.aload_n 1, 1) := by decide +kernel
theorem dX0_init_11 : decode cX0_init 11 = .ok (.putfield 15, 3) := by decide +kernel
theorem dX0_init_14 : decode cX0_init 14 = .ok (.aload_n 0, 1) := by decide +kernel
theorem dX0_init_15 : decode cX0_init 15 = .ok (.iload_n 2, 1) := by decide +kernel
theorem dX0_init_16 : decode cX0_init 16 = .ok (.putfield 19, 3) := by decide +kernel
theorem dX0_init_19 : decode cX0_init 19 = .ok (.aload_n 0, 1) := by decide +kernel
theorem dX0_init_20 : decode cX0_init 20 = .ok (.iload_n 3, 1) := by decide +kernel
theorem dX0_init_21 : decode cX0_init 21 = .ok (.putfield 22, 3) := by decide +kernel
theorem dX0_init_24 : decode cX0_init 24 = .ok (.return_, 1) := by decide +kernel
theorem dX1_init_0 : decode cX1_init 0 = .ok (.aload_n 0, 1) := by decide +kernel
theorem dX1_init_1 : decode cX1_init 1 = .ok (.invokespecial 3, 3) := by decide +kernel
theorem dX1_init_4 : decode cX1_init 4 = .ok (.aload_n 0, 1) := by decide +kernel
theorem dX1_init_5 : decode cX1_init 5 = .ok (.bipush 8, 2) := by decide +kernel
theorem dX1_init_7 : decode cX1_init 7 = .ok (.newarray .int, 2) := by decide +kernel
theorem dX1_init_9 : decode cX1_init 9 = .ok (.putfield 9, 3) := by decide +kernel
theorem dX1_init_12 : decode cX1_init 12 = .ok (.aload_n 0, 1) := by decide +kernel
theorem dX1_init_13 : decode cX1_init 13 = .ok (.bipush 6, 2) := by decide +kernel
theorem dX1_init_15 : decode cX1_init 15 = .ok (.newarray .int, 2) := by decide +kernel
theorem dX1_init_17 : decode cX1_init 17 = .ok (.putfield 15, 3) := by decide +kernel
theorem dX1_init_20 : decode cX1_init 20 = .ok (.aload_n 0, 1) := by decide +kernel
theorem dX1_init_21 : decode cX1_init 21 = .ok (.iconst 0, 1) := by decide +kernel
theorem dX1_init_22 : decode cX1_init 22 = .ok (.putfield 18, 3) := by decide +kernel
theorem dX1_init_25 : decode cX1_init 25 = .ok (.aload_n 0, 1) := by decide +kernel
theorem dX1_init_26 : decode cX1_init 26 = .ok (.iconst (-1), 1) := by decide +kernel
theorem dX1_init_27 : decode cX1_init 27 = .ok (.putfield 22, 3) := by decide +kernel
theorem dX1_init_30 : decode cX1_init 30 = .ok (.aload_n 0, 1) := by decide +kernel
theorem dX1_init_31 : decode cX1_init 31 = .ok (.aconst_null, 1) := by decide +kernel
theorem dX1_init_32 : decode cX1_init 32 = .ok (.putfield 25, 3) := by decide +kernel
theorem dX1_init_35 : decode cX1_init 35 = .ok (.aload_n 0, 1) := by decide +kernel
theorem dX1_init_36 : decode cX1_init 36 = .ok (.aload_n 1, 1) := by decide +kernel
theorem dX1_init_37 : decode cX1_init 37 = .ok (.putfield 29, 3) := by decide +kernel
theorem dX1_init_40 : decode cX1_init 40 = .ok (.aload_n 0, 1) := by decide +kernel
theorem dX1_init_41 : decode cX1_init 41 = .ok (.iload_n 2, 1) := by decide +kernel
theorem dX1_init_42 : decode cX1_init 42 = .ok (.putfield 33, 3) := by decide +kernel
theorem dX1_init_45 : decode cX1_init 45 = .ok (.aload_n 0, 1) := by decide +kernel
theorem dX1_init_46 : decode cX1_init 46 = .ok (.iload_n 3, 1) := by decide +kernel
theorem dX1_init_47 : decode cX1_init 47 = .ok (.putfield 36, 3) := by decide +kernel
theorem dX1_init_50 : decode cX1_init 50 = .ok (.return_, 1) := by decide +kernel
theorem dX2_init_0 : decode cX2_init 0 = .ok (.aload_n 0, 1) := by decide +kernel
theorem dX2_init_1 : decode cX2_init 1 = .ok (.invokespecial 3, 3) := by decide +kernel
theorem dX2_init_4 : decode cX2_init 4 = .ok (.aload_n 0, 1) := by decide +kernel
theorem dX2_init_5 : decode cX2_init 5 = .ok (.bipush 8, 2) := by decide +kernel
theorem dX2_init_7 : decode cX2_init 7 = .ok (.newarray .int, 2) := by decide +kernel
theorem dX2_init_9 : decode cX2_init 9 = .ok (.putfield 9, 3) := by decide +kernel
theorem dX2_init_12 : decode cX2_init 12 = .ok (.return_, 1) := by decide +kernel
theorem dX3_init_0 : decode cX3_init 0 = .ok (.aload_n 0, 1) := by decide +kernel
theorem dX3_init_1 : decode cX3_init 1 = .ok (.invokespecial 1, 3) := by decide +kernel
theorem dX3_init_4 : decode cX3_init 4 = .ok (.aload_n 0, 1) := by decide +kernel
theorem dX3_init_5 : decode cX3_init 5 = .ok (.iconst 0, 1) := by decide +kernel
theorem dX3_init_6 : decode cX3_init 6 = .ok (.putfield 7, 3) := by decide +kernel
theorem dX3_init_9 : decode cX3_init 9 = .ok (.aload_n 0, 1) := by decide +kernel
theorem dX3_init_10 : decode cX3_init 10 = .ok (.iload_n 1, 1) := by decide +kernel
theorem dX3_init_11 : decode cX3_init 11 = .ok (.putfield 13, 3) := by decide +kernel
theorem dX3_init_14 : decode cX3_init 14 = .ok (.aload_n 0, 1) := by decide +kernel
theorem dX3_init_15 : decode cX3_init 15 = .ok (.aload_n 2, 1) := by decide +kernel
theorem dX3_init_16 : decode cX3_init 16 = .ok (.putfield 17, 3) := by decide +kernel
theorem dX3_init_19 : decode cX3_init 19 = .ok (.aload_n 0, 1) := by decide +kernel
theorem dX3_init_20 : decode cX3_init 20 = .ok (.aload_n 3, 1) := by decide +kernel
theorem dX3_init_21 : decode cX3_init 21 = .ok (.putfield 21, 3) := by decide +kernel
theorem dX3_init_24 : decode cX3_init 24 = .ok (.aload_n 0, 1) := by decide +kernel
theorem dX3_init_25 : decode cX3_init 25 = .ok (.iload 4, 2) := by decide +kernel
theorem dX3_init_27 : decode cX3_init 27 = .ok (.putfield 25, 3) := by decide +kernel
theorem dX3_init_30 : decode cX3_init 30 = .ok (.return_, 1) := by decide +kernel
theorem dX4_init_0 : decode cX4_init 0 = .ok (.aload_n 0, 1) := by decide +kernel
theorem dX4_init_1 : decode cX4_init 1 = .ok (.invokespecial 1, 3) := by decide +kernel
theorem dX4_init_4 : decode cX4_init 4 = .ok (.aload_n 0, 1) := by decide +kernel
theorem dX4_init_5 : decode cX4_init 5 = .ok (.iload_n 1, 1) := by decide +kernel
theorem dX4_init_6 : decode cX4_init 6 = .ok (.putfield 7, 3) := by decide +kernel
theorem dX4_init_9 : decode cX4_init 9 = .ok (.aload_n 0, 1) := by decide +kernel
theorem dX4_init_10 : decode cX4_init 10 = .ok (.iload_n 2, 1) := by decide +kernel
theorem dX4_init_11 : decode cX4_init 11 = .ok (.putfield 13, 3) := by decide +kernel
theorem dX4_init_14 : decode cX4_init 14 = .ok (.aload_n 0, 1) := by decide +kernel
theorem dX4_init_15 : decode cX4_init 15 = .ok (.iload_n 3, 1) := by decide +kernel
theorem dX4_init_16 : decode cX4_init 16 = .ok (.putfield 16, 3) := by decide +kernel
theorem dX4_init_19 : decode cX4_init 19 = .ok (.aload_n 0, 1) := by decide +kernel
theorem dX4_init_20 : decode cX4_init 20 = .ok (.iload 4, 2) := by decide +kernel
theorem dX4_init_22 : decode cX4_init 22 = .ok (.putfield 19, 3) := by decide +kernel
theorem dX4_init_25 : decode cX4_init 25 = .ok (.return_, 1) := by decide +kernel
theorem dX5_init_0 : decode cX5_init 0 = .ok (.aload_n 0, 1) := by decide +kernel
theorem dX5_init_1 : decode cX5_init 1 = .ok (.invokespecial 1, 3) := by decide +kernel
theorem dX5_init_4 : decode cX5_init 4 = .ok (.aload_n 0, 1) := by decide +kernel
theorem dX5_init_5 : decode cX5_init 5 = .ok (.iconst 0, 1) := by decide +kernel
theorem dX5_init_6 : decode cX5_init 6 = .ok (.putfield 7, 3) := by decide +kernel
theorem dX5_init_9 : decode cX5_init 9 = .ok (.aload_n 0, 1) := by decide +kernel
theorem dX5_init_10 : decode cX5_init 10 = .ok (.iload_n 1, 1) := by decide +kernel
theorem dX5_init_11 : decode cX5_init 11 = .ok (.putfield 13, 3) := by decide +kernel
theorem dX5_init_14 : decode cX5_init 14 = .ok (.aload_n 0, 1) := by decide +kernel
theorem dX5_init_15 : decode cX5_init 15 = .ok (.aload_n 2, 1) := by decide +kernel
theorem dX5_init_16 : decode cX5_init 16 = .ok (.putfield 16, 3) := by decide +kernel
theorem dX5_init_19 : decode cX5_init 19 = .ok (.aload_n 0, 1) := by decide +kernel
theorem dX5_init_20 : decode cX5_init 20 = .ok (.iload_n 3, 1) := by decide +kernel
theorem dX5_init_21 : decode cX5_init 21 = .ok (.putfield 20, 3) := by decide +kernel
theorem dX5_init_24 : decode cX5_init 24 = .ok (.return_, 1) := by decide +kernel
theorem dX6_init_0 : decode cX6_init 0 = .ok (.aload_n 0, 1) := by decide +kernel
theorem dX6_init_1 : decode cX6_init 1 = .ok (.invokespecial 1, 3) := by decide +kernel
theorem dX6_init_4 : decode cX6_init 4 = .ok (.aload_n 0, 1) := by decide +kernel
theorem dX6_init_5 : decode cX6_init 5 = .ok (.new 7, 3) := by decide +kernel
theorem dX6_init_8 : decode cX6_init 8 = .ok (.dup, 1) := by decide +kernel
theorem dX6_init_9 : decode cX6_init 9 = .ok (.invokespecial 9, 3) := by decide +kernel
theorem dX6_init_12 : decode cX6_init 12 = .ok (.putfield 10, 3) := by decide +kernel
theorem dX6_init_15 : decode cX6_init 15 = .ok (.aload_n 0, 1) := by decide +kernel
theorem dX6_init_16 : decode cX6_init 16 = .ok (.new 7, 3) := by decide +kernel
theorem dX6_init_19 : decode cX6_init 19 = .ok (.dup, 1) := by decide +kernel
theorem dX6_init_20 : decode cX6_init 20 = .ok (.invokespecial 9, 3) := by decide +kernel
theorem dX6_init_23 : decode cX6_init 23 = .ok (.putfield 16, 3) := by decide +kernel
theorem dX6_init_26 : decode cX6_init 26 = .ok (.aload_n 0, 1) := by decide +kernel
theorem dX6_init_27 : decode cX6_init 27 = .ok (.new 7, 3) := by decide +kernel
theorem dX6_init_30 : decode cX6_init 30 = .ok (.dup, 1) := by decide +kernel
theorem dX6_init_31 : decode cX6_init 31 = .ok (.invokespecial 9, 3) := by decide +kernel
theorem dX6_init_34 : decode cX6_init 34 = .ok (.putfield 19, 3) := by decide +kernel
theorem dX6_init_37 : decode cX6_init 37 = .ok (.aload_n 0, 1) := by decide +kernel
theorem dX6_init_38 : decode cX6_init 38 = .ok (.new 7, 3) := by decide +kernel
theorem dX6_init_41 : decode cX6_init 41 = .ok (.dup, 1) := by decide +kernel
theorem dX6_init_42 : decode cX6_init 42 = .ok (.invokespecial 9, 3) := by decide +kernel
theorem dX6_init_45 : decode cX6_init 45 = .ok (.putfield 22, 3) := by decide +kernel
theorem dX6_init_48 : decode cX6_init 48 = .ok (.aload_n 0, 1) := by decide +kernel
theorem dX6_init_49 : decode cX6_init 49 = .ok (.new 7, 3) := by decide +kernel
theorem dX6_init_52 : decode cX6_init 52 = .ok (.dup, 1) := by decide +kernel
theorem dX6_init_53 : decode cX6_init 53 = .ok (.invokespecial 9, 3) := by decide +kernel
theorem dX6_init_56 : decode cX6_init 56 = .ok (.putfield 25, 3) := by decide +kernel
theorem dX6_init_59 : decode cX6_init 59 = .ok (.aload_n 0, 1) := by decide +kernel
theorem dX6_init_60 : decode cX6_init 60 = .ok (.new 7, 3) := by decide +kernel
theorem dX6_init_63 : decode cX6_init 63 = .ok (.dup, 1) := by decide +kernel
theorem dX6_init_64 : decode cX6_init 64 = .ok (.invokespecial 9, 3) := by decide +kernel
theorem dX6_init_67 : decode cX6_init 67 = .ok (.putfield 28, 3) := by decide +kernel
theorem dX6_init_70 : decode cX6_init 70 = .ok (.aload_n 0, 1) := by decide +kernel
theorem dX6_init_71 : decode cX6_init 71 = .ok (.iconst 0, 1) := by decide +kernel
theorem dX6_init_72 : decode cX6_init 72 = .ok (.putfield 31, 3) := by decide +kernel
theorem dX6_init_75 : decode cX6_init 75 = .ok (.return_, 1) := by decide +kernel
theorem dX6_pass_0 : decode cX6_pass 0 = .ok (.iload_n 1, 1) := by decide +kernel
theorem dX6_pass_1 : decode cX6_pass 1 = .ok (.iconst 1, 1) := by decide +kernel
theorem dX6_pass_2 : decode cX6_pass 2 = .ok (.sipush 1000, 3) := by decide +kernel
theorem dX6_pass_5 : decode cX6_pass 5 = .ok (.invokestatic 35, 3) := by decide +kernel
theorem dX6_pass_8 : decode cX6_pass 8 = .ok (.iload_n 1, 1) := by decide +kernel
theorem dX6_pass_9 : decode cX6_pass 9 = .ok (.ldc 39, 2) := by decide +kernel
theorem dX6_pass_11 : decode cX6_pass 11 = .ok (.aload_n 0, 1) := by decide +kernel
theorem dX6_pass_12 : decode cX6_pass 12 = .ok (.getfield 31, 3) := by decide +kernel
theorem dX6_pass_15 : decode cX6_pass 15 = .ok (.isub, 1) := by decide +kernel
theorem dX6_pass_16 : decode cX6_pass 16 = .ok (.if_icmp .le 13, 3) := by decide +kernel
theorem dX6_pass_19 : decode cX6_pass 19 = .ok (.new 40, 3) := by decide +kernel
theorem dX6_pass_22 : decode cX6_pass 22 = .ok (.dup, 1) := by decide +kernel
theorem dX6_pass_23 : decode cX6_pass 23 = .ok (.ldc 42, 2) := by decide +kernel
theorem dX6_pass_25 : decode cX6_pass 25 = .ok (.invokespecial 44, 3) := by decide +kernel
theorem dX6_pass_28 : decode cX6_pass 28 = .ok (.athrow, 1) := by decide +kernel
theorem dX6_pass_29 : decode cX6_pass 29 = .ok (.aload_n 0, 1) := by decide +kernel
theorem dX6_pass_30 : decode cX6_pass 30 = .ok (.dup, 1) := by decide +kernel
theorem dX6_pass_31 : decode cX6_pass 31 = .ok (.getfield 31, 3) := by decide +kernel
theorem dX6_pass_34 : decode cX6_pass 34 = .ok (.iload_n 1, 1) := by decide +kernel
theorem dX6_pass_35 : decode cX6_pass 35 = .ok (.iadd, 1) := by decide +kernel
theorem dX6_pass_36 : decode cX6_pass 36 = .ok (.putfield 31, 3) := by decide +kernel
theorem dX6_pass_39 : decode cX6_pass 39 = .ok (.aload_n 0, 1) := by decide +kernel
theorem dX6_pass_40 : decode cX6_pass 40 = .ok (.getfield 31, 3) := by decide +kernel
theorem dX6_pass_43 : decode cX6_pass 43 = .ok (.ireturn, 1) := by decide +kernel
theorem dX6_addAccount_0 : decode cX6_addAccount 0 = .ok (.iload_n 1, 1) := by decide +kernel
theorem dX6_addAccount_1 : decode cX6_addAccount 1 = .ok (.iconst (-1), 1) := by decide +kernel
theorem dX6_addAccount_2 : decode cX6_addAccount 2 = .ok (.if_icmp .ne 7, 3) := by decide +kernel
theorem dX6_addAccount_5 : decode cX6_addAccount 5 = .ok (.aconst_null, 1) := by decide +kernel
theorem dX6_addAccount_6 : decode cX6_addAccount 6 = .ok (.goto 8, 3) := by decide +kernel
theorem dX6_addAccount_9 : decode cX6_addAccount 9 = .ok (.aload_n 0, 1) := by decide +kernel
theorem dX6_addAccount_10 : decode cX6_addAccount 10 = .ok (.iload_n 1, 1) := by decide +kernel
theorem dX6_addAccount_11 : decode cX6_addAccount 11 = .ok (.invokevirtual 47, 3) := by decide +kernel
theorem dX6_addAccount_14 : decode cX6_addAccount 14 = .ok (.astore 4, 2) := by decide +kernel
theorem dX6_addAccount_16 : decode cX6_addAccount 16 = .ok (.iload_n 2, 1) := by decide +kernel
theorem dX6_addAccount_17 : decode cX6_addAccount 17 = .ok (.iconst 0, 1) := by decide +kernel
theorem dX6_addAccount_18 : decode cX6_addAccount 18 = .ok (.bipush 9, 2) := by decide +kernel
theorem dX6_addAccount_20 : decode cX6_addAccount 20 = .ok (.invokestatic 35, 3) := by decide +kernel
theorem dX6_addAccount_23 : decode cX6_addAccount 23 = .ok (.iload_n 3, 1) := by decide +kernel
theorem dX6_addAccount_24 : decode cX6_addAccount 24 = .ok (.iconst 0, 1) := by decide +kernel
theorem dX6_addAccount_25 : decode cX6_addAccount 25 = .ok (.bipush 9, 2) := by decide +kernel
theorem dX6_addAccount_27 : decode cX6_addAccount 27 = .ok (.invokestatic 35, 3) := by decide +kernel
theorem dX6_addAccount_30 : decode cX6_addAccount 30 = .ok (.aload_n 0, 1) := by decide +kernel
theorem dX6_addAccount_31 : decode cX6_addAccount 31 = .ok (.getfield 10, 3) := by decide +kernel
theorem dX6_addAccount_34 : decode cX6_addAccount 34 = .ok (.invokevirtual 51, 3) := by decide +kernel
theorem dX6_addAccount_37 : decode cX6_addAccount 37 = .ok (.bipush 16, 2) := by decide +kernel
theorem dX6_addAccount_39 : decode cX6_addAccount 39 = .ok (.invokestatic 55, 3) := by decide +kernel
theorem dX6_addAccount_42 : decode cX6_addAccount 42 = .ok (.aload_n 0, 1) := by decide +kernel
theorem dX6_addAccount_43 : decode cX6_addAccount 43 = .ok (.getfield 10, 3) := by decide +kernel
theorem dX6_addAccount_46 : decode cX6_addAccount 46 = .ok (.new 59, 3) := by decide +kernel
theorem dX6_addAccount_49 : decode cX6_addAccount 49 = .ok (.dup, 1) := by decide +kernel
theorem dX6_addAccount_50 : decode cX6_addAccount 50 = .ok (.aload 4, 2) := by decide +kernel
theorem dX6_addAccount_52 : decode cX6_addAccount 52 = .ok (.iload_n 2, 1) := by decide +kernel
theorem dX6_addAccount_53 : decode cX6_addAccount 53 = .ok (.iload_n 3, 1) := by decide +kernel
theorem dX6_addAccount_54 : decode cX6_addAccount 54 = .ok (.invokespecial 61, 3) := by decide +kernel
theorem dX6_addAccount_57 : decode cX6_addAccount 57 = .ok (.invokevirtual 64, 3) := by decide +kernel
theorem dX6_addAccount_60 : decode cX6_addAccount 60 = .ok (.pop, 1) := by decide +kernel
theorem dX6_addAccount_61 : decode cX6_addAccount 61 = .ok (.aload_n 0, 1) := by decide +kernel
theorem dX6_addAccount_62 : decode cX6_addAccount 62 = .ok (.getfield 10, 3) := by decide +kernel
theorem dX6_addAccount_65 : decode cX6_addAccount 65 = .ok (.invokevirtual 51, 3) := by decide +kernel
theorem dX6_addAccount_68 : decode cX6_addAccount 68 = .ok (.iconst 1, 1) := by decide +kernel
theorem dX6_addAccount_69 : decode cX6_addAccount 69 = .ok (.isub, 1) := by decide +kernel
theorem dX6_addAccount_70 : decode cX6_addAccount 70 = .ok (.ireturn, 1) := by decide +kernel
theorem dX6_putRule_0 : decode cX6_putRule 0 = .ok (.iload_n 1, 1) := by decide +kernel
theorem dX6_putRule_1 : decode cX6_putRule 1 = .ok (.ifCond .lt 14, 3) := by decide +kernel
theorem dX6_putRule_4 : decode cX6_putRule 4 = .ok (.iload_n 1, 1) := by decide +kernel
theorem dX6_putRule_5 : decode cX6_putRule 5 = .ok (.aload_n 0, 1) := by decide +kernel
theorem dX6_putRule_6 : decode cX6_putRule 6 = .ok (.getfield 16, 3) := by decide +kernel
theorem dX6_putRule_9 : decode cX6_putRule 9 = .ok (.invokevirtual 51, 3) := by decide +kernel
theorem dX6_putRule_12 : decode cX6_putRule 12 = .ok (.if_icmp .le 13, 3) := by decide +kernel
theorem dX6_putRule_15 : decode cX6_putRule 15 = .ok (.new 68, 3) := by decide +kernel
theorem dX6_putRule_18 : decode cX6_putRule 18 = .ok (.dup, 1) := by decide +kernel
theorem dX6_putRule_19 : decode cX6_putRule 19 = .ok (.ldc 70, 2) := by decide +kernel
theorem dX6_putRule_21 : decode cX6_putRule 21 = .ok (.invokespecial 72, 3) := by decide +kernel
theorem dX6_putRule_24 : decode cX6_putRule 24 = .ok (.athrow, 1) := by decide +kernel
theorem dX6_putRule_25 : decode cX6_putRule 25 = .ok (.iload_n 2, 1) := by decide +kernel
theorem dX6_putRule_26 : decode cX6_putRule 26 = .ok (.iconst 0, 1) := by decide +kernel
theorem dX6_putRule_27 : decode cX6_putRule 27 = .ok (.bipush 9, 2) := by decide +kernel
theorem dX6_putRule_29 : decode cX6_putRule 29 = .ok (.invokestatic 35, 3) := by decide +kernel
theorem dX6_putRule_32 : decode cX6_putRule 32 = .ok (.iload_n 3, 1) := by decide +kernel
theorem dX6_putRule_33 : decode cX6_putRule 33 = .ok (.iload_n 2, 1) := by decide +kernel
theorem dX6_putRule_34 : decode cX6_putRule 34 = .ok (.bipush 9, 2) := by decide +kernel
theorem dX6_putRule_36 : decode cX6_putRule 36 = .ok (.invokestatic 35, 3) := by decide +kernel
theorem dX6_putRule_39 : decode cX6_putRule 39 = .ok (.iload 4, 2) := by decide +kernel
theorem dX6_putRule_41 : decode cX6_putRule 41 = .ok (.iconst 0, 1) := by decide +kernel
theorem dX6_putRule_42 : decode cX6_putRule 42 = .ok (.bipush 9, 2) := by decide +kernel
theorem dX6_putRule_44 : decode cX6_putRule 44 = .ok (.invokestatic 35, 3) := by decide +kernel
theorem dX6_putRule_47 : decode cX6_putRule 47 = .ok (.iload 5, 2) := by decide +kernel
theorem dX6_putRule_49 : decode cX6_putRule 49 = .ok (.iconst 0, 1) := by decide +kernel
theorem dX6_putRule_50 : decode cX6_putRule 50 = .ok (.iconst 3, 1) := by decide +kernel
theorem dX6_putRule_51 : decode cX6_putRule 51 = .ok (.invokestatic 35, 3) := by decide +kernel
theorem dX6_putRule_54 : decode cX6_putRule 54 = .ok (.aload_n 0, 1) := by decide +kernel
theorem dX6_putRule_55 : decode cX6_putRule 55 = .ok (.getfield 16, 3) := by decide +kernel
theorem dX6_putRule_58 : decode cX6_putRule 58 = .ok (.invokevirtual 51, 3) := by decide +kernel
theorem dX6_putRule_61 : decode cX6_putRule 61 = .ok (.bipush 8, 2) := by decide +kernel
theorem dX6_putRule_63 : decode cX6_putRule 63 = .ok (.invokestatic 55, 3) := by decide +kernel
theorem dX6_putRule_66 : decode cX6_putRule 66 = .ok (.aload_n 0, 1) := by decide +kernel
theorem dX6_putRule_67 : decode cX6_putRule 67 = .ok (.getfield 16, 3) := by decide +kernel
theorem dX6_putRule_70 : decode cX6_putRule 70 = .ok (.iload_n 1, 1) := by decide +kernel
theorem dX6_putRule_71 : decode cX6_putRule 71 = .ok (.new 73, 3) := by decide +kernel
theorem dX6_putRule_74 : decode cX6_putRule 74 = .ok (.dup, 1) := by decide +kernel
theorem dX6_putRule_75 : decode cX6_putRule 75 = .ok (.iload_n 2, 1) := by decide +kernel
theorem dX6_putRule_76 : decode cX6_putRule 76 = .ok (.iload_n 3, 1) := by decide +kernel
theorem dX6_putRule_77 : decode cX6_putRule 77 = .ok (.iload 4, 2) := by decide +kernel
theorem dX6_putRule_79 : decode cX6_putRule 79 = .ok (.iload 5, 2) := by decide +kernel
theorem dX6_putRule_81 : decode cX6_putRule 81 = .ok (.invokespecial 75, 3) := by decide +kernel
theorem dX6_putRule_84 : decode cX6_putRule 84 = .ok (.invokevirtual 78, 3) := by decide +kernel
theorem dX6_putRule_87 : decode cX6_putRule 87 = .ok (.aload_n 0, 1) := by decide +kernel
theorem dX6_putRule_88 : decode cX6_putRule 88 = .ok (.getfield 16, 3) := by decide +kernel
theorem dX6_putRule_91 : decode cX6_putRule 91 = .ok (.invokevirtual 51, 3) := by decide +kernel
theorem dX6_putRule_94 : decode cX6_putRule 94 = .ok (.ireturn, 1) := by decide +kernel
theorem dX6_removeRule_0 : decode cX6_removeRule 0 = .ok (.iload_n 1, 1) := by decide +kernel
theorem dX6_removeRule_1 : decode cX6_removeRule 1 = .ok (.ifCond .lt 14, 3) := by decide +kernel
theorem dX6_removeRule_4 : decode cX6_removeRule 4 = .ok (.iload_n 1, 1) := by decide +kernel
theorem dX6_removeRule_5 : decode cX6_removeRule 5 = .ok (.aload_n 0, 1) := by decide +kernel
theorem dX6_removeRule_6 : decode cX6_removeRule 6 = .ok (.getfield 16, 3) := by decide +kernel
theorem dX6_removeRule_9 : decode cX6_removeRule 9 = .ok (.invokevirtual 51, 3) := by decide +kernel
theorem dX6_removeRule_12 : decode cX6_removeRule 12 = .ok (.if_icmp .lt 13, 3) := by decide +kernel
theorem dX6_removeRule_15 : decode cX6_removeRule 15 = .ok (.new 68, 3) := by decide +kernel
theorem dX6_removeRule_18 : decode cX6_removeRule 18 = .ok (.dup, 1) := by decide +kernel
theorem dX6_removeRule_19 : decode cX6_removeRule 19 = .ok (.ldc 81, 2) := by decide +kernel
theorem dX6_removeRule_21 : decode cX6_removeRule 21 = .ok (.invokespecial 72, 3) := by decide +kernel
theorem dX6_removeRule_24 : decode cX6_removeRule 24 = .ok (.athrow, 1) := by decide +kernel
theorem dX6_removeRule_25 : decode cX6_removeRule 25 = .ok (.aload_n 0, 1) := by decide +kernel
theorem dX6_removeRule_26 : decode cX6_removeRule 26 = .ok (.getfield 16, 3) := by decide +kernel
theorem dX6_removeRule_29 : decode cX6_removeRule 29 = .ok (.iload_n 1, 1) := by decide +kernel
theorem dX6_removeRule_30 : decode cX6_removeRule 30 = .ok (.invokevirtual 83, 3) := by decide +kernel
theorem dX6_removeRule_33 : decode cX6_removeRule 33 = .ok (.pop, 1) := by decide +kernel
theorem dX6_removeRule_34 : decode cX6_removeRule 34 = .ok (.aload_n 0, 1) := by decide +kernel
theorem dX6_removeRule_35 : decode cX6_removeRule 35 = .ok (.getfield 16, 3) := by decide +kernel
theorem dX6_removeRule_38 : decode cX6_removeRule 38 = .ok (.invokevirtual 51, 3) := by decide +kernel
theorem dX6_removeRule_41 : decode cX6_removeRule 41 = .ok (.ireturn, 1) := by decide +kernel
theorem dX6_except_0 : decode cX6_except 0 = .ok (.aload_n 0, 1) := by decide +kernel
theorem dX6_except_1 : decode cX6_except 1 = .ok (.iload_n 1, 1) := by decide +kernel
theorem dX6_except_2 : decode cX6_except 2 = .ok (.invokevirtual 47, 3) := by decide +kernel
theorem dX6_except_5 : decode cX6_except 5 = .ok (.astore_n 3, 1) := by decide +kernel
theorem dX6_except_6 : decode cX6_except 6 = .ok (.iload_n 2, 1) := by decide +kernel
theorem dX6_except_7 : decode cX6_except 7 = .ok (.iconst (-1), 1) := by decide +kernel
theorem dX6_except_8 : decode cX6_except 8 = .ok (.iconst 3, 1) := by decide +kernel
theorem dX6_except_9 : decode cX6_except 9 = .ok (.invokestatic 35, 3) := by decide +kernel
theorem dX6_except_12 : decode cX6_except 12 = .ok (.aload_n 3, 1) := by decide +kernel
theorem dX6_except_13 : decode cX6_except 13 = .ok (.getfield 87, 3) := by decide +kernel
theorem dX6_except_16 : decode cX6_except 16 = .ok (.istore 4, 2) := by decide +kernel
theorem dX6_except_18 : decode cX6_except 18 = .ok (.aload_n 3, 1) := by decide +kernel
theorem dX6_except_19 : decode cX6_except 19 = .ok (.iload_n 2, 1) := by decide +kernel
theorem dX6_except_20 : decode cX6_except 20 = .ok (.putfield 87, 3) := by decide +kernel
theorem dX6_except_23 : decode cX6_except 23 = .ok (.iload 4, 2) := by decide +kernel
theorem dX6_except_25 : decode cX6_except 25 = .ok (.ireturn, 1) := by decide +kernel
theorem dX6_regionOf_0 : decode cX6_regionOf 0 = .ok (.aload_n 0, 1) := by decide +kernel
theorem dX6_regionOf_1 : decode cX6_regionOf 1 = .ok (.aload_n 0, 1) := by decide +kernel
theorem dX6_regionOf_2 : decode cX6_regionOf 2 = .ok (.iload_n 1, 1) := by decide +kernel
theorem dX6_regionOf_3 : decode cX6_regionOf 3 = .ok (.invokevirtual 47, 3) := by decide +kernel
theorem dX6_regionOf_6 : decode cX6_regionOf 6 = .ok (.invokevirtual 90, 3) := by decide +kernel
theorem dX6_regionOf_9 : decode cX6_regionOf 9 = .ok (.ireturn, 1) := by decide +kernel
theorem dX6_addSeller_0 : decode cX6_addSeller 0 = .ok (.iload_n 1, 1) := by decide +kernel
theorem dX6_addSeller_1 : decode cX6_addSeller 1 = .ok (.iconst (-1), 1) := by decide +kernel
theorem dX6_addSeller_2 : decode cX6_addSeller 2 = .ok (.if_icmp .ne 7, 3) := by decide +kernel
theorem dX6_addSeller_5 : decode cX6_addSeller 5 = .ok (.aconst_null, 1) := by decide +kernel
theorem dX6_addSeller_6 : decode cX6_addSeller 6 = .ok (.goto 8, 3) := by decide +kernel
theorem dX6_addSeller_9 : decode cX6_addSeller 9 = .ok (.aload_n 0, 1) := by decide +kernel
theorem dX6_addSeller_10 : decode cX6_addSeller 10 = .ok (.iload_n 1, 1) := by decide +kernel
theorem dX6_addSeller_11 : decode cX6_addSeller 11 = .ok (.invokevirtual 94, 3) := by decide +kernel
theorem dX6_addSeller_14 : decode cX6_addSeller 14 = .ok (.astore_n 3, 1) := by decide +kernel
theorem dX6_addSeller_15 : decode cX6_addSeller 15 = .ok (.iload_n 2, 1) := by decide +kernel
theorem dX6_addSeller_16 : decode cX6_addSeller 16 = .ok (.iconst 0, 1) := by decide +kernel
theorem dX6_addSeller_17 : decode cX6_addSeller 17 = .ok (.bipush 99, 2) := by decide +kernel
theorem dX6_addSeller_19 : decode cX6_addSeller 19 = .ok (.invokestatic 35, 3) := by decide +kernel
theorem dX6_addSeller_22 : decode cX6_addSeller 22 = .ok (.aload_n 0, 1) := by decide +kernel
theorem dX6_addSeller_23 : decode cX6_addSeller 23 = .ok (.getfield 19, 3) := by decide +kernel
theorem dX6_addSeller_26 : decode cX6_addSeller 26 = .ok (.invokevirtual 51, 3) := by decide +kernel
theorem dX6_addSeller_29 : decode cX6_addSeller 29 = .ok (.bipush 8, 2) := by decide +kernel
theorem dX6_addSeller_31 : decode cX6_addSeller 31 = .ok (.invokestatic 55, 3) := by decide +kernel
theorem dX6_addSeller_34 : decode cX6_addSeller 34 = .ok (.aload_n 0, 1) := by decide +kernel
theorem dX6_addSeller_35 : decode cX6_addSeller 35 = .ok (.getfield 19, 3) := by decide +kernel
theorem dX6_addSeller_38 : decode cX6_addSeller 38 = .ok (.new 98, 3) := by decide +kernel
theorem dX6_addSeller_41 : decode cX6_addSeller 41 = .ok (.dup, 1) := by decide +kernel
theorem dX6_addSeller_42 : decode cX6_addSeller 42 = .ok (.aload_n 0, 1) := by decide +kernel
theorem dX6_addSeller_43 : decode cX6_addSeller 43 = .ok (.getfield 19, 3) := by decide +kernel
theorem dX6_addSeller_46 : decode cX6_addSeller 46 = .ok (.invokevirtual 51, 3) := by decide +kernel
theorem dX6_addSeller_49 : decode cX6_addSeller 49 = .ok (.aload_n 3, 1) := by decide +kernel
theorem dX6_addSeller_50 : decode cX6_addSeller 50 = .ok (.iload_n 2, 1) := by decide +kernel
theorem dX6_addSeller_51 : decode cX6_addSeller 51 = .ok (.invokespecial 100, 3) := by decide +kernel
theorem dX6_addSeller_54 : decode cX6_addSeller 54 = .ok (.invokevirtual 64, 3) := by decide +kernel
theorem dX6_addSeller_57 : decode cX6_addSeller 57 = .ok (.pop, 1) := by decide +kernel
theorem dX6_addSeller_58 : decode cX6_addSeller 58 = .ok (.aload_n 0, 1) := by decide +kernel
theorem dX6_addSeller_59 : decode cX6_addSeller 59 = .ok (.getfield 19, 3) := by decide +kernel
theorem dX6_addSeller_62 : decode cX6_addSeller 62 = .ok (.invokevirtual 51, 3) := by decide +kernel
theorem dX6_addSeller_65 : decode cX6_addSeller 65 = .ok (.iconst 1, 1) := by decide +kernel
theorem dX6_addSeller_66 : decode cX6_addSeller 66 = .ok (.isub, 1) := by decide +kernel
theorem dX6_addSeller_67 : decode cX6_addSeller 67 = .ok (.ireturn, 1) := by decide +kernel
theorem dX6_adjust_0 : decode cX6_adjust 0 = .ok (.aload_n 0, 1) := by decide +kernel
theorem dX6_adjust_1 : decode cX6_adjust 1 = .ok (.iload_n 1, 1) := by decide +kernel
theorem dX6_adjust_2 : decode cX6_adjust 2 = .ok (.invokevirtual 94, 3) := by decide +kernel
theorem dX6_adjust_5 : decode cX6_adjust 5 = .ok (.astore_n 3, 1) := by decide +kernel
theorem dX6_adjust_6 : decode cX6_adjust 6 = .ok (.iload_n 2, 1) := by decide +kernel
theorem dX6_adjust_7 : decode cX6_adjust 7 = .ok (.ldc 103, 2) := by decide +kernel
theorem dX6_adjust_9 : decode cX6_adjust 9 = .ok (.ldc 104, 2) := by decide +kernel
theorem dX6_adjust_11 : decode cX6_adjust 11 = .ok (.invokestatic 35, 3) := by decide +kernel
theorem dX6_adjust_14 : decode cX6_adjust 14 = .ok (.aload_n 3, 1) := by decide +kernel
theorem dX6_adjust_15 : decode cX6_adjust 15 = .ok (.getfield 105, 3) := by decide +kernel
theorem dX6_adjust_18 : decode cX6_adjust 18 = .ok (.istore 4, 2) := by decide +kernel
theorem dX6_adjust_20 : decode cX6_adjust 20 = .ok (.aload_n 3, 1) := by decide +kernel
theorem dX6_adjust_21 : decode cX6_adjust 21 = .ok (.iload_n 2, 1) := by decide +kernel
theorem dX6_adjust_22 : decode cX6_adjust 22 = .ok (.putfield 105, 3) := by decide +kernel
theorem dX6_adjust_25 : decode cX6_adjust 25 = .ok (.iload 4, 2) := by decide +kernel
theorem dX6_adjust_27 : decode cX6_adjust 27 = .ok (.ireturn, 1) := by decide +kernel
theorem dX6_addChance_0 : decode cX6_addChance 0 = .ok (.aload_n 0, 1) := by decide +kernel
theorem dX6_addChance_1 : decode cX6_addChance 1 = .ok (.iload_n 1, 1) := by decide +kernel
theorem dX6_addChance_2 : decode cX6_addChance 2 = .ok (.invokevirtual 47, 3) := by decide +kernel
theorem dX6_addChance_5 : decode cX6_addChance 5 = .ok (.astore 4, 2) := by decide +kernel
theorem dX6_addChance_7 : decode cX6_addChance 7 = .ok (.aload_n 0, 1) := by decide +kernel
theorem dX6_addChance_8 : decode cX6_addChance 8 = .ok (.iload_n 2, 1) := by decide +kernel
theorem dX6_addChance_9 : decode cX6_addChance 9 = .ok (.invokevirtual 94, 3) := by decide +kernel
theorem dX6_addChance_12 : decode cX6_addChance 12 = .ok (.astore 5, 2) := by decide +kernel
theorem dX6_addChance_14 : decode cX6_addChance 14 = .ok (.iload_n 3, 1) := by decide +kernel
theorem dX6_addChance_15 : decode cX6_addChance 15 = .ok (.iconst 1, 1) := by decide +kernel
theorem dX6_addChance_16 : decode cX6_addChance 16 = .ok (.ldc 104, 2) := by decide +kernel
theorem dX6_addChance_18 : decode cX6_addChance 18 = .ok (.invokestatic 35, 3) := by decide +kernel
theorem dX6_addChance_21 : decode cX6_addChance 21 = .ok (.aload_n 0, 1) := by decide +kernel
theorem dX6_addChance_22 : decode cX6_addChance 22 = .ok (.getfield 22, 3) := by decide +kernel
theorem dX6_addChance_25 : decode cX6_addChance 25 = .ok (.invokevirtual 51, 3) := by decide +kernel
theorem dX6_addChance_28 : decode cX6_addChance 28 = .ok (.bipush 30, 2) := by decide +kernel
theorem dX6_addChance_30 : decode cX6_addChance 30 = .ok (.invokestatic 55, 3) := by decide +kernel
theorem dX6_addChance_33 : decode cX6_addChance 33 = .ok (.new 108, 3) := by decide +kernel
theorem dX6_addChance_36 : decode cX6_addChance 36 = .ok (.dup, 1) := by decide +kernel
theorem dX6_addChance_37 : decode cX6_addChance 37 = .ok (.aload 4, 2) := by decide +kernel
theorem dX6_addChance_39 : decode cX6_addChance 39 = .ok (.iload_n 3, 1) := by decide +kernel
theorem dX6_addChance_40 : decode cX6_addChance 40 = .ok (.aload_n 0, 1) := by decide +kernel
theorem dX6_addChance_41 : decode cX6_addChance 41 = .ok (.getfield 31, 3) := by decide +kernel
theorem dX6_addChance_44 : decode cX6_addChance 44 = .ok (.invokespecial 110, 3) := by decide +kernel
theorem dX6_addChance_47 : decode cX6_addChance 47 = .ok (.astore 6, 2) := by decide +kernel
theorem dX6_addChance_49 : decode cX6_addChance 49 = .ok (.aload 6, 2) := by decide +kernel
theorem dX6_addChance_51 : decode cX6_addChance 51 = .ok (.getfield 111, 3) := by decide +kernel
theorem dX6_addChance_54 : decode cX6_addChance 54 = .ok (.aload 5, 2) := by decide +kernel
theorem dX6_addChance_56 : decode cX6_addChance 56 = .ok (.getfield 115, 3) := by decide +kernel
theorem dX6_addChance_59 : decode cX6_addChance 59 = .ok (.bipush 100, 2) := by decide +kernel
theorem dX6_addChance_61 : decode cX6_addChance 61 = .ok (.invokestatic 118, 3) := by decide +kernel
theorem dX6_addChance_64 : decode cX6_addChance 64 = .ok (.aload_n 0, 1) := by decide +kernel
theorem dX6_addChance_65 : decode cX6_addChance 65 = .ok (.getfield 22, 3) := by decide +kernel
theorem dX6_addChance_68 : decode cX6_addChance 68 = .ok (.aload 6, 2) := by decide +kernel
theorem dX6_addChance_70 : decode cX6_addChance 70 = .ok (.invokevirtual 64, 3) := by decide +kernel
theorem dX6_addChance_73 : decode cX6_addChance 73 = .ok (.pop, 1) := by decide +kernel
theorem dX6_addChance_74 : decode cX6_addChance 74 = .ok (.aload_n 0, 1) := by decide +kernel
theorem dX6_addChance_75 : decode cX6_addChance 75 = .ok (.getfield 22, 3) := by decide +kernel
theorem dX6_addChance_78 : decode cX6_addChance 78 = .ok (.invokevirtual 51, 3) := by decide +kernel
theorem dX6_addChance_81 : decode cX6_addChance 81 = .ok (.iconst 1, 1) := by decide +kernel
theorem dX6_addChance_82 : decode cX6_addChance 82 = .ok (.isub, 1) := by decide +kernel
theorem dX6_addChance_83 : decode cX6_addChance 83 = .ok (.ireturn, 1) := by decide +kernel
theorem dX6_giveShare_0 : decode cX6_giveShare 0 = .ok (.aload_n 0, 1) := by decide +kernel
theorem dX6_giveShare_1 : decode cX6_giveShare 1 = .ok (.iload_n 1, 1) := by decide +kernel
theorem dX6_giveShare_2 : decode cX6_giveShare 2 = .ok (.invokevirtual 122, 3) := by decide +kernel
theorem dX6_giveShare_5 : decode cX6_giveShare 5 = .ok (.astore 5, 2) := by decide +kernel
theorem dX6_giveShare_7 : decode cX6_giveShare 7 = .ok (.aload_n 0, 1) := by decide +kernel
theorem dX6_giveShare_8 : decode cX6_giveShare 8 = .ok (.iload_n 2, 1) := by decide +kernel
theorem dX6_giveShare_9 : decode cX6_giveShare 9 = .ok (.invokevirtual 94, 3) := by decide +kernel
theorem dX6_giveShare_12 : decode cX6_giveShare 12 = .ok (.astore 6, 2) := by decide +kernel
theorem dX6_giveShare_14 : decode cX6_giveShare 14 = .ok (.aload_n 0, 1) := by decide +kernel
theorem dX6_giveShare_15 : decode cX6_giveShare 15 = .ok (.iload_n 3, 1) := by decide +kernel
theorem dX6_giveShare_16 : decode cX6_giveShare 16 = .ok (.invokevirtual 94, 3) := by decide +kernel
theorem dX6_giveShare_19 : decode cX6_giveShare 19 = .ok (.astore 7, 2) := by decide +kernel
theorem dX6_giveShare_21 : decode cX6_giveShare 21 = .ok (.iload 4, 2) := by decide +kernel
theorem dX6_giveShare_23 : decode cX6_giveShare 23 = .ok (.iconst 1, 1) := by decide +kernel
theorem dX6_giveShare_24 : decode cX6_giveShare 24 = .ok (.bipush 100, 2) := by decide +kernel
theorem dX6_giveShare_26 : decode cX6_giveShare 26 = .ok (.invokestatic 35, 3) := by decide +kernel
theorem dX6_giveShare_29 : decode cX6_giveShare 29 = .ok (.aload 6, 2) := by decide +kernel
theorem dX6_giveShare_31 : decode cX6_giveShare 31 = .ok (.aload 7, 2) := by decide +kernel
theorem dX6_giveShare_33 : decode cX6_giveShare 33 = .ok (.if_acmp .ne 13, 3) := by decide +kernel
theorem dX6_giveShare_36 : decode cX6_giveShare 36 = .ok (.new 126, 3) := by decide +kernel
theorem dX6_giveShare_39 : decode cX6_giveShare 39 = .ok (.dup, 1) := by decide +kernel
theorem dX6_giveShare_40 : decode cX6_giveShare 40 = .ok (.ldc 128, 2) := by decide +kernel
theorem dX6_giveShare_42 : decode cX6_giveShare 42 = .ok (.invokespecial 130, 3) := by decide +kernel
theorem dX6_giveShare_45 : decode cX6_giveShare 45 = .ok (.athrow, 1) := by decide +kernel
theorem dX6_giveShare_46 : decode cX6_giveShare 46 = .ok (.aload 5, 2) := by decide +kernel
theorem dX6_giveShare_48 : decode cX6_giveShare 48 = .ok (.invokestatic 131, 3) := by decide +kernel
theorem dX6_giveShare_51 : decode cX6_giveShare 51 = .ok (.aload 5, 2) := by decide +kernel
theorem dX6_giveShare_53 : decode cX6_giveShare 53 = .ok (.getfield 111, 3) := by decide +kernel
theorem dX6_giveShare_56 : decode cX6_giveShare 56 = .ok (.aload 6, 2) := by decide +kernel
theorem dX6_giveShare_58 : decode cX6_giveShare 58 = .ok (.getfield 115, 3) := by decide +kernel
theorem dX6_giveShare_61 : decode cX6_giveShare 61 = .ok (.invokestatic 135, 3) := by decide +kernel
theorem dX6_giveShare_64 : decode cX6_giveShare 64 = .ok (.iload 4, 2) := by decide +kernel
theorem dX6_giveShare_66 : decode cX6_giveShare 66 = .ok (.if_icmp .ge 13, 3) := by decide +kernel
theorem dX6_giveShare_69 : decode cX6_giveShare 69 = .ok (.new 40, 3) := by decide +kernel
theorem dX6_giveShare_72 : decode cX6_giveShare 72 = .ok (.dup, 1) := by decide +kernel
theorem dX6_giveShare_73 : decode cX6_giveShare 73 = .ok (.ldc 139, 2) := by decide +kernel
theorem dX6_giveShare_75 : decode cX6_giveShare 75 = .ok (.invokespecial 44, 3) := by decide +kernel
theorem dX6_giveShare_78 : decode cX6_giveShare 78 = .ok (.athrow, 1) := by decide +kernel
theorem dX6_giveShare_79 : decode cX6_giveShare 79 = .ok (.aload 5, 2) := by decide +kernel
theorem dX6_giveShare_81 : decode cX6_giveShare 81 = .ok (.getfield 111, 3) := by decide +kernel
theorem dX6_giveShare_84 : decode cX6_giveShare 84 = .ok (.aload 6, 2) := by decide +kernel
theorem dX6_giveShare_86 : decode cX6_giveShare 86 = .ok (.getfield 115, 3) := by decide +kernel
theorem dX6_giveShare_89 : decode cX6_giveShare 89 = .ok (.iload 4, 2) := by decide +kernel
theorem dX6_giveShare_91 : decode cX6_giveShare 91 = .ok (.ineg, 1) := by decide +kernel
theorem dX6_giveShare_92 : decode cX6_giveShare 92 = .ok (.invokestatic 118, 3) := by decide +kernel
theorem dX6_giveShare_95 : decode cX6_giveShare 95 = .ok (.aload 5, 2) := by decide +kernel
theorem dX6_giveShare_97 : decode cX6_giveShare 97 = .ok (.getfield 111, 3) := by decide +kernel
theorem dX6_giveShare_100 : decode cX6_giveShare 100 = .ok (.aload 7, 2) := by decide +kernel
theorem dX6_giveShare_102 : decode cX6_giveShare 102 = .ok (.getfield 115, 3) := by decide +kernel
theorem dX6_giveShare_105 : decode cX6_giveShare 105 = .ok (.iload 4, 2) := by decide +kernel
theorem dX6_giveShare_107 : decode cX6_giveShare 107 = .ok (.invokestatic 118, 3) := by decide +kernel
theorem dX6_giveShare_110 : decode cX6_giveShare 110 = .ok (.aload 5, 2) := by decide +kernel
theorem dX6_giveShare_112 : decode cX6_giveShare 112 = .ok (.getfield 111, 3) := by decide +kernel
theorem dX6_giveShare_115 : decode cX6_giveShare 115 = .ok (.aload 7, 2) := by decide +kernel
theorem dX6_giveShare_117 : decode cX6_giveShare 117 = .ok (.getfield 115, 3) := by decide +kernel
theorem dX6_giveShare_120 : decode cX6_giveShare 120 = .ok (.invokestatic 135, 3) := by decide +kernel
theorem dX6_giveShare_123 : decode cX6_giveShare 123 = .ok (.ireturn, 1) := by decide +kernel
theorem dX6_move_0 : decode cX6_move 0 = .ok (.aload_n 0, 1) := by decide +kernel
theorem dX6_move_1 : decode cX6_move 1 = .ok (.iload_n 1, 1) := by decide +kernel
theorem dX6_move_2 : decode cX6_move 2 = .ok (.invokevirtual 122, 3) := by decide +kernel
theorem dX6_move_5 : decode cX6_move 5 = .ok (.astore_n 3, 1) := by decide +kernel
theorem dX6_move_6 : decode cX6_move 6 = .ok (.iload_n 2, 1) := by decide +kernel
theorem dX6_move_7 : decode cX6_move 7 = .ok (.invokestatic 141, 3) := by decide +kernel
theorem dX6_move_10 : decode cX6_move 10 = .ok (.aload_n 3, 1) := by decide +kernel
theorem dX6_move_11 : decode cX6_move 11 = .ok (.iload_n 2, 1) := by decide +kernel
theorem dX6_move_12 : decode cX6_move 12 = .ok (.invokestatic 145, 3) := by decide +kernel
theorem dX6_move_15 : decode cX6_move 15 = .ok (.ifCond .ne 13, 3) := by decide +kernel
theorem dX6_move_18 : decode cX6_move 18 = .ok (.new 40, 3) := by decide +kernel
theorem dX6_move_21 : decode cX6_move 21 = .ok (.dup, 1) := by decide +kernel
theorem dX6_move_22 : decode cX6_move 22 = .ok (.ldc 149, 2) := by decide +kernel
theorem dX6_move_24 : decode cX6_move 24 = .ok (.invokespecial 44, 3) := by decide +kernel
theorem dX6_move_27 : decode cX6_move 27 = .ok (.athrow, 1) := by decide +kernel
theorem dX6_move_28 : decode cX6_move 28 = .ok (.aload_n 0, 1) := by decide +kernel
theorem dX6_move_29 : decode cX6_move 29 = .ok (.getfield 31, 3) := by decide +kernel
theorem dX6_move_32 : decode cX6_move 32 = .ok (.aload_n 3, 1) := by decide +kernel
theorem dX6_move_33 : decode cX6_move 33 = .ok (.getfield 151, 3) := by decide +kernel
theorem dX6_move_36 : decode cX6_move 36 = .ok (.isub, 1) := by decide +kernel
theorem dX6_move_37 : decode cX6_move 37 = .ok (.istore 4, 2) := by decide +kernel
theorem dX6_move_39 : decode cX6_move 39 = .ok (.aload_n 3, 1) := by decide +kernel
theorem dX6_move_40 : decode cX6_move 40 = .ok (.getfield 154, 3) := by decide +kernel
theorem dX6_move_43 : decode cX6_move 43 = .ok (.aload_n 3, 1) := by decide +kernel
theorem dX6_move_44 : decode cX6_move 44 = .ok (.getfield 157, 3) := by decide +kernel
theorem dX6_move_47 : decode cX6_move 47 = .ok (.iload 4, 2) := by decide +kernel
theorem dX6_move_49 : decode cX6_move 49 = .ok (.invokestatic 118, 3) := by decide +kernel
theorem dX6_move_52 : decode cX6_move 52 = .ok (.aload_n 3, 1) := by decide +kernel
theorem dX6_move_53 : decode cX6_move 53 = .ok (.iload_n 2, 1) := by decide +kernel
theorem dX6_move_54 : decode cX6_move 54 = .ok (.putfield 157, 3) := by decide +kernel
theorem dX6_move_57 : decode cX6_move 57 = .ok (.aload_n 3, 1) := by decide +kernel
theorem dX6_move_58 : decode cX6_move 58 = .ok (.aload_n 0, 1) := by decide +kernel
theorem dX6_move_59 : decode cX6_move 59 = .ok (.getfield 31, 3) := by decide +kernel
theorem dX6_move_62 : decode cX6_move 62 = .ok (.putfield 151, 3) := by decide +kernel
theorem dX6_move_65 : decode cX6_move 65 = .ok (.aload_n 3, 1) := by decide +kernel
theorem dX6_move_66 : decode cX6_move 66 = .ok (.invokestatic 160, 3) := by decide +kernel
theorem dX6_move_69 : decode cX6_move 69 = .ok (.ifCond .ne 15, 3) := by decide +kernel
theorem dX6_move_72 : decode cX6_move 72 = .ok (.aload_n 3, 1) := by decide +kernel
theorem dX6_move_73 : decode cX6_move 73 = .ok (.aload_n 0, 1) := by decide +kernel
theorem dX6_move_74 : decode cX6_move 74 = .ok (.aload_n 3, 1) := by decide +kernel
theorem dX6_move_75 : decode cX6_move 75 = .ok (.getfield 164, 3) := by decide +kernel
theorem dX6_move_78 : decode cX6_move 78 = .ok (.invokevirtual 90, 3) := by decide +kernel
theorem dX6_move_81 : decode cX6_move 81 = .ok (.putfield 168, 3) := by decide +kernel
theorem dX6_move_84 : decode cX6_move 84 = .ok (.iload 4, 2) := by decide +kernel
theorem dX6_move_86 : decode cX6_move 86 = .ok (.ireturn, 1) := by decide +kernel
theorem dX6_stage_0 : decode cX6_stage 0 = .ok (.aload_n 0, 1) := by decide +kernel
theorem dX6_stage_1 : decode cX6_stage 1 = .ok (.iload_n 1, 1) := by decide +kernel
theorem dX6_stage_2 : decode cX6_stage 2 = .ok (.invokevirtual 122, 3) := by decide +kernel
theorem dX6_stage_5 : decode cX6_stage 5 = .ok (.getfield 157, 3) := by decide +kernel
theorem dX6_stage_8 : decode cX6_stage 8 = .ok (.ireturn, 1) := by decide +kernel
theorem dX6_daysIn_0 : decode cX6_daysIn 0 = .ok (.aload_n 0, 1) := by decide +kernel
theorem dX6_daysIn_1 : decode cX6_daysIn 1 = .ok (.iload_n 1, 1) := by decide +kernel
theorem dX6_daysIn_2 : decode cX6_daysIn 2 = .ok (.invokevirtual 122, 3) := by decide +kernel
theorem dX6_daysIn_5 : decode cX6_daysIn 5 = .ok (.astore_n 3, 1) := by decide +kernel
theorem dX6_daysIn_6 : decode cX6_daysIn 6 = .ok (.iload_n 2, 1) := by decide +kernel
theorem dX6_daysIn_7 : decode cX6_daysIn 7 = .ok (.invokestatic 141, 3) := by decide +kernel
theorem dX6_daysIn_10 : decode cX6_daysIn 10 = .ok (.aload_n 3, 1) := by decide +kernel
theorem dX6_daysIn_11 : decode cX6_daysIn 11 = .ok (.getfield 154, 3) := by decide +kernel
theorem dX6_daysIn_14 : decode cX6_daysIn 14 = .ok (.iload_n 2, 1) := by decide +kernel
theorem dX6_daysIn_15 : decode cX6_daysIn 15 = .ok (.invokestatic 135, 3) := by decide +kernel
theorem dX6_daysIn_18 : decode cX6_daysIn 18 = .ok (.istore 4, 2) := by decide +kernel
theorem dX6_daysIn_20 : decode cX6_daysIn 20 = .ok (.aload_n 3, 1) := by decide +kernel
theorem dX6_daysIn_21 : decode cX6_daysIn 21 = .ok (.getfield 157, 3) := by decide +kernel
theorem dX6_daysIn_24 : decode cX6_daysIn 24 = .ok (.iload_n 2, 1) := by decide +kernel
theorem dX6_daysIn_25 : decode cX6_daysIn 25 = .ok (.if_icmp .ne 18, 3) := by decide +kernel
theorem dX6_daysIn_28 : decode cX6_daysIn 28 = .ok (.iload 4, 2) := by decide +kernel
theorem dX6_daysIn_30 : decode cX6_daysIn 30 = .ok (.aload_n 0, 1) := by decide +kernel
theorem dX6_daysIn_31 : decode cX6_daysIn 31 = .ok (.getfield 31, 3) := by decide +kernel
theorem dX6_daysIn_34 : decode cX6_daysIn 34 = .ok (.iadd, 1) := by decide +kernel
theorem dX6_daysIn_35 : decode cX6_daysIn 35 = .ok (.aload_n 3, 1) := by decide +kernel
theorem dX6_daysIn_36 : decode cX6_daysIn 36 = .ok (.getfield 151, 3) := by decide +kernel
theorem dX6_daysIn_39 : decode cX6_daysIn 39 = .ok (.isub, 1) := by decide +kernel
theorem dX6_daysIn_40 : decode cX6_daysIn 40 = .ok (.goto 5, 3) := by decide +kernel
theorem dX6_daysIn_43 : decode cX6_daysIn 43 = .ok (.iload 4, 2) := by decide +kernel
theorem dX6_daysIn_45 : decode cX6_daysIn 45 = .ok (.ireturn, 1) := by decide +kernel
theorem dX6_stalled_0 : decode cX6_stalled 0 = .ok (.iload_n 1, 1) := by decide +kernel
theorem dX6_stalled_1 : decode cX6_stalled 1 = .ok (.iconst 0, 1) := by decide +kernel
theorem dX6_stalled_2 : decode cX6_stalled 2 = .ok (.ldc 39, 2) := by decide +kernel
theorem dX6_stalled_4 : decode cX6_stalled 4 = .ok (.invokestatic 35, 3) := by decide +kernel
theorem dX6_stalled_7 : decode cX6_stalled 7 = .ok (.iconst 0, 1) := by decide +kernel
theorem dX6_stalled_8 : decode cX6_stalled 8 = .ok (.istore_n 2, 1) := by decide +kernel
theorem dX6_stalled_9 : decode cX6_stalled 9 = .ok (.iconst 0, 1) := by decide +kernel
theorem dX6_stalled_10 : decode cX6_stalled 10 = .ok (.istore_n 3, 1) := by decide +kernel
theorem dX6_stalled_11 : decode cX6_stalled 11 = .ok (.iload_n 3, 1) := by decide +kernel
theorem dX6_stalled_12 : decode cX6_stalled 12 = .ok (.aload_n 0, 1) := by decide +kernel
theorem dX6_stalled_13 : decode cX6_stalled 13 = .ok (.getfield 22, 3) := by decide +kernel
theorem dX6_stalled_16 : decode cX6_stalled 16 = .ok (.invokevirtual 51, 3) := by decide +kernel
theorem dX6_stalled_19 : decode cX6_stalled 19 = .ok (.if_icmp .ge 47, 3) := by decide +kernel
theorem dX6_stalled_22 : decode cX6_stalled 22 = .ok (.aload_n 0, 1) := by decide +kernel
theorem dX6_stalled_23 : decode cX6_stalled 23 = .ok (.getfield 22, 3) := by decide +kernel
theorem dX6_stalled_26 : decode cX6_stalled 26 = .ok (.iload_n 3, 1) := by decide +kernel
theorem dX6_stalled_27 : decode cX6_stalled 27 = .ok (.invokevirtual 171, 3) := by decide +kernel
theorem dX6_stalled_30 : decode cX6_stalled 30 = .ok (.checkcast 108, 3) := by decide +kernel
theorem dX6_stalled_33 : decode cX6_stalled 33 = .ok (.astore 4, 2) := by decide +kernel
theorem dX6_stalled_35 : decode cX6_stalled 35 = .ok (.aload 4, 2) := by decide +kernel
theorem dX6_stalled_37 : decode cX6_stalled 37 = .ok (.invokestatic 160, 3) := by decide +kernel
theorem dX6_stalled_40 : decode cX6_stalled 40 = .ok (.ifCond .eq 20, 3) := by decide +kernel
theorem dX6_stalled_43 : decode cX6_stalled 43 = .ok (.aload_n 0, 1) := by decide +kernel
theorem dX6_stalled_44 : decode cX6_stalled 44 = .ok (.getfield 31, 3) := by decide +kernel
theorem dX6_stalled_47 : decode cX6_stalled 47 = .ok (.aload 4, 2) := by decide +kernel
theorem dX6_stalled_49 : decode cX6_stalled 49 = .ok (.getfield 151, 3) := by decide +kernel
theorem dX6_stalled_52 : decode cX6_stalled 52 = .ok (.isub, 1) := by decide +kernel
theorem dX6_stalled_53 : decode cX6_stalled 53 = .ok (.iload_n 1, 1) := by decide +kernel
theorem dX6_stalled_54 : decode cX6_stalled 54 = .ok (.if_icmp .le 6, 3) := by decide +kernel
theorem dX6_stalled_57 : decode cX6_stalled 57 = .ok (.iinc 2 1, 3) := by decide +kernel
theorem dX6_stalled_60 : decode cX6_stalled 60 = .ok (.iinc 3 1, 3) := by decide +kernel
theorem dX6_stalled_63 : decode cX6_stalled 63 = .ok (.goto (-52), 3) := by decide +kernel
theorem dX6_stalled_66 : decode cX6_stalled 66 = .ok (.iload_n 2, 1) := by decide +kernel
theorem dX6_stalled_67 : decode cX6_stalled 67 = .ok (.ireturn, 1) := by decide +kernel
theorem dX6_worth_0 : decode cX6_worth 0 = .ok (.aload_n 0, 1) := by decide +kernel
theorem dX6_worth_1 : decode cX6_worth 1 = .ok (.iload_n 1, 1) := by decide +kernel
theorem dX6_worth_2 : decode cX6_worth 2 = .ok (.invokevirtual 122, 3) := by decide +kernel
theorem dX6_worth_5 : decode cX6_worth 5 = .ok (.invokestatic 174, 3) := by decide +kernel
theorem dX6_worth_8 : decode cX6_worth 8 = .ok (.ireturn, 1) := by decide +kernel
theorem dX6_inRegion_0 : decode cX6_inRegion 0 = .ok (.iload_n 1, 1) := by decide +kernel
theorem dX6_inRegion_1 : decode cX6_inRegion 1 = .ok (.iconst 0, 1) := by decide +kernel
theorem dX6_inRegion_2 : decode cX6_inRegion 2 = .ok (.iconst 3, 1) := by decide +kernel
theorem dX6_inRegion_3 : decode cX6_inRegion 3 = .ok (.invokestatic 35, 3) := by decide +kernel
theorem dX6_inRegion_6 : decode cX6_inRegion 6 = .ok (.iload_n 2, 1) := by decide +kernel
theorem dX6_inRegion_7 : decode cX6_inRegion 7 = .ok (.invokestatic 141, 3) := by decide +kernel
theorem dX6_inRegion_10 : decode cX6_inRegion 10 = .ok (.iconst 0, 1) := by decide +kernel
theorem dX6_inRegion_11 : decode cX6_inRegion 11 = .ok (.istore_n 3, 1) := by decide +kernel
theorem dX6_inRegion_12 : decode cX6_inRegion 12 = .ok (.iconst 0, 1) := by decide +kernel
theorem dX6_inRegion_13 : decode cX6_inRegion 13 = .ok (.istore 4, 2) := by decide +kernel
theorem dX6_inRegion_15 : decode cX6_inRegion 15 = .ok (.iload 4, 2) := by decide +kernel
theorem dX6_inRegion_17 : decode cX6_inRegion 17 = .ok (.aload_n 0, 1) := by decide +kernel
theorem dX6_inRegion_18 : decode cX6_inRegion 18 = .ok (.getfield 22, 3) := by decide +kernel
theorem dX6_inRegion_21 : decode cX6_inRegion 21 = .ok (.invokevirtual 51, 3) := by decide +kernel
theorem dX6_inRegion_24 : decode cX6_inRegion 24 = .ok (.if_icmp .ge 50, 3) := by decide +kernel
theorem dX6_inRegion_27 : decode cX6_inRegion 27 = .ok (.aload_n 0, 1) := by decide +kernel
theorem dX6_inRegion_28 : decode cX6_inRegion 28 = .ok (.getfield 22, 3) := by decide +kernel
theorem dX6_inRegion_31 : decode cX6_inRegion 31 = .ok (.iload 4, 2) := by decide +kernel
theorem dX6_inRegion_33 : decode cX6_inRegion 33 = .ok (.invokevirtual 171, 3) := by decide +kernel
theorem dX6_inRegion_36 : decode cX6_inRegion 36 = .ok (.checkcast 108, 3) := by decide +kernel
theorem dX6_inRegion_39 : decode cX6_inRegion 39 = .ok (.astore 5, 2) := by decide +kernel
theorem dX6_inRegion_41 : decode cX6_inRegion 41 = .ok (.aload 5, 2) := by decide +kernel
theorem dX6_inRegion_43 : decode cX6_inRegion 43 = .ok (.getfield 157, 3) := by decide +kernel
theorem dX6_inRegion_46 : decode cX6_inRegion 46 = .ok (.iload_n 2, 1) := by decide +kernel
theorem dX6_inRegion_47 : decode cX6_inRegion 47 = .ok (.if_icmp .ne 21, 3) := by decide +kernel
theorem dX6_inRegion_50 : decode cX6_inRegion 50 = .ok (.aload_n 0, 1) := by decide +kernel
theorem dX6_inRegion_51 : decode cX6_inRegion 51 = .ok (.aload 5, 2) := by decide +kernel
theorem dX6_inRegion_53 : decode cX6_inRegion 53 = .ok (.invokevirtual 178, 3) := by decide +kernel
theorem dX6_inRegion_56 : decode cX6_inRegion 56 = .ok (.iload_n 1, 1) := by decide +kernel
theorem dX6_inRegion_57 : decode cX6_inRegion 57 = .ok (.if_icmp .ne 11, 3) := by decide +kernel
theorem dX6_inRegion_60 : decode cX6_inRegion 60 = .ok (.iload_n 3, 1) := by decide +kernel
theorem dX6_inRegion_61 : decode cX6_inRegion 61 = .ok (.aload 5, 2) := by decide +kernel
theorem dX6_inRegion_63 : decode cX6_inRegion 63 = .ok (.invokestatic 174, 3) := by decide +kernel
theorem dX6_inRegion_66 : decode cX6_inRegion 66 = .ok (.iadd, 1) := by decide +kernel
theorem dX6_inRegion_67 : decode cX6_inRegion 67 = .ok (.istore_n 3, 1) := by decide +kernel
theorem dX6_inRegion_68 : decode cX6_inRegion 68 = .ok (.iinc 4 1, 3) := by decide +kernel
theorem dX6_inRegion_71 : decode cX6_inRegion 71 = .ok (.goto (-56), 3) := by decide +kernel
theorem dX6_inRegion_74 : decode cX6_inRegion 74 = .ok (.iload_n 3, 1) := by decide +kernel
theorem dX6_inRegion_75 : decode cX6_inRegion 75 = .ok (.ireturn, 1) := by decide +kernel
theorem dX6_won_0 : decode cX6_won 0 = .ok (.aload_n 0, 1) := by decide +kernel
theorem dX6_won_1 : decode cX6_won 1 = .ok (.iload_n 1, 1) := by decide +kernel
theorem dX6_won_2 : decode cX6_won 2 = .ok (.invokevirtual 47, 3) := by decide +kernel
theorem dX6_won_5 : decode cX6_won 5 = .ok (.astore_n 2, 1) := by decide +kernel
theorem dX6_won_6 : decode cX6_won 6 = .ok (.iconst 0, 1) := by decide +kernel
theorem dX6_won_7 : decode cX6_won 7 = .ok (.istore_n 3, 1) := by decide +kernel
theorem dX6_won_8 : decode cX6_won 8 = .ok (.iconst 0, 1) := by decide +kernel
theorem dX6_won_9 : decode cX6_won 9 = .ok (.istore 4, 2) := by decide +kernel
theorem dX6_won_11 : decode cX6_won 11 = .ok (.iload 4, 2) := by decide +kernel
theorem dX6_won_13 : decode cX6_won 13 = .ok (.aload_n 0, 1) := by decide +kernel
theorem dX6_won_14 : decode cX6_won 14 = .ok (.getfield 22, 3) := by decide +kernel
theorem dX6_won_17 : decode cX6_won 17 = .ok (.invokevirtual 51, 3) := by decide +kernel
theorem dX6_won_20 : decode cX6_won 20 = .ok (.if_icmp .ge 52, 3) := by decide +kernel
theorem dX6_won_23 : decode cX6_won 23 = .ok (.aload_n 0, 1) := by decide +kernel
theorem dX6_won_24 : decode cX6_won 24 = .ok (.getfield 22, 3) := by decide +kernel
theorem dX6_won_27 : decode cX6_won 27 = .ok (.iload 4, 2) := by decide +kernel
theorem dX6_won_29 : decode cX6_won 29 = .ok (.invokevirtual 171, 3) := by decide +kernel
theorem dX6_won_32 : decode cX6_won 32 = .ok (.checkcast 108, 3) := by decide +kernel
theorem dX6_won_35 : decode cX6_won 35 = .ok (.astore 5, 2) := by decide +kernel
theorem dX6_won_37 : decode cX6_won 37 = .ok (.aload 5, 2) := by decide +kernel
theorem dX6_won_39 : decode cX6_won 39 = .ok (.getfield 157, 3) := by decide +kernel
theorem dX6_won_42 : decode cX6_won 42 = .ok (.iconst 4, 1) := by decide +kernel
theorem dX6_won_43 : decode cX6_won 43 = .ok (.if_icmp .ne 23, 3) := by decide +kernel
theorem dX6_won_46 : decode cX6_won 46 = .ok (.aload 5, 2) := by decide +kernel
theorem dX6_won_48 : decode cX6_won 48 = .ok (.getfield 164, 3) := by decide +kernel
theorem dX6_won_51 : decode cX6_won 51 = .ok (.aload_n 2, 1) := by decide +kernel
theorem dX6_won_52 : decode cX6_won 52 = .ok (.invokestatic 181, 3) := by decide +kernel
theorem dX6_won_55 : decode cX6_won 55 = .ok (.ifCond .eq 11, 3) := by decide +kernel
theorem dX6_won_58 : decode cX6_won 58 = .ok (.iload_n 3, 1) := by decide +kernel
theorem dX6_won_59 : decode cX6_won 59 = .ok (.aload 5, 2) := by decide +kernel
theorem dX6_won_61 : decode cX6_won 61 = .ok (.invokestatic 174, 3) := by decide +kernel
theorem dX6_won_64 : decode cX6_won 64 = .ok (.iadd, 1) := by decide +kernel
theorem dX6_won_65 : decode cX6_won 65 = .ok (.istore_n 3, 1) := by decide +kernel
theorem dX6_won_66 : decode cX6_won 66 = .ok (.iinc 4 1, 3) := by decide +kernel
theorem dX6_won_69 : decode cX6_won 69 = .ok (.goto (-58), 3) := by decide +kernel
theorem dX6_won_72 : decode cX6_won 72 = .ok (.iload_n 3, 1) := by decide +kernel
theorem dX6_won_73 : decode cX6_won 73 = .ok (.ireturn, 1) := by decide +kernel
theorem dX6_quote_0 : decode cX6_quote 0 = .ok (.aload_n 0, 1) := by decide +kernel
theorem dX6_quote_1 : decode cX6_quote 1 = .ok (.iload_n 1, 1) := by decide +kernel
theorem dX6_quote_2 : decode cX6_quote 2 = .ok (.invokevirtual 122, 3) := by decide +kernel
theorem dX6_quote_5 : decode cX6_quote 5 = .ok (.astore 4, 2) := by decide +kernel
theorem dX6_quote_7 : decode cX6_quote 7 = .ok (.aload_n 0, 1) := by decide +kernel
theorem dX6_quote_8 : decode cX6_quote 8 = .ok (.iload_n 2, 1) := by decide +kernel
theorem dX6_quote_9 : decode cX6_quote 9 = .ok (.invokevirtual 94, 3) := by decide +kernel
theorem dX6_quote_12 : decode cX6_quote 12 = .ok (.astore 5, 2) := by decide +kernel
theorem dX6_quote_14 : decode cX6_quote 14 = .ok (.iload_n 3, 1) := by decide +kernel
theorem dX6_quote_15 : decode cX6_quote 15 = .ok (.iconst 0, 1) := by decide +kernel
theorem dX6_quote_16 : decode cX6_quote 16 = .ok (.bipush 99, 2) := by decide +kernel
theorem dX6_quote_18 : decode cX6_quote 18 = .ok (.invokestatic 35, 3) := by decide +kernel
theorem dX6_quote_21 : decode cX6_quote 21 = .ok (.aload 4, 2) := by decide +kernel
theorem dX6_quote_23 : decode cX6_quote 23 = .ok (.invokestatic 131, 3) := by decide +kernel
theorem dX6_quote_26 : decode cX6_quote 26 = .ok (.aload_n 0, 1) := by decide +kernel
theorem dX6_quote_27 : decode cX6_quote 27 = .ok (.getfield 25, 3) := by decide +kernel
theorem dX6_quote_30 : decode cX6_quote 30 = .ok (.invokevirtual 51, 3) := by decide +kernel
theorem dX6_quote_33 : decode cX6_quote 33 = .ok (.bipush 40, 2) := by decide +kernel
theorem dX6_quote_35 : decode cX6_quote 35 = .ok (.invokestatic 55, 3) := by decide +kernel
theorem dX6_quote_38 : decode cX6_quote 38 = .ok (.new 185, 3) := by decide +kernel
theorem dX6_quote_41 : decode cX6_quote 41 = .ok (.dup, 1) := by decide +kernel
theorem dX6_quote_42 : decode cX6_quote 42 = .ok (.aload_n 0, 1) := by decide +kernel
theorem dX6_quote_43 : decode cX6_quote 43 = .ok (.getfield 25, 3) := by decide +kernel
theorem dX6_quote_46 : decode cX6_quote 46 = .ok (.invokevirtual 51, 3) := by decide +kernel
theorem dX6_quote_49 : decode cX6_quote 49 = .ok (.aload 4, 2) := by decide +kernel
theorem dX6_quote_51 : decode cX6_quote 51 = .ok (.aload 5, 2) := by decide +kernel
theorem dX6_quote_53 : decode cX6_quote 53 = .ok (.iload_n 3, 1) := by decide +kernel
theorem dX6_quote_54 : decode cX6_quote 54 = .ok (.invokespecial 187, 3) := by decide +kernel
theorem dX6_quote_57 : decode cX6_quote 57 = .ok (.astore 6, 2) := by decide +kernel
theorem dX6_quote_59 : decode cX6_quote 59 = .ok (.aload_n 0, 1) := by decide +kernel
theorem dX6_quote_60 : decode cX6_quote 60 = .ok (.getfield 25, 3) := by decide +kernel
theorem dX6_quote_63 : decode cX6_quote 63 = .ok (.aload 6, 2) := by decide +kernel
theorem dX6_quote_65 : decode cX6_quote 65 = .ok (.invokevirtual 64, 3) := by decide +kernel
theorem dX6_quote_68 : decode cX6_quote 68 = .ok (.pop, 1) := by decide +kernel
theorem dX6_quote_69 : decode cX6_quote 69 = .ok (.iload_n 3, 1) := by decide +kernel
theorem dX6_quote_70 : decode cX6_quote 70 = .ok (.aload 5, 2) := by decide +kernel
theorem dX6_quote_72 : decode cX6_quote 72 = .ok (.getfield 190, 3) := by decide +kernel
theorem dX6_quote_75 : decode cX6_quote 75 = .ok (.if_icmp .gt 8, 3) := by decide +kernel
theorem dX6_quote_78 : decode cX6_quote 78 = .ok (.aload 6, 2) := by decide +kernel
theorem dX6_quote_80 : decode cX6_quote 80 = .ok (.invokestatic 193, 3) := by decide +kernel
theorem dX6_quote_83 : decode cX6_quote 83 = .ok (.aload 6, 2) := by decide +kernel
theorem dX6_quote_85 : decode cX6_quote 85 = .ok (.getfield 197, 3) := by decide +kernel
theorem dX6_quote_88 : decode cX6_quote 88 = .ok (.ireturn, 1) := by decide +kernel
theorem dX6_approve_0 : decode cX6_approve 0 = .ok (.aload_n 0, 1) := by decide +kernel
theorem dX6_approve_1 : decode cX6_approve 1 = .ok (.iload_n 1, 1) := by decide +kernel
theorem dX6_approve_2 : decode cX6_approve 2 = .ok (.invokevirtual 198, 3) := by decide +kernel
theorem dX6_approve_5 : decode cX6_approve 5 = .ok (.astore_n 3, 1) := by decide +kernel
theorem dX6_approve_6 : decode cX6_approve 6 = .ok (.aload_n 0, 1) := by decide +kernel
theorem dX6_approve_7 : decode cX6_approve 7 = .ok (.iload_n 2, 1) := by decide +kernel
theorem dX6_approve_8 : decode cX6_approve 8 = .ok (.invokevirtual 94, 3) := by decide +kernel
theorem dX6_approve_11 : decode cX6_approve 11 = .ok (.astore 4, 2) := by decide +kernel
theorem dX6_approve_13 : decode cX6_approve 13 = .ok (.aload_n 3, 1) := by decide +kernel
theorem dX6_approve_14 : decode cX6_approve 14 = .ok (.getfield 202, 3) := by decide +kernel
theorem dX6_approve_17 : decode cX6_approve 17 = .ok (.invokestatic 131, 3) := by decide +kernel
theorem dX6_approve_20 : decode cX6_approve 20 = .ok (.aload_n 3, 1) := by decide +kernel
theorem dX6_approve_21 : decode cX6_approve 21 = .ok (.getfield 206, 3) := by decide +kernel
theorem dX6_approve_24 : decode cX6_approve 24 = .ok (.ifCond .ne 12, 3) := by decide +kernel
theorem dX6_approve_27 : decode cX6_approve 27 = .ok (.aload_n 3, 1) := by decide +kernel
theorem dX6_approve_28 : decode cX6_approve 28 = .ok (.aload 4, 2) := by decide +kernel
theorem dX6_approve_30 : decode cX6_approve 30 = .ok (.invokestatic 210, 3) := by decide +kernel
theorem dX6_approve_33 : decode cX6_approve 33 = .ok (.ifCond .ne 13, 3) := by decide +kernel
theorem dX6_approve_36 : decode cX6_approve 36 = .ok (.new 40, 3) := by decide +kernel
theorem dX6_approve_39 : decode cX6_approve 39 = .ok (.dup, 1) := by decide +kernel
theorem dX6_approve_40 : decode cX6_approve 40 = .ok (.ldc 214, 2) := by decide +kernel
theorem dX6_approve_42 : decode cX6_approve 42 = .ok (.invokespecial 44, 3) := by decide +kernel
theorem dX6_approve_45 : decode cX6_approve 45 = .ok (.athrow, 1) := by decide +kernel
theorem dX6_approve_46 : decode cX6_approve 46 = .ok (.aload_n 3, 1) := by decide +kernel
theorem dX6_approve_47 : decode cX6_approve 47 = .ok (.invokestatic 193, 3) := by decide +kernel
theorem dX6_approve_50 : decode cX6_approve 50 = .ok (.return_, 1) := by decide +kernel
theorem dX6_counting_0 : decode cX6_counting 0 = .ok (.aload_n 0, 1) := by decide +kernel
theorem dX6_counting_1 : decode cX6_counting 1 = .ok (.iload_n 1, 1) := by decide +kernel
theorem dX6_counting_2 : decode cX6_counting 2 = .ok (.invokevirtual 122, 3) := by decide +kernel
theorem dX6_counting_5 : decode cX6_counting 5 = .ok (.getfield 216, 3) := by decide +kernel
theorem dX6_counting_8 : decode cX6_counting 8 = .ok (.astore_n 2, 1) := by decide +kernel
theorem dX6_counting_9 : decode cX6_counting 9 = .ok (.aload_n 2, 1) := by decide +kernel
theorem dX6_counting_10 : decode cX6_counting 10 = .ok (.ifnonnull 13, 3) := by decide +kernel
theorem dX6_counting_13 : decode cX6_counting 13 = .ok (.new 220, 3) := by decide +kernel
theorem dX6_counting_16 : decode cX6_counting 16 = .ok (.dup, 1) := by decide +kernel
theorem dX6_counting_17 : decode cX6_counting 17 = .ok (.ldc 222, 2) := by decide +kernel
theorem dX6_counting_19 : decode cX6_counting 19 = .ok (.invokespecial 224, 3) := by decide +kernel
theorem dX6_counting_22 : decode cX6_counting 22 = .ok (.athrow, 1) := by decide +kernel
theorem dX6_counting_23 : decode cX6_counting 23 = .ok (.aload_n 2, 1) := by decide +kernel
theorem dX6_counting_24 : decode cX6_counting 24 = .ok (.getfield 197, 3) := by decide +kernel
theorem dX6_counting_27 : decode cX6_counting 27 = .ok (.ireturn, 1) := by decide +kernel
theorem dX6_waiting_0 : decode cX6_waiting 0 = .ok (.iconst 0, 1) := by decide +kernel
theorem dX6_waiting_1 : decode cX6_waiting 1 = .ok (.istore_n 1, 1) := by decide +kernel
theorem dX6_waiting_2 : decode cX6_waiting 2 = .ok (.iconst 0, 1) := by decide +kernel
theorem dX6_waiting_3 : decode cX6_waiting 3 = .ok (.istore_n 2, 1) := by decide +kernel
theorem dX6_waiting_4 : decode cX6_waiting 4 = .ok (.iload_n 2, 1) := by decide +kernel
theorem dX6_waiting_5 : decode cX6_waiting 5 = .ok (.aload_n 0, 1) := by decide +kernel
theorem dX6_waiting_6 : decode cX6_waiting 6 = .ok (.getfield 25, 3) := by decide +kernel
theorem dX6_waiting_9 : decode cX6_waiting 9 = .ok (.invokevirtual 51, 3) := by decide +kernel
theorem dX6_waiting_12 : decode cX6_waiting 12 = .ok (.if_icmp .ge 41, 3) := by decide +kernel
theorem dX6_waiting_15 : decode cX6_waiting 15 = .ok (.aload_n 0, 1) := by decide +kernel
theorem dX6_waiting_16 : decode cX6_waiting 16 = .ok (.getfield 25, 3) := by decide +kernel
theorem dX6_waiting_19 : decode cX6_waiting 19 = .ok (.iload_n 2, 1) := by decide +kernel
theorem dX6_waiting_20 : decode cX6_waiting 20 = .ok (.invokevirtual 171, 3) := by decide +kernel
theorem dX6_waiting_23 : decode cX6_waiting 23 = .ok (.checkcast 185, 3) := by decide +kernel
theorem dX6_waiting_26 : decode cX6_waiting 26 = .ok (.astore_n 3, 1) := by decide +kernel
theorem dX6_waiting_27 : decode cX6_waiting 27 = .ok (.aload_n 3, 1) := by decide +kernel
theorem dX6_waiting_28 : decode cX6_waiting 28 = .ok (.getfield 206, 3) := by decide +kernel
theorem dX6_waiting_31 : decode cX6_waiting 31 = .ok (.ifCond .ne 16, 3) := by decide +kernel
theorem dX6_waiting_34 : decode cX6_waiting 34 = .ok (.aload_n 3, 1) := by decide +kernel
theorem dX6_waiting_35 : decode cX6_waiting 35 = .ok (.getfield 202, 3) := by decide +kernel
theorem dX6_waiting_38 : decode cX6_waiting 38 = .ok (.invokestatic 160, 3) := by decide +kernel
theorem dX6_waiting_41 : decode cX6_waiting 41 = .ok (.ifCond .eq 6, 3) := by decide +kernel
theorem dX6_waiting_44 : decode cX6_waiting 44 = .ok (.iinc 1 1, 3) := by decide +kernel
theorem dX6_waiting_47 : decode cX6_waiting 47 = .ok (.iinc 2 1, 3) := by decide +kernel
theorem dX6_waiting_50 : decode cX6_waiting 50 = .ok (.goto (-46), 3) := by decide +kernel
theorem dX6_waiting_53 : decode cX6_waiting 53 = .ok (.iload_n 1, 1) := by decide +kernel
theorem dX6_waiting_54 : decode cX6_waiting 54 = .ok (.ireturn, 1) := by decide +kernel
theorem dX6_forecast_0 : decode cX6_forecast 0 = .ok (.aload_n 0, 1) := by decide +kernel
theorem dX6_forecast_1 : decode cX6_forecast 1 = .ok (.aload_n 0, 1) := by decide +kernel
theorem dX6_forecast_2 : decode cX6_forecast 2 = .ok (.iload_n 1, 1) := by decide +kernel
theorem dX6_forecast_3 : decode cX6_forecast 3 = .ok (.invokevirtual 94, 3) := by decide +kernel
theorem dX6_forecast_6 : decode cX6_forecast 6 = .ok (.invokevirtual 225, 3) := by decide +kernel
theorem dX6_forecast_9 : decode cX6_forecast 9 = .ok (.ireturn, 1) := by decide +kernel
theorem dX6_own_0 : decode cX6_own 0 = .ok (.aload_n 0, 1) := by decide +kernel
theorem dX6_own_1 : decode cX6_own 1 = .ok (.aload_n 0, 1) := by decide +kernel
theorem dX6_own_2 : decode cX6_own 2 = .ok (.iload_n 1, 1) := by decide +kernel
theorem dX6_own_3 : decode cX6_own 3 = .ok (.invokevirtual 94, 3) := by decide +kernel
theorem dX6_own_6 : decode cX6_own 6 = .ok (.invokevirtual 229, 3) := by decide +kernel
theorem dX6_own_9 : decode cX6_own 9 = .ok (.ireturn, 1) := by decide +kernel
theorem dX6_freeze_0 : decode cX6_freeze 0 = .ok (.aload_n 0, 1) := by decide +kernel
theorem dX6_freeze_1 : decode cX6_freeze 1 = .ok (.getfield 28, 3) := by decide +kernel
theorem dX6_freeze_4 : decode cX6_freeze 4 = .ok (.invokevirtual 51, 3) := by decide +kernel
theorem dX6_freeze_7 : decode cX6_freeze 7 = .ok (.bipush 20, 2) := by decide +kernel
theorem dX6_freeze_9 : decode cX6_freeze 9 = .ok (.invokestatic 55, 3) := by decide +kernel
theorem dX6_freeze_12 : decode cX6_freeze 12 = .ok (.new 232, 3) := by decide +kernel
theorem dX6_freeze_15 : decode cX6_freeze 15 = .ok (.dup, 1) := by decide +kernel
theorem dX6_freeze_16 : decode cX6_freeze 16 = .ok (.invokespecial 234, 3) := by decide +kernel
theorem dX6_freeze_19 : decode cX6_freeze 19 = .ok (.astore_n 1, 1) := by decide +kernel
theorem dX6_freeze_20 : decode cX6_freeze 20 = .ok (.iconst 0, 1) := by decide +kernel
theorem dX6_freeze_21 : decode cX6_freeze 21 = .ok (.istore_n 2, 1) := by decide +kernel
theorem dX6_freeze_22 : decode cX6_freeze 22 = .ok (.iload_n 2, 1) := by decide +kernel
theorem dX6_freeze_23 : decode cX6_freeze 23 = .ok (.aload_n 0, 1) := by decide +kernel
theorem dX6_freeze_24 : decode cX6_freeze 24 = .ok (.getfield 19, 3) := by decide +kernel
theorem dX6_freeze_27 : decode cX6_freeze 27 = .ok (.invokevirtual 51, 3) := by decide +kernel
theorem dX6_freeze_30 : decode cX6_freeze 30 = .ok (.if_icmp .ge 37, 3) := by decide +kernel
theorem dX6_freeze_33 : decode cX6_freeze 33 = .ok (.aload_n 0, 1) := by decide +kernel
theorem dX6_freeze_34 : decode cX6_freeze 34 = .ok (.getfield 19, 3) := by decide +kernel
theorem dX6_freeze_37 : decode cX6_freeze 37 = .ok (.iload_n 2, 1) := by decide +kernel
theorem dX6_freeze_38 : decode cX6_freeze 38 = .ok (.invokevirtual 171, 3) := by decide +kernel
theorem dX6_freeze_41 : decode cX6_freeze 41 = .ok (.checkcast 98, 3) := by decide +kernel
theorem dX6_freeze_44 : decode cX6_freeze 44 = .ok (.astore_n 3, 1) := by decide +kernel
theorem dX6_freeze_45 : decode cX6_freeze 45 = .ok (.aload_n 1, 1) := by decide +kernel
theorem dX6_freeze_46 : decode cX6_freeze 46 = .ok (.getfield 235, 3) := by decide +kernel
theorem dX6_freeze_49 : decode cX6_freeze 49 = .ok (.aload_n 3, 1) := by decide +kernel
theorem dX6_freeze_50 : decode cX6_freeze 50 = .ok (.getfield 115, 3) := by decide +kernel
theorem dX6_freeze_53 : decode cX6_freeze 53 = .ok (.aload_n 0, 1) := by decide +kernel
theorem dX6_freeze_54 : decode cX6_freeze 54 = .ok (.aload_n 3, 1) := by decide +kernel
theorem dX6_freeze_55 : decode cX6_freeze 55 = .ok (.invokevirtual 225, 3) := by decide +kernel
theorem dX6_freeze_58 : decode cX6_freeze 58 = .ok (.invokestatic 118, 3) := by decide +kernel
theorem dX6_freeze_61 : decode cX6_freeze 61 = .ok (.iinc 2 1, 3) := by decide +kernel
theorem dX6_freeze_64 : decode cX6_freeze 64 = .ok (.goto (-42), 3) := by decide +kernel
theorem dX6_freeze_67 : decode cX6_freeze 67 = .ok (.aload_n 0, 1) := by decide +kernel
theorem dX6_freeze_68 : decode cX6_freeze 68 = .ok (.getfield 28, 3) := by decide +kernel
theorem dX6_freeze_71 : decode cX6_freeze 71 = .ok (.aload_n 1, 1) := by decide +kernel
theorem dX6_freeze_72 : decode cX6_freeze 72 = .ok (.invokevirtual 64, 3) := by decide +kernel
theorem dX6_freeze_75 : decode cX6_freeze 75 = .ok (.pop, 1) := by decide +kernel
theorem dX6_freeze_76 : decode cX6_freeze 76 = .ok (.aload_n 0, 1) := by decide +kernel
theorem dX6_freeze_77 : decode cX6_freeze 77 = .ok (.getfield 28, 3) := by decide +kernel
theorem dX6_freeze_80 : decode cX6_freeze 80 = .ok (.invokevirtual 51, 3) := by decide +kernel
theorem dX6_freeze_83 : decode cX6_freeze 83 = .ok (.iconst 1, 1) := by decide +kernel
theorem dX6_freeze_84 : decode cX6_freeze 84 = .ok (.isub, 1) := by decide +kernel
theorem dX6_freeze_85 : decode cX6_freeze 85 = .ok (.ireturn, 1) := by decide +kernel
theorem dX6_since_0 : decode cX6_since 0 = .ok (.iload_n 1, 1) := by decide +kernel
theorem dX6_since_1 : decode cX6_since 1 = .ok (.ifCond .lt 14, 3) := by decide +kernel
theorem dX6_since_4 : decode cX6_since 4 = .ok (.iload_n 1, 1) := by decide +kernel
theorem dX6_since_5 : decode cX6_since 5 = .ok (.aload_n 0, 1) := by decide +kernel
theorem dX6_since_6 : decode cX6_since 6 = .ok (.getfield 28, 3) := by decide +kernel
theorem dX6_since_9 : decode cX6_since 9 = .ok (.invokevirtual 51, 3) := by decide +kernel
theorem dX6_since_12 : decode cX6_since 12 = .ok (.if_icmp .lt 13, 3) := by decide +kernel
theorem dX6_since_15 : decode cX6_since 15 = .ok (.new 68, 3) := by decide +kernel
theorem dX6_since_18 : decode cX6_since 18 = .ok (.dup, 1) := by decide +kernel
theorem dX6_since_19 : decode cX6_since 19 = .ok (.ldc 238, 2) := by decide +kernel
theorem dX6_since_21 : decode cX6_since 21 = .ok (.invokespecial 72, 3) := by decide +kernel
theorem dX6_since_24 : decode cX6_since 24 = .ok (.athrow, 1) := by decide +kernel
theorem dX6_since_25 : decode cX6_since 25 = .ok (.aload_n 0, 1) := by decide +kernel
theorem dX6_since_26 : decode cX6_since 26 = .ok (.iload_n 2, 1) := by decide +kernel
theorem dX6_since_27 : decode cX6_since 27 = .ok (.invokevirtual 94, 3) := by decide +kernel
theorem dX6_since_30 : decode cX6_since 30 = .ok (.astore_n 3, 1) := by decide +kernel
theorem dX6_since_31 : decode cX6_since 31 = .ok (.aload_n 0, 1) := by decide +kernel
theorem dX6_since_32 : decode cX6_since 32 = .ok (.aload_n 3, 1) := by decide +kernel
theorem dX6_since_33 : decode cX6_since 33 = .ok (.invokevirtual 225, 3) := by decide +kernel
theorem dX6_since_36 : decode cX6_since 36 = .ok (.aload_n 0, 1) := by decide +kernel
theorem dX6_since_37 : decode cX6_since 37 = .ok (.getfield 28, 3) := by decide +kernel
theorem dX6_since_40 : decode cX6_since 40 = .ok (.iload_n 1, 1) := by decide +kernel
theorem dX6_since_41 : decode cX6_since 41 = .ok (.invokevirtual 171, 3) := by decide +kernel
theorem dX6_since_44 : decode cX6_since 44 = .ok (.checkcast 232, 3) := by decide +kernel
theorem dX6_since_47 : decode cX6_since 47 = .ok (.getfield 235, 3) := by decide +kernel
theorem dX6_since_50 : decode cX6_since 50 = .ok (.aload_n 3, 1) := by decide +kernel
theorem dX6_since_51 : decode cX6_since 51 = .ok (.getfield 115, 3) := by decide +kernel
theorem dX6_since_54 : decode cX6_since 54 = .ok (.invokestatic 135, 3) := by decide +kernel
theorem dX6_since_57 : decode cX6_since 57 = .ok (.isub, 1) := by decide +kernel
theorem dX6_since_58 : decode cX6_since 58 = .ok (.ireturn, 1) := by decide +kernel
theorem dX6_accountAt_0 : decode cX6_accountAt 0 = .ok (.iload_n 1, 1) := by decide +kernel
theorem dX6_accountAt_1 : decode cX6_accountAt 1 = .ok (.ifCond .lt 14, 3) := by decide +kernel
theorem dX6_accountAt_4 : decode cX6_accountAt 4 = .ok (.iload_n 1, 1) := by decide +kernel
theorem dX6_accountAt_5 : decode cX6_accountAt 5 = .ok (.aload_n 0, 1) := by decide +kernel
theorem dX6_accountAt_6 : decode cX6_accountAt 6 = .ok (.getfield 10, 3) := by decide +kernel
theorem dX6_accountAt_9 : decode cX6_accountAt 9 = .ok (.invokevirtual 51, 3) := by decide +kernel
theorem dX6_accountAt_12 : decode cX6_accountAt 12 = .ok (.if_icmp .lt 13, 3) := by decide +kernel
theorem dX6_accountAt_15 : decode cX6_accountAt 15 = .ok (.new 68, 3) := by decide +kernel
theorem dX6_accountAt_18 : decode cX6_accountAt 18 = .ok (.dup, 1) := by decide +kernel
theorem dX6_accountAt_19 : decode cX6_accountAt 19 = .ok (.ldc 240, 2) := by decide +kernel
theorem dX6_accountAt_21 : decode cX6_accountAt 21 = .ok (.invokespecial 72, 3) := by decide +kernel
theorem dX6_accountAt_24 : decode cX6_accountAt 24 = .ok (.athrow, 1) := by decide +kernel
theorem dX6_accountAt_25 : decode cX6_accountAt 25 = .ok (.aload_n 0, 1) := by decide +kernel
theorem dX6_accountAt_26 : decode cX6_accountAt 26 = .ok (.getfield 10, 3) := by decide +kernel
theorem dX6_accountAt_29 : decode cX6_accountAt 29 = .ok (.iload_n 1, 1) := by decide +kernel
theorem dX6_accountAt_30 : decode cX6_accountAt 30 = .ok (.invokevirtual 171, 3) := by decide +kernel
theorem dX6_accountAt_33 : decode cX6_accountAt 33 = .ok (.checkcast 59, 3) := by decide +kernel
theorem dX6_accountAt_36 : decode cX6_accountAt 36 = .ok (.areturn, 1) := by decide +kernel
theorem dX6_sellerAt_0 : decode cX6_sellerAt 0 = .ok (.iload_n 1, 1) := by decide +kernel
theorem dX6_sellerAt_1 : decode cX6_sellerAt 1 = .ok (.ifCond .lt 14, 3) := by decide +kernel
theorem dX6_sellerAt_4 : decode cX6_sellerAt 4 = .ok (.iload_n 1, 1) := by decide +kernel
theorem dX6_sellerAt_5 : decode cX6_sellerAt 5 = .ok (.aload_n 0, 1) := by decide +kernel
theorem dX6_sellerAt_6 : decode cX6_sellerAt 6 = .ok (.getfield 19, 3) := by decide +kernel
theorem dX6_sellerAt_9 : decode cX6_sellerAt 9 = .ok (.invokevirtual 51, 3) := by decide +kernel
theorem dX6_sellerAt_12 : decode cX6_sellerAt 12 = .ok (.if_icmp .lt 13, 3) := by decide +kernel
theorem dX6_sellerAt_15 : decode cX6_sellerAt 15 = .ok (.new 68, 3) := by decide +kernel
theorem dX6_sellerAt_18 : decode cX6_sellerAt 18 = .ok (.dup, 1) := by decide +kernel
theorem dX6_sellerAt_19 : decode cX6_sellerAt 19 = .ok (.ldc 242, 2) := by decide +kernel
theorem dX6_sellerAt_21 : decode cX6_sellerAt 21 = .ok (.invokespecial 72, 3) := by decide +kernel
theorem dX6_sellerAt_24 : decode cX6_sellerAt 24 = .ok (.athrow, 1) := by decide +kernel
theorem dX6_sellerAt_25 : decode cX6_sellerAt 25 = .ok (.aload_n 0, 1) := by decide +kernel
theorem dX6_sellerAt_26 : decode cX6_sellerAt 26 = .ok (.getfield 19, 3) := by decide +kernel
theorem dX6_sellerAt_29 : decode cX6_sellerAt 29 = .ok (.iload_n 1, 1) := by decide +kernel
theorem dX6_sellerAt_30 : decode cX6_sellerAt 30 = .ok (.invokevirtual 171, 3) := by decide +kernel
theorem dX6_sellerAt_33 : decode cX6_sellerAt 33 = .ok (.checkcast 98, 3) := by decide +kernel
theorem dX6_sellerAt_36 : decode cX6_sellerAt 36 = .ok (.areturn, 1) := by decide +kernel
theorem dX6_chanceAt_0 : decode cX6_chanceAt 0 = .ok (.iload_n 1, 1) := by decide +kernel
theorem dX6_chanceAt_1 : decode cX6_chanceAt 1 = .ok (.ifCond .lt 14, 3) := by decide +kernel
theorem dX6_chanceAt_4 : decode cX6_chanceAt 4 = .ok (.iload_n 1, 1) := by decide +kernel
theorem dX6_chanceAt_5 : decode cX6_chanceAt 5 = .ok (.aload_n 0, 1) := by decide +kernel
theorem dX6_chanceAt_6 : decode cX6_chanceAt 6 = .ok (.getfield 22, 3) := by decide +kernel
theorem dX6_chanceAt_9 : decode cX6_chanceAt 9 = .ok (.invokevirtual 51, 3) := by decide +kernel
theorem dX6_chanceAt_12 : decode cX6_chanceAt 12 = .ok (.if_icmp .lt 13, 3) := by decide +kernel
theorem dX6_chanceAt_15 : decode cX6_chanceAt 15 = .ok (.new 68, 3) := by decide +kernel
theorem dX6_chanceAt_18 : decode cX6_chanceAt 18 = .ok (.dup, 1) := by decide +kernel
theorem dX6_chanceAt_19 : decode cX6_chanceAt 19 = .ok (.ldc 244, 2) := by decide +kernel
theorem dX6_chanceAt_21 : decode cX6_chanceAt 21 = .ok (.invokespecial 72, 3) := by decide +kernel
theorem dX6_chanceAt_24 : decode cX6_chanceAt 24 = .ok (.athrow, 1) := by decide +kernel
theorem dX6_chanceAt_25 : decode cX6_chanceAt 25 = .ok (.aload_n 0, 1) := by decide +kernel
theorem dX6_chanceAt_26 : decode cX6_chanceAt 26 = .ok (.getfield 22, 3) := by decide +kernel
theorem dX6_chanceAt_29 : decode cX6_chanceAt 29 = .ok (.iload_n 1, 1) := by decide +kernel
theorem dX6_chanceAt_30 : decode cX6_chanceAt 30 = .ok (.invokevirtual 171, 3) := by decide +kernel
theorem dX6_chanceAt_33 : decode cX6_chanceAt 33 = .ok (.checkcast 108, 3) := by decide +kernel
theorem dX6_chanceAt_36 : decode cX6_chanceAt 36 = .ok (.areturn, 1) := by decide +kernel
theorem dX6_quoteAt_0 : decode cX6_quoteAt 0 = .ok (.iload_n 1, 1) := by decide +kernel
theorem dX6_quoteAt_1 : decode cX6_quoteAt 1 = .ok (.ifCond .lt 14, 3) := by decide +kernel
theorem dX6_quoteAt_4 : decode cX6_quoteAt 4 = .ok (.iload_n 1, 1) := by decide +kernel
theorem dX6_quoteAt_5 : decode cX6_quoteAt 5 = .ok (.aload_n 0, 1) := by decide +kernel
theorem dX6_quoteAt_6 : decode cX6_quoteAt 6 = .ok (.getfield 25, 3) := by decide +kernel
theorem dX6_quoteAt_9 : decode cX6_quoteAt 9 = .ok (.invokevirtual 51, 3) := by decide +kernel
theorem dX6_quoteAt_12 : decode cX6_quoteAt 12 = .ok (.if_icmp .lt 13, 3) := by decide +kernel
theorem dX6_quoteAt_15 : decode cX6_quoteAt 15 = .ok (.new 68, 3) := by decide +kernel
theorem dX6_quoteAt_18 : decode cX6_quoteAt 18 = .ok (.dup, 1) := by decide +kernel
theorem dX6_quoteAt_19 : decode cX6_quoteAt 19 = .ok (.ldc 246, 2) := by decide +kernel
theorem dX6_quoteAt_21 : decode cX6_quoteAt 21 = .ok (.invokespecial 72, 3) := by decide +kernel
theorem dX6_quoteAt_24 : decode cX6_quoteAt 24 = .ok (.athrow, 1) := by decide +kernel
theorem dX6_quoteAt_25 : decode cX6_quoteAt 25 = .ok (.aload_n 0, 1) := by decide +kernel
theorem dX6_quoteAt_26 : decode cX6_quoteAt 26 = .ok (.getfield 25, 3) := by decide +kernel
theorem dX6_quoteAt_29 : decode cX6_quoteAt 29 = .ok (.iload_n 1, 1) := by decide +kernel
theorem dX6_quoteAt_30 : decode cX6_quoteAt 30 = .ok (.invokevirtual 171, 3) := by decide +kernel
theorem dX6_quoteAt_33 : decode cX6_quoteAt 33 = .ok (.checkcast 185, 3) := by decide +kernel
theorem dX6_quoteAt_36 : decode cX6_quoteAt 36 = .ok (.areturn, 1) := by decide +kernel
theorem dX6_requireRange_0 : decode cX6_requireRange 0 = .ok (.iload_n 0, 1) := by decide +kernel
theorem dX6_requireRange_1 : decode cX6_requireRange 1 = .ok (.iload_n 1, 1) := by decide +kernel
theorem dX6_requireRange_2 : decode cX6_requireRange 2 = .ok (.if_icmp .lt 8, 3) := by decide +kernel
theorem dX6_requireRange_5 : decode cX6_requireRange 5 = .ok (.iload_n 0, 1) := by decide +kernel
theorem dX6_requireRange_6 : decode cX6_requireRange 6 = .ok (.iload_n 2, 1) := by decide +kernel
theorem dX6_requireRange_7 : decode cX6_requireRange 7 = .ok (.if_icmp .le 13, 3) := by decide +kernel
theorem dX6_requireRange_10 : decode cX6_requireRange 10 = .ok (.new 126, 3) := by decide +kernel
theorem dX6_requireRange_13 : decode cX6_requireRange 13 = .ok (.dup, 1) := by decide +kernel
theorem dX6_requireRange_14 : decode cX6_requireRange 14 = .ok (.ldc 248, 2) := by decide +kernel
theorem dX6_requireRange_16 : decode cX6_requireRange 16 = .ok (.invokespecial 130, 3) := by decide +kernel
theorem dX6_requireRange_19 : decode cX6_requireRange 19 = .ok (.athrow, 1) := by decide +kernel
theorem dX6_requireRange_20 : decode cX6_requireRange 20 = .ok (.return_, 1) := by decide +kernel
theorem dX6_requireStage_0 : decode cX6_requireStage 0 = .ok (.iload_n 0, 1) := by decide +kernel
theorem dX6_requireStage_1 : decode cX6_requireStage 1 = .ok (.iconst 0, 1) := by decide +kernel
theorem dX6_requireStage_2 : decode cX6_requireStage 2 = .ok (.iconst 5, 1) := by decide +kernel
theorem dX6_requireStage_3 : decode cX6_requireStage 3 = .ok (.invokestatic 35, 3) := by decide +kernel
theorem dX6_requireStage_6 : decode cX6_requireStage 6 = .ok (.return_, 1) := by decide +kernel
theorem dX6_requireRoom_0 : decode cX6_requireRoom 0 = .ok (.iload_n 0, 1) := by decide +kernel
theorem dX6_requireRoom_1 : decode cX6_requireRoom 1 = .ok (.iload_n 1, 1) := by decide +kernel
theorem dX6_requireRoom_2 : decode cX6_requireRoom 2 = .ok (.if_icmp .lt 13, 3) := by decide +kernel
theorem dX6_requireRoom_5 : decode cX6_requireRoom 5 = .ok (.new 40, 3) := by decide +kernel
theorem dX6_requireRoom_8 : decode cX6_requireRoom 8 = .ok (.dup, 1) := by decide +kernel
theorem dX6_requireRoom_9 : decode cX6_requireRoom 9 = .ok (.ldc 250, 2) := by decide +kernel
theorem dX6_requireRoom_11 : decode cX6_requireRoom 11 = .ok (.invokespecial 44, 3) := by decide +kernel
theorem dX6_requireRoom_14 : decode cX6_requireRoom 14 = .ok (.athrow, 1) := by decide +kernel
theorem dX6_requireRoom_15 : decode cX6_requireRoom 15 = .ok (.return_, 1) := by decide +kernel
theorem dX6_requireOpen_0 : decode cX6_requireOpen 0 = .ok (.aload_n 0, 1) := by decide +kernel
theorem dX6_requireOpen_1 : decode cX6_requireOpen 1 = .ok (.invokestatic 160, 3) := by decide +kernel
theorem dX6_requireOpen_4 : decode cX6_requireOpen 4 = .ok (.ifCond .ne 13, 3) := by decide +kernel
theorem dX6_requireOpen_7 : decode cX6_requireOpen 7 = .ok (.new 40, 3) := by decide +kernel
theorem dX6_requireOpen_10 : decode cX6_requireOpen 10 = .ok (.dup, 1) := by decide +kernel
theorem dX6_requireOpen_11 : decode cX6_requireOpen 11 = .ok (.ldc 252, 2) := by decide +kernel
theorem dX6_requireOpen_13 : decode cX6_requireOpen 13 = .ok (.invokespecial 44, 3) := by decide +kernel
theorem dX6_requireOpen_16 : decode cX6_requireOpen 16 = .ok (.athrow, 1) := by decide +kernel
theorem dX6_requireOpen_17 : decode cX6_requireOpen 17 = .ok (.return_, 1) := by decide +kernel
theorem dX6_regionNow_0 : decode cX6_regionNow 0 = .ok (.aload_n 1, 1) := by decide +kernel
theorem dX6_regionNow_1 : decode cX6_regionNow 1 = .ok (.astore_n 2, 1) := by decide +kernel
theorem dX6_regionNow_2 : decode cX6_regionNow 2 = .ok (.aload_n 2, 1) := by decide +kernel
theorem dX6_regionNow_3 : decode cX6_regionNow 3 = .ok (.ifnull 39, 3) := by decide +kernel
theorem dX6_regionNow_6 : decode cX6_regionNow 6 = .ok (.aload_n 2, 1) := by decide +kernel
theorem dX6_regionNow_7 : decode cX6_regionNow 7 = .ok (.getfield 87, 3) := by decide +kernel
theorem dX6_regionNow_10 : decode cX6_regionNow 10 = .ok (.iconst (-1), 1) := by decide +kernel
theorem dX6_regionNow_11 : decode cX6_regionNow 11 = .ok (.if_icmp .ne 11, 3) := by decide +kernel
theorem dX6_regionNow_14 : decode cX6_regionNow 14 = .ok (.aload_n 0, 1) := by decide +kernel
theorem dX6_regionNow_15 : decode cX6_regionNow 15 = .ok (.aload_n 2, 1) := by decide +kernel
theorem dX6_regionNow_16 : decode cX6_regionNow 16 = .ok (.invokevirtual 254, 3) := by decide +kernel
theorem dX6_regionNow_19 : decode cX6_regionNow 19 = .ok (.goto 7, 3) := by decide +kernel
theorem dX6_regionNow_22 : decode cX6_regionNow 22 = .ok (.aload_n 2, 1) := by decide +kernel
theorem dX6_regionNow_23 : decode cX6_regionNow 23 = .ok (.getfield 87, 3) := by decide +kernel
theorem dX6_regionNow_26 : decode cX6_regionNow 26 = .ok (.istore_n 3, 1) := by decide +kernel
theorem dX6_regionNow_27 : decode cX6_regionNow 27 = .ok (.iload_n 3, 1) := by decide +kernel
theorem dX6_regionNow_28 : decode cX6_regionNow 28 = .ok (.iconst (-1), 1) := by decide +kernel
theorem dX6_regionNow_29 : decode cX6_regionNow 29 = .ok (.if_icmp .eq 5, 3) := by decide +kernel
theorem dX6_regionNow_32 : decode cX6_regionNow 32 = .ok (.iload_n 3, 1) := by decide +kernel
theorem dX6_regionNow_33 : decode cX6_regionNow 33 = .ok (.ireturn, 1) := by decide +kernel
theorem dX6_regionNow_34 : decode cX6_regionNow 34 = .ok (.aload_n 2, 1) := by decide +kernel
theorem dX6_regionNow_35 : decode cX6_regionNow 35 = .ok (.getfield 257, 3) := by decide +kernel
theorem dX6_regionNow_38 : decode cX6_regionNow 38 = .ok (.astore_n 2, 1) := by decide +kernel
theorem dX6_regionNow_39 : decode cX6_regionNow 39 = .ok (.goto (-37), 3) := by decide +kernel
theorem dX6_regionNow_42 : decode cX6_regionNow 42 = .ok (.iconst 0, 1) := by decide +kernel
theorem dX6_regionNow_43 : decode cX6_regionNow 43 = .ok (.ireturn, 1) := by decide +kernel
theorem dX6_ruledRegion_0 : decode cX6_ruledRegion 0 = .ok (.iconst 0, 1) := by decide +kernel
theorem dX6_ruledRegion_1 : decode cX6_ruledRegion 1 = .ok (.istore_n 2, 1) := by decide +kernel
theorem dX6_ruledRegion_2 : decode cX6_ruledRegion 2 = .ok (.iload_n 2, 1) := by decide +kernel
theorem dX6_ruledRegion_3 : decode cX6_ruledRegion 3 = .ok (.aload_n 0, 1) := by decide +kernel
theorem dX6_ruledRegion_4 : decode cX6_ruledRegion 4 = .ok (.getfield 16, 3) := by decide +kernel
theorem dX6_ruledRegion_7 : decode cX6_ruledRegion 7 = .ok (.invokevirtual 51, 3) := by decide +kernel
theorem dX6_ruledRegion_10 : decode cX6_ruledRegion 10 = .ok (.if_icmp .ge 59, 3) := by decide +kernel
theorem dX6_ruledRegion_13 : decode cX6_ruledRegion 13 = .ok (.aload_n 0, 1) := by decide +kernel
theorem dX6_ruledRegion_14 : decode cX6_ruledRegion 14 = .ok (.getfield 16, 3) := by decide +kernel
theorem dX6_ruledRegion_17 : decode cX6_ruledRegion 17 = .ok (.iload_n 2, 1) := by decide +kernel
theorem dX6_ruledRegion_18 : decode cX6_ruledRegion 18 = .ok (.invokevirtual 171, 3) := by decide +kernel
theorem dX6_ruledRegion_21 : decode cX6_ruledRegion 21 = .ok (.checkcast 73, 3) := by decide +kernel
theorem dX6_ruledRegion_24 : decode cX6_ruledRegion 24 = .ok (.astore_n 3, 1) := by decide +kernel
theorem dX6_ruledRegion_25 : decode cX6_ruledRegion 25 = .ok (.aload_n 3, 1) := by decide +kernel
theorem dX6_ruledRegion_26 : decode cX6_ruledRegion 26 = .ok (.getfield 260, 3) := by decide +kernel
theorem dX6_ruledRegion_29 : decode cX6_ruledRegion 29 = .ok (.aload_n 1, 1) := by decide +kernel
theorem dX6_ruledRegion_30 : decode cX6_ruledRegion 30 = .ok (.getfield 263, 3) := by decide +kernel
theorem dX6_ruledRegion_33 : decode cX6_ruledRegion 33 = .ok (.if_icmp .gt 30, 3) := by decide +kernel
theorem dX6_ruledRegion_36 : decode cX6_ruledRegion 36 = .ok (.aload_n 1, 1) := by decide +kernel
theorem dX6_ruledRegion_37 : decode cX6_ruledRegion 37 = .ok (.getfield 263, 3) := by decide +kernel
theorem dX6_ruledRegion_40 : decode cX6_ruledRegion 40 = .ok (.aload_n 3, 1) := by decide +kernel
theorem dX6_ruledRegion_41 : decode cX6_ruledRegion 41 = .ok (.getfield 266, 3) := by decide +kernel
theorem dX6_ruledRegion_44 : decode cX6_ruledRegion 44 = .ok (.if_icmp .gt 19, 3) := by decide +kernel
theorem dX6_ruledRegion_47 : decode cX6_ruledRegion 47 = .ok (.aload_n 3, 1) := by decide +kernel
theorem dX6_ruledRegion_48 : decode cX6_ruledRegion 48 = .ok (.getfield 269, 3) := by decide +kernel
theorem dX6_ruledRegion_51 : decode cX6_ruledRegion 51 = .ok (.aload_n 1, 1) := by decide +kernel
theorem dX6_ruledRegion_52 : decode cX6_ruledRegion 52 = .ok (.getfield 271, 3) := by decide +kernel
theorem dX6_ruledRegion_55 : decode cX6_ruledRegion 55 = .ok (.if_icmp .gt 8, 3) := by decide +kernel
theorem dX6_ruledRegion_58 : decode cX6_ruledRegion 58 = .ok (.aload_n 3, 1) := by decide +kernel
theorem dX6_ruledRegion_59 : decode cX6_ruledRegion 59 = .ok (.getfield 272, 3) := by decide +kernel
theorem dX6_ruledRegion_62 : decode cX6_ruledRegion 62 = .ok (.ireturn, 1) := by decide +kernel
theorem dX6_ruledRegion_63 : decode cX6_ruledRegion 63 = .ok (.iinc 2 1, 3) := by decide +kernel
theorem dX6_ruledRegion_66 : decode cX6_ruledRegion 66 = .ok (.goto (-64), 3) := by decide +kernel
theorem dX6_ruledRegion_69 : decode cX6_ruledRegion 69 = .ok (.iconst (-1), 1) := by decide +kernel
theorem dX6_ruledRegion_70 : decode cX6_ruledRegion 70 = .ok (.ireturn, 1) := by decide +kernel
theorem dX6_regionFor_0 : decode cX6_regionFor 0 = .ok (.aload_n 1, 1) := by decide +kernel
theorem dX6_regionFor_1 : decode cX6_regionFor 1 = .ok (.invokestatic 160, 3) := by decide +kernel
theorem dX6_regionFor_4 : decode cX6_regionFor 4 = .ok (.ifCond .eq 14, 3) := by decide +kernel
theorem dX6_regionFor_7 : decode cX6_regionFor 7 = .ok (.aload_n 0, 1) := by decide +kernel
theorem dX6_regionFor_8 : decode cX6_regionFor 8 = .ok (.aload_n 1, 1) := by decide +kernel
theorem dX6_regionFor_9 : decode cX6_regionFor 9 = .ok (.getfield 164, 3) := by decide +kernel
theorem dX6_regionFor_12 : decode cX6_regionFor 12 = .ok (.invokevirtual 90, 3) := by decide +kernel
theorem dX6_regionFor_15 : decode cX6_regionFor 15 = .ok (.goto 7, 3) := by decide +kernel
theorem dX6_regionFor_18 : decode cX6_regionFor 18 = .ok (.aload_n 1, 1) := by decide +kernel
theorem dX6_regionFor_19 : decode cX6_regionFor 19 = .ok (.getfield 168, 3) := by decide +kernel
theorem dX6_regionFor_22 : decode cX6_regionFor 22 = .ok (.ireturn, 1) := by decide +kernel
theorem dX6_isInTree_0 : decode cX6_isInTree 0 = .ok (.aload_n 0, 1) := by decide +kernel
theorem dX6_isInTree_1 : decode cX6_isInTree 1 = .ok (.astore_n 2, 1) := by decide +kernel
theorem dX6_isInTree_2 : decode cX6_isInTree 2 = .ok (.aload_n 2, 1) := by decide +kernel
theorem dX6_isInTree_3 : decode cX6_isInTree 3 = .ok (.ifnull 18, 3) := by decide +kernel
theorem dX6_isInTree_6 : decode cX6_isInTree 6 = .ok (.aload_n 2, 1) := by decide +kernel
theorem dX6_isInTree_7 : decode cX6_isInTree 7 = .ok (.aload_n 1, 1) := by decide +kernel
theorem dX6_isInTree_8 : decode cX6_isInTree 8 = .ok (.if_acmp .ne 5, 3) := by decide +kernel
theorem dX6_isInTree_11 : decode cX6_isInTree 11 = .ok (.iconst 1, 1) := by decide +kernel
theorem dX6_isInTree_12 : decode cX6_isInTree 12 = .ok (.ireturn, 1) := by decide +kernel
theorem dX6_isInTree_13 : decode cX6_isInTree 13 = .ok (.aload_n 2, 1) := by decide +kernel
theorem dX6_isInTree_14 : decode cX6_isInTree 14 = .ok (.getfield 257, 3) := by decide +kernel
theorem dX6_isInTree_17 : decode cX6_isInTree 17 = .ok (.astore_n 2, 1) := by decide +kernel
theorem dX6_isInTree_18 : decode cX6_isInTree 18 = .ok (.goto (-16), 3) := by decide +kernel
theorem dX6_isInTree_21 : decode cX6_isInTree 21 = .ok (.iconst 0, 1) := by decide +kernel
theorem dX6_isInTree_22 : decode cX6_isInTree 22 = .ok (.ireturn, 1) := by decide +kernel
theorem dX6_isOpen_0 : decode cX6_isOpen 0 = .ok (.aload_n 0, 1) := by decide +kernel
theorem dX6_isOpen_1 : decode cX6_isOpen 1 = .ok (.getfield 157, 3) := by decide +kernel
theorem dX6_isOpen_4 : decode cX6_isOpen 4 = .ok (.iconst 4, 1) := by decide +kernel
theorem dX6_isOpen_5 : decode cX6_isOpen 5 = .ok (.if_icmp .ge 7, 3) := by decide +kernel
theorem dX6_isOpen_8 : decode cX6_isOpen 8 = .ok (.iconst 1, 1) := by decide +kernel
theorem dX6_isOpen_9 : decode cX6_isOpen 9 = .ok (.goto 4, 3) := by decide +kernel
theorem dX6_isOpen_12 : decode cX6_isOpen 12 = .ok (.iconst 0, 1) := by decide +kernel
theorem dX6_isOpen_13 : decode cX6_isOpen 13 = .ok (.ireturn, 1) := by decide +kernel
theorem dX6_canCome_0 : decode cX6_canCome 0 = .ok (.aload_n 0, 1) := by decide +kernel
theorem dX6_canCome_1 : decode cX6_canCome 1 = .ok (.invokestatic 160, 3) := by decide +kernel
theorem dX6_canCome_4 : decode cX6_canCome 4 = .ok (.ifCond .ne 5, 3) := by decide +kernel
theorem dX6_canCome_7 : decode cX6_canCome 7 = .ok (.iconst 0, 1) := by decide +kernel
theorem dX6_canCome_8 : decode cX6_canCome 8 = .ok (.ireturn, 1) := by decide +kernel
theorem dX6_canCome_9 : decode cX6_canCome 9 = .ok (.iload_n 1, 1) := by decide +kernel
theorem dX6_canCome_10 : decode cX6_canCome 10 = .ok (.iconst 5, 1) := by decide +kernel
theorem dX6_canCome_11 : decode cX6_canCome 11 = .ok (.if_icmp .eq 11, 3) := by decide +kernel
theorem dX6_canCome_14 : decode cX6_canCome 14 = .ok (.iload_n 1, 1) := by decide +kernel
theorem dX6_canCome_15 : decode cX6_canCome 15 = .ok (.aload_n 0, 1) := by decide +kernel
theorem dX6_canCome_16 : decode cX6_canCome 16 = .ok (.getfield 157, 3) := by decide +kernel
theorem dX6_canCome_19 : decode cX6_canCome 19 = .ok (.if_icmp .ge 5, 3) := by decide +kernel
theorem dX6_canCome_22 : decode cX6_canCome 22 = .ok (.iconst 1, 1) := by decide +kernel
theorem dX6_canCome_23 : decode cX6_canCome 23 = .ok (.ireturn, 1) := by decide +kernel
theorem dX6_canCome_24 : decode cX6_canCome 24 = .ok (.iload_n 1, 1) := by decide +kernel
theorem dX6_canCome_25 : decode cX6_canCome 25 = .ok (.aload_n 0, 1) := by decide +kernel
theorem dX6_canCome_26 : decode cX6_canCome 26 = .ok (.getfield 157, 3) := by decide +kernel
theorem dX6_canCome_29 : decode cX6_canCome 29 = .ok (.iconst 1, 1) := by decide +kernel
theorem dX6_canCome_30 : decode cX6_canCome 30 = .ok (.iadd, 1) := by decide +kernel
theorem dX6_canCome_31 : decode cX6_canCome 31 = .ok (.if_icmp .eq 5, 3) := by decide +kernel
theorem dX6_canCome_34 : decode cX6_canCome 34 = .ok (.iconst 0, 1) := by decide +kernel
theorem dX6_canCome_35 : decode cX6_canCome 35 = .ok (.ireturn, 1) := by decide +kernel
theorem dX6_canCome_36 : decode cX6_canCome 36 = .ok (.iload_n 1, 1) := by decide +kernel
theorem dX6_canCome_37 : decode cX6_canCome 37 = .ok (.iconst 3, 1) := by decide +kernel
theorem dX6_canCome_38 : decode cX6_canCome 38 = .ok (.if_icmp .ne 10, 3) := by decide +kernel
theorem dX6_canCome_41 : decode cX6_canCome 41 = .ok (.aload_n 0, 1) := by decide +kernel
theorem dX6_canCome_42 : decode cX6_canCome 42 = .ok (.getfield 216, 3) := by decide +kernel
theorem dX6_canCome_45 : decode cX6_canCome 45 = .ok (.ifnull 7, 3) := by decide +kernel
theorem dX6_canCome_48 : decode cX6_canCome 48 = .ok (.iconst 1, 1) := by decide +kernel
theorem dX6_canCome_49 : decode cX6_canCome 49 = .ok (.goto 4, 3) := by decide +kernel
theorem dX6_canCome_52 : decode cX6_canCome 52 = .ok (.iconst 0, 1) := by decide +kernel
theorem dX6_canCome_53 : decode cX6_canCome 53 = .ok (.ireturn, 1) := by decide +kernel
theorem dX6_canApprove_0 : decode cX6_canApprove 0 = .ok (.aload_n 0, 1) := by decide +kernel
theorem dX6_canApprove_1 : decode cX6_canApprove 1 = .ok (.getfield 275, 3) := by decide +kernel
theorem dX6_canApprove_4 : decode cX6_canApprove 4 = .ok (.getfield 279, 3) := by decide +kernel
theorem dX6_canApprove_7 : decode cX6_canApprove 7 = .ok (.aload_n 1, 1) := by decide +kernel
theorem dX6_canApprove_8 : decode cX6_canApprove 8 = .ok (.invokestatic 281, 3) := by decide +kernel
theorem dX6_canApprove_11 : decode cX6_canApprove 11 = .ok (.ifCond .eq 18, 3) := by decide +kernel
theorem dX6_canApprove_14 : decode cX6_canApprove 14 = .ok (.aload_n 0, 1) := by decide +kernel
theorem dX6_canApprove_15 : decode cX6_canApprove 15 = .ok (.getfield 285, 3) := by decide +kernel
theorem dX6_canApprove_18 : decode cX6_canApprove 18 = .ok (.aload_n 1, 1) := by decide +kernel
theorem dX6_canApprove_19 : decode cX6_canApprove 19 = .ok (.getfield 190, 3) := by decide +kernel
theorem dX6_canApprove_22 : decode cX6_canApprove 22 = .ok (.if_icmp .gt 7, 3) := by decide +kernel
theorem dX6_canApprove_25 : decode cX6_canApprove 25 = .ok (.iconst 1, 1) := by decide +kernel
theorem dX6_canApprove_26 : decode cX6_canApprove 26 = .ok (.goto 4, 3) := by decide +kernel
theorem dX6_canApprove_29 : decode cX6_canApprove 29 = .ok (.iconst 0, 1) := by decide +kernel
theorem dX6_canApprove_30 : decode cX6_canApprove 30 = .ok (.ireturn, 1) := by decide +kernel
theorem dX6_letCount_0 : decode cX6_letCount 0 = .ok (.aload_n 0, 1) := by decide +kernel
theorem dX6_letCount_1 : decode cX6_letCount 1 = .ok (.iconst 1, 1) := by decide +kernel
theorem dX6_letCount_2 : decode cX6_letCount 2 = .ok (.putfield 206, 3) := by decide +kernel
theorem dX6_letCount_5 : decode cX6_letCount 5 = .ok (.aload_n 0, 1) := by decide +kernel
theorem dX6_letCount_6 : decode cX6_letCount 6 = .ok (.getfield 202, 3) := by decide +kernel
theorem dX6_letCount_9 : decode cX6_letCount 9 = .ok (.aload_n 0, 1) := by decide +kernel
theorem dX6_letCount_10 : decode cX6_letCount 10 = .ok (.putfield 216, 3) := by decide +kernel
theorem dX6_letCount_13 : decode cX6_letCount 13 = .ok (.return_, 1) := by decide +kernel
theorem dX6_worthNow_0 : decode cX6_worthNow 0 = .ok (.aload_n 0, 1) := by decide +kernel
theorem dX6_worthNow_1 : decode cX6_worthNow 1 = .ok (.getfield 216, 3) := by decide +kernel
theorem dX6_worthNow_4 : decode cX6_worthNow 4 = .ok (.astore_n 1, 1) := by decide +kernel
theorem dX6_worthNow_5 : decode cX6_worthNow 5 = .ok (.aload_n 1, 1) := by decide +kernel
theorem dX6_worthNow_6 : decode cX6_worthNow 6 = .ok (.ifnonnull 10, 3) := by decide +kernel
theorem dX6_worthNow_9 : decode cX6_worthNow 9 = .ok (.aload_n 0, 1) := by decide +kernel
theorem dX6_worthNow_10 : decode cX6_worthNow 10 = .ok (.getfield 288, 3) := by decide +kernel
theorem dX6_worthNow_13 : decode cX6_worthNow 13 = .ok (.goto 17, 3) := by decide +kernel
theorem dX6_worthNow_16 : decode cX6_worthNow 16 = .ok (.aload_n 0, 1) := by decide +kernel
theorem dX6_worthNow_17 : decode cX6_worthNow 17 = .ok (.getfield 288, 3) := by decide +kernel
theorem dX6_worthNow_20 : decode cX6_worthNow 20 = .ok (.bipush 100, 2) := by decide +kernel
theorem dX6_worthNow_22 : decode cX6_worthNow 22 = .ok (.aload_n 1, 1) := by decide +kernel
theorem dX6_worthNow_23 : decode cX6_worthNow 23 = .ok (.getfield 285, 3) := by decide +kernel
theorem dX6_worthNow_26 : decode cX6_worthNow 26 = .ok (.isub, 1) := by decide +kernel
theorem dX6_worthNow_27 : decode cX6_worthNow 27 = .ok (.invokestatic 291, 3) := by decide +kernel
theorem dX6_worthNow_30 : decode cX6_worthNow 30 = .ok (.ireturn, 1) := by decide +kernel
theorem dX6_isInTeam_0 : decode cX6_isInTeam 0 = .ok (.aload_n 0, 1) := by decide +kernel
theorem dX6_isInTeam_1 : decode cX6_isInTeam 1 = .ok (.astore_n 2, 1) := by decide +kernel
theorem dX6_isInTeam_2 : decode cX6_isInTeam 2 = .ok (.aload_n 2, 1) := by decide +kernel
theorem dX6_isInTeam_3 : decode cX6_isInTeam 3 = .ok (.ifnull 18, 3) := by decide +kernel
theorem dX6_isInTeam_6 : decode cX6_isInTeam 6 = .ok (.aload_n 2, 1) := by decide +kernel
theorem dX6_isInTeam_7 : decode cX6_isInTeam 7 = .ok (.aload_n 1, 1) := by decide +kernel
theorem dX6_isInTeam_8 : decode cX6_isInTeam 8 = .ok (.if_acmp .ne 5, 3) := by decide +kernel
theorem dX6_isInTeam_11 : decode cX6_isInTeam 11 = .ok (.iconst 1, 1) := by decide +kernel
theorem dX6_isInTeam_12 : decode cX6_isInTeam 12 = .ok (.ireturn, 1) := by decide +kernel
theorem dX6_isInTeam_13 : decode cX6_isInTeam 13 = .ok (.aload_n 2, 1) := by decide +kernel
theorem dX6_isInTeam_14 : decode cX6_isInTeam 14 = .ok (.getfield 279, 3) := by decide +kernel
theorem dX6_isInTeam_17 : decode cX6_isInTeam 17 = .ok (.astore_n 2, 1) := by decide +kernel
theorem dX6_isInTeam_18 : decode cX6_isInTeam 18 = .ok (.goto (-16), 3) := by decide +kernel
theorem dX6_isInTeam_21 : decode cX6_isInTeam 21 = .ok (.iconst 0, 1) := by decide +kernel
theorem dX6_isInTeam_22 : decode cX6_isInTeam 22 = .ok (.ireturn, 1) := by decide +kernel
theorem dX6_ownNow_0 : decode cX6_ownNow 0 = .ok (.iconst 0, 1) := by decide +kernel
theorem dX6_ownNow_1 : decode cX6_ownNow 1 = .ok (.istore_n 2, 1) := by decide +kernel
theorem dX6_ownNow_2 : decode cX6_ownNow 2 = .ok (.iconst 0, 1) := by decide +kernel
theorem dX6_ownNow_3 : decode cX6_ownNow 3 = .ok (.istore_n 3, 1) := by decide +kernel
theorem dX6_ownNow_4 : decode cX6_ownNow 4 = .ok (.iload_n 3, 1) := by decide +kernel
theorem dX6_ownNow_5 : decode cX6_ownNow 5 = .ok (.aload_n 0, 1) := by decide +kernel
theorem dX6_ownNow_6 : decode cX6_ownNow 6 = .ok (.getfield 22, 3) := by decide +kernel
theorem dX6_ownNow_9 : decode cX6_ownNow 9 = .ok (.invokevirtual 51, 3) := by decide +kernel
theorem dX6_ownNow_12 : decode cX6_ownNow 12 = .ok (.if_icmp .ge 63, 3) := by decide +kernel
theorem dX6_ownNow_15 : decode cX6_ownNow 15 = .ok (.aload_n 0, 1) := by decide +kernel
theorem dX6_ownNow_16 : decode cX6_ownNow 16 = .ok (.getfield 22, 3) := by decide +kernel
theorem dX6_ownNow_19 : decode cX6_ownNow 19 = .ok (.iload_n 3, 1) := by decide +kernel
theorem dX6_ownNow_20 : decode cX6_ownNow 20 = .ok (.invokevirtual 171, 3) := by decide +kernel
theorem dX6_ownNow_23 : decode cX6_ownNow 23 = .ok (.checkcast 108, 3) := by decide +kernel
theorem dX6_ownNow_26 : decode cX6_ownNow 26 = .ok (.astore 4, 2) := by decide +kernel
theorem dX6_ownNow_28 : decode cX6_ownNow 28 = .ok (.aload 4, 2) := by decide +kernel
theorem dX6_ownNow_30 : decode cX6_ownNow 30 = .ok (.invokestatic 174, 3) := by decide +kernel
theorem dX6_ownNow_33 : decode cX6_ownNow 33 = .ok (.aload 4, 2) := by decide +kernel
theorem dX6_ownNow_35 : decode cX6_ownNow 35 = .ok (.getfield 111, 3) := by decide +kernel
theorem dX6_ownNow_38 : decode cX6_ownNow 38 = .ok (.aload_n 1, 1) := by decide +kernel
theorem dX6_ownNow_39 : decode cX6_ownNow 39 = .ok (.getfield 115, 3) := by decide +kernel
theorem dX6_ownNow_42 : decode cX6_ownNow 42 = .ok (.invokestatic 135, 3) := by decide +kernel
theorem dX6_ownNow_45 : decode cX6_ownNow 45 = .ok (.invokestatic 291, 3) := by decide +kernel
theorem dX6_ownNow_48 : decode cX6_ownNow 48 = .ok (.istore 5, 2) := by decide +kernel
theorem dX6_ownNow_50 : decode cX6_ownNow 50 = .ok (.iload_n 2, 1) := by decide +kernel
theorem dX6_ownNow_51 : decode cX6_ownNow 51 = .ok (.iload 5, 2) := by decide +kernel
theorem dX6_ownNow_53 : decode cX6_ownNow 53 = .ok (.getstatic 295, 3) := by decide +kernel
theorem dX6_ownNow_56 : decode cX6_ownNow 56 = .ok (.aload 4, 2) := by decide +kernel
theorem dX6_ownNow_58 : decode cX6_ownNow 58 = .ok (.getfield 157, 3) := by decide +kernel
theorem dX6_ownNow_61 : decode cX6_ownNow 61 = .ok (.invokestatic 135, 3) := by decide +kernel
theorem dX6_ownNow_64 : decode cX6_ownNow 64 = .ok (.invokestatic 291, 3) := by decide +kernel
theorem dX6_ownNow_67 : decode cX6_ownNow 67 = .ok (.iadd, 1) := by decide +kernel
theorem dX6_ownNow_68 : decode cX6_ownNow 68 = .ok (.istore_n 2, 1) := by decide +kernel
theorem dX6_ownNow_69 : decode cX6_ownNow 69 = .ok (.iinc 3 1, 3) := by decide +kernel
theorem dX6_ownNow_72 : decode cX6_ownNow 72 = .ok (.goto (-68), 3) := by decide +kernel
theorem dX6_ownNow_75 : decode cX6_ownNow 75 = .ok (.iload_n 2, 1) := by decide +kernel
theorem dX6_ownNow_76 : decode cX6_ownNow 76 = .ok (.ireturn, 1) := by decide +kernel
theorem dX6_forecastNow_0 : decode cX6_forecastNow 0 = .ok (.iconst 0, 1) := by decide +kernel
theorem dX6_forecastNow_1 : decode cX6_forecastNow 1 = .ok (.istore_n 2, 1) := by decide +kernel
theorem dX6_forecastNow_2 : decode cX6_forecastNow 2 = .ok (.iconst 0, 1) := by decide +kernel
theorem dX6_forecastNow_3 : decode cX6_forecastNow 3 = .ok (.istore_n 3, 1) := by decide +kernel
theorem dX6_forecastNow_4 : decode cX6_forecastNow 4 = .ok (.iload_n 3, 1) := by decide +kernel
theorem dX6_forecastNow_5 : decode cX6_forecastNow 5 = .ok (.aload_n 0, 1) := by decide +kernel
theorem dX6_forecastNow_6 : decode cX6_forecastNow 6 = .ok (.getfield 19, 3) := by decide +kernel
theorem dX6_forecastNow_9 : decode cX6_forecastNow 9 = .ok (.invokevirtual 51, 3) := by decide +kernel
theorem dX6_forecastNow_12 : decode cX6_forecastNow 12 = .ok (.if_icmp .ge 46, 3) := by decide +kernel
theorem dX6_forecastNow_15 : decode cX6_forecastNow 15 = .ok (.aload_n 0, 1) := by decide +kernel
theorem dX6_forecastNow_16 : decode cX6_forecastNow 16 = .ok (.getfield 19, 3) := by decide +kernel
theorem dX6_forecastNow_19 : decode cX6_forecastNow 19 = .ok (.iload_n 3, 1) := by decide +kernel
theorem dX6_forecastNow_20 : decode cX6_forecastNow 20 = .ok (.invokevirtual 171, 3) := by decide +kernel
theorem dX6_forecastNow_23 : decode cX6_forecastNow 23 = .ok (.checkcast 98, 3) := by decide +kernel
theorem dX6_forecastNow_26 : decode cX6_forecastNow 26 = .ok (.astore 4, 2) := by decide +kernel
theorem dX6_forecastNow_28 : decode cX6_forecastNow 28 = .ok (.aload 4, 2) := by decide +kernel
theorem dX6_forecastNow_30 : decode cX6_forecastNow 30 = .ok (.aload_n 1, 1) := by decide +kernel
theorem dX6_forecastNow_31 : decode cX6_forecastNow 31 = .ok (.invokestatic 281, 3) := by decide +kernel
theorem dX6_forecastNow_34 : decode cX6_forecastNow 34 = .ok (.ifCond .eq 18, 3) := by decide +kernel
theorem dX6_forecastNow_37 : decode cX6_forecastNow 37 = .ok (.iload_n 2, 1) := by decide +kernel
theorem dX6_forecastNow_38 : decode cX6_forecastNow 38 = .ok (.aload_n 0, 1) := by decide +kernel
theorem dX6_forecastNow_39 : decode cX6_forecastNow 39 = .ok (.aload 4, 2) := by decide +kernel
theorem dX6_forecastNow_41 : decode cX6_forecastNow 41 = .ok (.invokevirtual 229, 3) := by decide +kernel
theorem dX6_forecastNow_44 : decode cX6_forecastNow 44 = .ok (.aload 4, 2) := by decide +kernel
theorem dX6_forecastNow_46 : decode cX6_forecastNow 46 = .ok (.getfield 105, 3) := by decide +kernel
theorem dX6_forecastNow_49 : decode cX6_forecastNow 49 = .ok (.iadd, 1) := by decide +kernel
theorem dX6_forecastNow_50 : decode cX6_forecastNow 50 = .ok (.iadd, 1) := by decide +kernel
theorem dX6_forecastNow_51 : decode cX6_forecastNow 51 = .ok (.istore_n 2, 1) := by decide +kernel
theorem dX6_forecastNow_52 : decode cX6_forecastNow 52 = .ok (.iinc 3 1, 3) := by decide +kernel
theorem dX6_forecastNow_55 : decode cX6_forecastNow 55 = .ok (.goto (-51), 3) := by decide +kernel
theorem dX6_forecastNow_58 : decode cX6_forecastNow 58 = .ok (.iload_n 2, 1) := by decide +kernel
theorem dX6_forecastNow_59 : decode cX6_forecastNow 59 = .ok (.ireturn, 1) := by decide +kernel
theorem dX6_hundredths_0 : decode cX6_hundredths 0 = .ok (.iload_n 0, 1) := by decide +kernel
theorem dX6_hundredths_1 : decode cX6_hundredths 1 = .ok (.iload_n 1, 1) := by decide +kernel
theorem dX6_hundredths_2 : decode cX6_hundredths 2 = .ok (.imul, 1) := by decide +kernel
theorem dX6_hundredths_3 : decode cX6_hundredths 3 = .ok (.bipush 100, 2) := by decide +kernel
theorem dX6_hundredths_5 : decode cX6_hundredths 5 = .ok (.idiv, 1) := by decide +kernel
theorem dX6_hundredths_6 : decode cX6_hundredths 6 = .ok (.ireturn, 1) := by decide +kernel
theorem dX6_at_0 : decode cX6_at 0 = .ok (.iload_n 1, 1) := by decide +kernel
theorem dX6_at_1 : decode cX6_at 1 = .ok (.ifCond .lt 15, 3) := by decide +kernel
theorem dX6_at_4 : decode cX6_at 4 = .ok (.iload_n 1, 1) := by decide +kernel
theorem dX6_at_5 : decode cX6_at 5 = .ok (.aload_n 0, 1) := by decide +kernel
theorem dX6_at_6 : decode cX6_at 6 = .ok (.arraylength, 1) := by decide +kernel
theorem dX6_at_7 : decode cX6_at 7 = .ok (.if_icmp .ge 9, 3) := by decide +kernel
theorem dX6_at_10 : decode cX6_at 10 = .ok (.aload_n 0, 1) := by decide +kernel
theorem dX6_at_11 : decode cX6_at 11 = .ok (.iload_n 1, 1) := by decide +kernel
theorem dX6_at_12 : decode cX6_at 12 = .ok (.iaload, 1) := by decide +kernel
theorem dX6_at_13 : decode cX6_at 13 = .ok (.goto 4, 3) := by decide +kernel
theorem dX6_at_16 : decode cX6_at 16 = .ok (.iconst 0, 1) := by decide +kernel
theorem dX6_at_17 : decode cX6_at 17 = .ok (.ireturn, 1) := by decide +kernel
theorem dX6_addTo_0 : decode cX6_addTo 0 = .ok (.iload_n 1, 1) := by decide +kernel
theorem dX6_addTo_1 : decode cX6_addTo 1 = .ok (.ifCond .lt 16, 3) := by decide +kernel
theorem dX6_addTo_4 : decode cX6_addTo 4 = .ok (.iload_n 1, 1) := by decide +kernel
theorem dX6_addTo_5 : decode cX6_addTo 5 = .ok (.aload_n 0, 1) := by decide +kernel
theorem dX6_addTo_6 : decode cX6_addTo 6 = .ok (.arraylength, 1) := by decide +kernel
theorem dX6_addTo_7 : decode cX6_addTo 7 = .ok (.if_icmp .ge 10, 3) := by decide +kernel
theorem dX6_addTo_10 : decode cX6_addTo 10 = .ok (.aload_n 0, 1) := by decide +kernel
theorem dX6_addTo_11 : decode cX6_addTo 11 = .ok (.iload_n 1, 1) := by decide +kernel
theorem dX6_addTo_12 : decode cX6_addTo 12 = .ok (.dup2, 1) := by decide +kernel
theorem dX6_addTo_13 : decode cX6_addTo 13 = .ok (.iaload, 1) := by decide +kernel
theorem dX6_addTo_14 : decode cX6_addTo 14 = .ok (.iload_n 2, 1) := by decide +kernel
theorem dX6_addTo_15 : decode cX6_addTo 15 = .ok (.iadd, 1) := by decide +kernel
theorem dX6_addTo_16 : decode cX6_addTo 16 = .ok (.iastore, 1) := by decide +kernel
theorem dX6_addTo_17 : decode cX6_addTo 17 = .ok (.return_, 1) := by decide +kernel
theorem dX7_init_0 : decode cX7_init 0 = .ok (.aload_n 0, 1) := by decide +kernel
theorem dX7_init_1 : decode cX7_init 1 = .ok (.invokespecial 1, 3) := by decide +kernel
theorem dX7_init_4 : decode cX7_init 4 = .ok (.aload_n 0, 1) := by decide +kernel
theorem dX7_init_5 : decode cX7_init 5 = .ok (.bipush 16, 2) := by decide +kernel
theorem dX7_init_7 : decode cX7_init 7 = .ok (.newarray .int, 2) := by decide +kernel
theorem dX7_init_9 : decode cX7_init 9 = .ok (.putfield 7, 3) := by decide +kernel
theorem dX7_init_12 : decode cX7_init 12 = .ok (.aload_n 0, 1) := by decide +kernel
theorem dX7_init_13 : decode cX7_init 13 = .ok (.bipush 16, 2) := by decide +kernel
theorem dX7_init_15 : decode cX7_init 15 = .ok (.newarray .int, 2) := by decide +kernel
theorem dX7_init_17 : decode cX7_init 17 = .ok (.putfield 13, 3) := by decide +kernel
theorem dX7_init_20 : decode cX7_init 20 = .ok (.aload_n 0, 1) := by decide +kernel
theorem dX7_init_21 : decode cX7_init 21 = .ok (.bipush 16, 2) := by decide +kernel
theorem dX7_init_23 : decode cX7_init 23 = .ok (.newarray .int, 2) := by decide +kernel
theorem dX7_init_25 : decode cX7_init 25 = .ok (.putfield 16, 3) := by decide +kernel
theorem dX7_init_28 : decode cX7_init 28 = .ok (.aload_n 0, 1) := by decide +kernel
theorem dX7_init_29 : decode cX7_init 29 = .ok (.bipush 16, 2) := by decide +kernel
theorem dX7_init_31 : decode cX7_init 31 = .ok (.newarray .int, 2) := by decide +kernel
theorem dX7_init_33 : decode cX7_init 33 = .ok (.putfield 19, 3) := by decide +kernel
theorem dX7_init_36 : decode cX7_init 36 = .ok (.aload_n 0, 1) := by decide +kernel
theorem dX7_init_37 : decode cX7_init 37 = .ok (.bipush 9, 2) := by decide +kernel
theorem dX7_init_39 : decode cX7_init 39 = .ok (.newarray .int, 2) := by decide +kernel
theorem dX7_init_41 : decode cX7_init 41 = .ok (.putfield 22, 3) := by decide +kernel
theorem dX7_init_44 : decode cX7_init 44 = .ok (.aload_n 0, 1) := by decide +kernel
theorem dX7_init_45 : decode cX7_init 45 = .ok (.bipush 9, 2) := by decide +kernel
theorem dX7_init_47 : decode cX7_init 47 = .ok (.newarray .int, 2) := by decide +kernel
theorem dX7_init_49 : decode cX7_init 49 = .ok (.putfield 25, 3) := by decide +kernel
theorem dX7_init_52 : decode cX7_init 52 = .ok (.aload_n 0, 1) := by decide +kernel
theorem dX7_init_53 : decode cX7_init 53 = .ok (.bipush 9, 2) := by decide +kernel
theorem dX7_init_55 : decode cX7_init 55 = .ok (.newarray .int, 2) := by decide +kernel
theorem dX7_init_57 : decode cX7_init 57 = .ok (.putfield 28, 3) := by decide +kernel
theorem dX7_init_60 : decode cX7_init 60 = .ok (.aload_n 0, 1) := by decide +kernel
theorem dX7_init_61 : decode cX7_init 61 = .ok (.bipush 9, 2) := by decide +kernel
theorem dX7_init_63 : decode cX7_init 63 = .ok (.newarray .int, 2) := by decide +kernel
theorem dX7_init_65 : decode cX7_init 65 = .ok (.putfield 31, 3) := by decide +kernel
theorem dX7_init_68 : decode cX7_init 68 = .ok (.aload_n 0, 1) := by decide +kernel
theorem dX7_init_69 : decode cX7_init 69 = .ok (.bipush 8, 2) := by decide +kernel
theorem dX7_init_71 : decode cX7_init 71 = .ok (.newarray .int, 2) := by decide +kernel
theorem dX7_init_73 : decode cX7_init 73 = .ok (.putfield 34, 3) := by decide +kernel
theorem dX7_init_76 : decode cX7_init 76 = .ok (.aload_n 0, 1) := by decide +kernel
theorem dX7_init_77 : decode cX7_init 77 = .ok (.bipush 8, 2) := by decide +kernel
theorem dX7_init_79 : decode cX7_init 79 = .ok (.newarray .int, 2) := by decide +kernel
theorem dX7_init_81 : decode cX7_init 81 = .ok (.putfield 37, 3) := by decide +kernel
theorem dX7_init_84 : decode cX7_init 84 = .ok (.aload_n 0, 1) := by decide +kernel
theorem dX7_init_85 : decode cX7_init 85 = .ok (.bipush 8, 2) := by decide +kernel
theorem dX7_init_87 : decode cX7_init 87 = .ok (.newarray .int, 2) := by decide +kernel
theorem dX7_init_89 : decode cX7_init 89 = .ok (.putfield 40, 3) := by decide +kernel
theorem dX7_init_92 : decode cX7_init 92 = .ok (.aload_n 0, 1) := by decide +kernel
theorem dX7_init_93 : decode cX7_init 93 = .ok (.bipush 30, 2) := by decide +kernel
theorem dX7_init_95 : decode cX7_init 95 = .ok (.newarray .int, 2) := by decide +kernel
theorem dX7_init_97 : decode cX7_init 97 = .ok (.putfield 43, 3) := by decide +kernel
theorem dX7_init_100 : decode cX7_init 100 = .ok (.aload_n 0, 1) := by decide +kernel
theorem dX7_init_101 : decode cX7_init 101 = .ok (.bipush 30, 2) := by decide +kernel
theorem dX7_init_103 : decode cX7_init 103 = .ok (.newarray .int, 2) := by decide +kernel
theorem dX7_init_105 : decode cX7_init 105 = .ok (.putfield 46, 3) := by decide +kernel
theorem dX7_init_108 : decode cX7_init 108 = .ok (.aload_n 0, 1) := by decide +kernel
theorem dX7_init_109 : decode cX7_init 109 = .ok (.bipush 30, 2) := by decide +kernel
theorem dX7_init_111 : decode cX7_init 111 = .ok (.newarray .int, 2) := by decide +kernel
theorem dX7_init_113 : decode cX7_init 113 = .ok (.putfield 49, 3) := by decide +kernel
theorem dX7_init_116 : decode cX7_init 116 = .ok (.aload_n 0, 1) := by decide +kernel
theorem dX7_init_117 : decode cX7_init 117 = .ok (.bipush 30, 2) := by decide +kernel
theorem dX7_init_119 : decode cX7_init 119 = .ok (.newarray .int, 2) := by decide +kernel
theorem dX7_init_121 : decode cX7_init 121 = .ok (.putfield 52, 3) := by decide +kernel
theorem dX7_init_124 : decode cX7_init 124 = .ok (.aload_n 0, 1) := by decide +kernel
theorem dX7_init_125 : decode cX7_init 125 = .ok (.bipush 30, 2) := by decide +kernel
theorem dX7_init_127 : decode cX7_init 127 = .ok (.newarray .int, 2) := by decide +kernel
theorem dX7_init_129 : decode cX7_init 129 = .ok (.putfield 55, 3) := by decide +kernel
theorem dX7_init_132 : decode cX7_init 132 = .ok (.aload_n 0, 1) := by decide +kernel
theorem dX7_init_133 : decode cX7_init 133 = .ok (.sipush 240, 3) := by decide +kernel
theorem dX7_init_136 : decode cX7_init 136 = .ok (.newarray .int, 2) := by decide +kernel
theorem dX7_init_138 : decode cX7_init 138 = .ok (.putfield 58, 3) := by decide +kernel
theorem dX7_init_141 : decode cX7_init 141 = .ok (.aload_n 0, 1) := by decide +kernel
theorem dX7_init_142 : decode cX7_init 142 = .ok (.sipush 180, 3) := by decide +kernel
theorem dX7_init_145 : decode cX7_init 145 = .ok (.newarray .int, 2) := by decide +kernel
theorem dX7_init_147 : decode cX7_init 147 = .ok (.putfield 61, 3) := by decide +kernel
theorem dX7_init_150 : decode cX7_init 150 = .ok (.aload_n 0, 1) := by decide +kernel
theorem dX7_init_151 : decode cX7_init 151 = .ok (.bipush 40, 2) := by decide +kernel
theorem dX7_init_153 : decode cX7_init 153 = .ok (.newarray .int, 2) := by decide +kernel
theorem dX7_init_155 : decode cX7_init 155 = .ok (.putfield 64, 3) := by decide +kernel
theorem dX7_init_158 : decode cX7_init 158 = .ok (.aload_n 0, 1) := by decide +kernel
theorem dX7_init_159 : decode cX7_init 159 = .ok (.bipush 40, 2) := by decide +kernel
theorem dX7_init_161 : decode cX7_init 161 = .ok (.newarray .int, 2) := by decide +kernel
theorem dX7_init_163 : decode cX7_init 163 = .ok (.putfield 67, 3) := by decide +kernel
theorem dX7_init_166 : decode cX7_init 166 = .ok (.aload_n 0, 1) := by decide +kernel
theorem dX7_init_167 : decode cX7_init 167 = .ok (.bipush 40, 2) := by decide +kernel
theorem dX7_init_169 : decode cX7_init 169 = .ok (.newarray .int, 2) := by decide +kernel
theorem dX7_init_171 : decode cX7_init 171 = .ok (.putfield 70, 3) := by decide +kernel
theorem dX7_init_174 : decode cX7_init 174 = .ok (.aload_n 0, 1) := by decide +kernel
theorem dX7_init_175 : decode cX7_init 175 = .ok (.bipush 40, 2) := by decide +kernel
theorem dX7_init_177 : decode cX7_init 177 = .ok (.newarray .int, 2) := by decide +kernel
theorem dX7_init_179 : decode cX7_init 179 = .ok (.putfield 73, 3) := by decide +kernel
theorem dX7_init_182 : decode cX7_init 182 = .ok (.aload_n 0, 1) := by decide +kernel
theorem dX7_init_183 : decode cX7_init 183 = .ok (.sipush 160, 3) := by decide +kernel
theorem dX7_init_186 : decode cX7_init 186 = .ok (.newarray .int, 2) := by decide +kernel
theorem dX7_init_188 : decode cX7_init 188 = .ok (.putfield 76, 3) := by decide +kernel
theorem dX7_init_191 : decode cX7_init 191 = .ok (.return_, 1) := by decide +kernel
theorem dX7_thrown_0 : decode cX7_thrown 0 = .ok (.aload_n 0, 1) := by decide +kernel
theorem dX7_thrown_1 : decode cX7_thrown 1 = .ok (.getfield 79, 3) := by decide +kernel
theorem dX7_thrown_4 : decode cX7_thrown 4 = .ok (.ireturn, 1) := by decide +kernel
theorem dX7_in_0 : decode cX7_in 0 = .ok (.iload_n 0, 1) := by decide +kernel
theorem dX7_in_1 : decode cX7_in 1 = .ok (.iload_n 1, 1) := by decide +kernel
theorem dX7_in_2 : decode cX7_in 2 = .ok (.if_icmp .lt 12, 3) := by decide +kernel
theorem dX7_in_5 : decode cX7_in 5 = .ok (.iload_n 0, 1) := by decide +kernel
theorem dX7_in_6 : decode cX7_in 6 = .ok (.iload_n 2, 1) := by decide +kernel
theorem dX7_in_7 : decode cX7_in 7 = .ok (.if_icmp .gt 7, 3) := by decide +kernel
theorem dX7_in_10 : decode cX7_in 10 = .ok (.iconst 1, 1) := by decide +kernel
theorem dX7_in_11 : decode cX7_in 11 = .ok (.goto 4, 3) := by decide +kernel
theorem dX7_in_14 : decode cX7_in 14 = .ok (.iconst 0, 1) := by decide +kernel
theorem dX7_in_15 : decode cX7_in 15 = .ok (.ireturn, 1) := by decide +kernel
theorem dX7_goes_0 : decode cX7_goes 0 = .ok (.aload_n 0, 1) := by decide +kernel
theorem dX7_goes_1 : decode cX7_goes 1 = .ok (.iload_n 1, 1) := by decide +kernel
theorem dX7_goes_2 : decode cX7_goes 2 = .ok (.ifCond .ne 7, 3) := by decide +kernel
theorem dX7_goes_5 : decode cX7_goes 5 = .ok (.iconst 1, 1) := by decide +kernel
theorem dX7_goes_6 : decode cX7_goes 6 = .ok (.goto 20, 3) := by decide +kernel
theorem dX7_goes_9 : decode cX7_goes 9 = .ok (.iload_n 2, 1) := by decide +kernel
theorem dX7_goes_10 : decode cX7_goes 10 = .ok (.ifCond .ne 7, 3) := by decide +kernel
theorem dX7_goes_13 : decode cX7_goes 13 = .ok (.iconst 2, 1) := by decide +kernel
theorem dX7_goes_14 : decode cX7_goes 14 = .ok (.goto 12, 3) := by decide +kernel
theorem dX7_goes_17 : decode cX7_goes 17 = .ok (.iload_n 3, 1) := by decide +kernel
theorem dX7_goes_18 : decode cX7_goes 18 = .ok (.ifCond .ne 7, 3) := by decide +kernel
theorem dX7_goes_21 : decode cX7_goes 21 = .ok (.iconst 3, 1) := by decide +kernel
theorem dX7_goes_22 : decode cX7_goes 22 = .ok (.goto 4, 3) := by decide +kernel
theorem dX7_goes_25 : decode cX7_goes 25 = .ok (.iconst 0, 1) := by decide +kernel
theorem dX7_goes_26 : decode cX7_goes 26 = .ok (.putfield 79, 3) := by decide +kernel
theorem dX7_goes_29 : decode cX7_goes 29 = .ok (.aload_n 0, 1) := by decide +kernel
theorem dX7_goes_30 : decode cX7_goes 30 = .ok (.getfield 79, 3) := by decide +kernel
theorem dX7_goes_33 : decode cX7_goes 33 = .ok (.ifCond .ne 7, 3) := by decide +kernel
theorem dX7_goes_36 : decode cX7_goes 36 = .ok (.iconst 1, 1) := by decide +kernel
theorem dX7_goes_37 : decode cX7_goes 37 = .ok (.goto 4, 3) := by decide +kernel
theorem dX7_goes_40 : decode cX7_goes 40 = .ok (.iconst 0, 1) := by decide +kernel
theorem dX7_goes_41 : decode cX7_goes 41 = .ok (.ireturn, 1) := by decide +kernel
theorem dX7_isAccount_0 : decode cX7_isAccount 0 = .ok (.iload_n 1, 1) := by decide +kernel
theorem dX7_isAccount_1 : decode cX7_isAccount 1 = .ok (.iconst 0, 1) := by decide +kernel
theorem dX7_isAccount_2 : decode cX7_isAccount 2 = .ok (.aload_n 0, 1) := by decide +kernel
theorem dX7_isAccount_3 : decode cX7_isAccount 3 = .ok (.getfield 83, 3) := by decide +kernel
theorem dX7_isAccount_6 : decode cX7_isAccount 6 = .ok (.iconst 1, 1) := by decide +kernel
theorem dX7_isAccount_7 : decode cX7_isAccount 7 = .ok (.isub, 1) := by decide +kernel
theorem dX7_isAccount_8 : decode cX7_isAccount 8 = .ok (.invokestatic 86, 3) := by decide +kernel
theorem dX7_isAccount_11 : decode cX7_isAccount 11 = .ok (.ireturn, 1) := by decide +kernel
theorem dX7_isSeller_0 : decode cX7_isSeller 0 = .ok (.iload_n 1, 1) := by decide +kernel
theorem dX7_isSeller_1 : decode cX7_isSeller 1 = .ok (.iconst 0, 1) := by decide +kernel
theorem dX7_isSeller_2 : decode cX7_isSeller 2 = .ok (.aload_n 0, 1) := by decide +kernel
theorem dX7_isSeller_3 : decode cX7_isSeller 3 = .ok (.getfield 90, 3) := by decide +kernel
theorem dX7_isSeller_6 : decode cX7_isSeller 6 = .ok (.iconst 1, 1) := by decide +kernel
theorem dX7_isSeller_7 : decode cX7_isSeller 7 = .ok (.isub, 1) := by decide +kernel
theorem dX7_isSeller_8 : decode cX7_isSeller 8 = .ok (.invokestatic 86, 3) := by decide +kernel
theorem dX7_isSeller_11 : decode cX7_isSeller 11 = .ok (.ireturn, 1) := by decide +kernel
theorem dX7_isChance_0 : decode cX7_isChance 0 = .ok (.iload_n 1, 1) := by decide +kernel
theorem dX7_isChance_1 : decode cX7_isChance 1 = .ok (.iconst 0, 1) := by decide +kernel
theorem dX7_isChance_2 : decode cX7_isChance 2 = .ok (.aload_n 0, 1) := by decide +kernel
theorem dX7_isChance_3 : decode cX7_isChance 3 = .ok (.getfield 93, 3) := by decide +kernel
theorem dX7_isChance_6 : decode cX7_isChance 6 = .ok (.iconst 1, 1) := by decide +kernel
theorem dX7_isChance_7 : decode cX7_isChance 7 = .ok (.isub, 1) := by decide +kernel
theorem dX7_isChance_8 : decode cX7_isChance 8 = .ok (.invokestatic 86, 3) := by decide +kernel
theorem dX7_isChance_11 : decode cX7_isChance 11 = .ok (.ireturn, 1) := by decide +kernel
theorem dX7_pass_0 : decode cX7_pass 0 = .ok (.iload_n 1, 1) := by decide +kernel
theorem dX7_pass_1 : decode cX7_pass 1 = .ok (.iconst 1, 1) := by decide +kernel
theorem dX7_pass_2 : decode cX7_pass 2 = .ok (.sipush 1000, 3) := by decide +kernel
theorem dX7_pass_5 : decode cX7_pass 5 = .ok (.invokestatic 86, 3) := by decide +kernel
theorem dX7_pass_8 : decode cX7_pass 8 = .ok (.istore_n 2, 1) := by decide +kernel
theorem dX7_pass_9 : decode cX7_pass 9 = .ok (.aload_n 0, 1) := by decide +kernel
theorem dX7_pass_10 : decode cX7_pass 10 = .ok (.iload_n 2, 1) := by decide +kernel
theorem dX7_pass_11 : decode cX7_pass 11 = .ok (.iload_n 2, 1) := by decide +kernel
theorem dX7_pass_12 : decode cX7_pass 12 = .ok (.ifCond .eq 18, 3) := by decide +kernel
theorem dX7_pass_15 : decode cX7_pass 15 = .ok (.aload_n 0, 1) := by decide +kernel
theorem dX7_pass_16 : decode cX7_pass 16 = .ok (.getfield 96, 3) := by decide +kernel
theorem dX7_pass_19 : decode cX7_pass 19 = .ok (.iload_n 1, 1) := by decide +kernel
theorem dX7_pass_20 : decode cX7_pass 20 = .ok (.iadd, 1) := by decide +kernel
theorem dX7_pass_21 : decode cX7_pass 21 = .ok (.ldc 99, 2) := by decide +kernel
theorem dX7_pass_23 : decode cX7_pass 23 = .ok (.if_icmp .gt 7, 3) := by decide +kernel
theorem dX7_pass_26 : decode cX7_pass 26 = .ok (.iconst 1, 1) := by decide +kernel
theorem dX7_pass_27 : decode cX7_pass 27 = .ok (.goto 4, 3) := by decide +kernel
theorem dX7_pass_30 : decode cX7_pass 30 = .ok (.iconst 0, 1) := by decide +kernel
theorem dX7_pass_31 : decode cX7_pass 31 = .ok (.iconst 1, 1) := by decide +kernel
theorem dX7_pass_32 : decode cX7_pass 32 = .ok (.invokevirtual 100, 3) := by decide +kernel
theorem dX7_pass_35 : decode cX7_pass 35 = .ok (.ifCond .ne 5, 3) := by decide +kernel
theorem dX7_pass_38 : decode cX7_pass 38 = .ok (.iconst 0, 1) := by decide +kernel
theorem dX7_pass_39 : decode cX7_pass 39 = .ok (.ireturn, 1) := by decide +kernel
theorem dX7_pass_40 : decode cX7_pass 40 = .ok (.aload_n 0, 1) := by decide +kernel
theorem dX7_pass_41 : decode cX7_pass 41 = .ok (.dup, 1) := by decide +kernel
theorem dX7_pass_42 : decode cX7_pass 42 = .ok (.getfield 96, 3) := by decide +kernel
theorem dX7_pass_45 : decode cX7_pass 45 = .ok (.iload_n 1, 1) := by decide +kernel
theorem dX7_pass_46 : decode cX7_pass 46 = .ok (.iadd, 1) := by decide +kernel
theorem dX7_pass_47 : decode cX7_pass 47 = .ok (.putfield 96, 3) := by decide +kernel
theorem dX7_pass_50 : decode cX7_pass 50 = .ok (.aload_n 0, 1) := by decide +kernel
theorem dX7_pass_51 : decode cX7_pass 51 = .ok (.getfield 96, 3) := by decide +kernel
theorem dX7_pass_54 : decode cX7_pass 54 = .ok (.ireturn, 1) := by decide +kernel
theorem dX7_addAccount_0 : decode cX7_addAccount 0 = .ok (.aload_n 0, 1) := by decide +kernel
theorem dX7_addAccount_1 : decode cX7_addAccount 1 = .ok (.iload_n 1, 1) := by decide +kernel
theorem dX7_addAccount_2 : decode cX7_addAccount 2 = .ok (.iconst (-1), 1) := by decide +kernel
theorem dX7_addAccount_3 : decode cX7_addAccount 3 = .ok (.if_icmp .eq 11, 3) := by decide +kernel
theorem dX7_addAccount_6 : decode cX7_addAccount 6 = .ok (.aload_n 0, 1) := by decide +kernel
theorem dX7_addAccount_7 : decode cX7_addAccount 7 = .ok (.iload_n 1, 1) := by decide +kernel
theorem dX7_addAccount_8 : decode cX7_addAccount 8 = .ok (.invokevirtual 104, 3) := by decide +kernel
theorem dX7_addAccount_11 : decode cX7_addAccount 11 = .ok (.ifCond .eq 7, 3) := by decide +kernel
theorem dX7_addAccount_14 : decode cX7_addAccount 14 = .ok (.iconst 1, 1) := by decide +kernel
theorem dX7_addAccount_15 : decode cX7_addAccount 15 = .ok (.goto 4, 3) := by decide +kernel
theorem dX7_addAccount_18 : decode cX7_addAccount 18 = .ok (.iconst 0, 1) := by decide +kernel
theorem dX7_addAccount_19 : decode cX7_addAccount 19 = .ok (.iload_n 2, 1) := by decide +kernel
theorem dX7_addAccount_20 : decode cX7_addAccount 20 = .ok (.iconst 0, 1) := by decide +kernel
theorem dX7_addAccount_21 : decode cX7_addAccount 21 = .ok (.bipush 9, 2) := by decide +kernel
theorem dX7_addAccount_23 : decode cX7_addAccount 23 = .ok (.invokestatic 86, 3) := by decide +kernel
theorem dX7_addAccount_26 : decode cX7_addAccount 26 = .ok (.ifCond .eq 17, 3) := by decide +kernel
theorem dX7_addAccount_29 : decode cX7_addAccount 29 = .ok (.iload_n 3, 1) := by decide +kernel
theorem dX7_addAccount_30 : decode cX7_addAccount 30 = .ok (.iconst 0, 1) := by decide +kernel
theorem dX7_addAccount_31 : decode cX7_addAccount 31 = .ok (.bipush 9, 2) := by decide +kernel
theorem dX7_addAccount_33 : decode cX7_addAccount 33 = .ok (.invokestatic 86, 3) := by decide +kernel
theorem dX7_addAccount_36 : decode cX7_addAccount 36 = .ok (.ifCond .eq 7, 3) := by decide +kernel
theorem dX7_addAccount_39 : decode cX7_addAccount 39 = .ok (.iconst 1, 1) := by decide +kernel
theorem dX7_addAccount_40 : decode cX7_addAccount 40 = .ok (.goto 4, 3) := by decide +kernel
theorem dX7_addAccount_43 : decode cX7_addAccount 43 = .ok (.iconst 0, 1) := by decide +kernel
theorem dX7_addAccount_44 : decode cX7_addAccount 44 = .ok (.aload_n 0, 1) := by decide +kernel
theorem dX7_addAccount_45 : decode cX7_addAccount 45 = .ok (.getfield 83, 3) := by decide +kernel
theorem dX7_addAccount_48 : decode cX7_addAccount 48 = .ok (.bipush 16, 2) := by decide +kernel
theorem dX7_addAccount_50 : decode cX7_addAccount 50 = .ok (.if_icmp .ge 7, 3) := by decide +kernel
theorem dX7_addAccount_53 : decode cX7_addAccount 53 = .ok (.iconst 1, 1) := by decide +kernel
theorem dX7_addAccount_54 : decode cX7_addAccount 54 = .ok (.goto 4, 3) := by decide +kernel
theorem dX7_addAccount_57 : decode cX7_addAccount 57 = .ok (.iconst 0, 1) := by decide +kernel
theorem dX7_addAccount_58 : decode cX7_addAccount 58 = .ok (.invokevirtual 100, 3) := by decide +kernel
theorem dX7_addAccount_61 : decode cX7_addAccount 61 = .ok (.ifCond .ne 5, 3) := by decide +kernel
theorem dX7_addAccount_64 : decode cX7_addAccount 64 = .ok (.iconst 0, 1) := by decide +kernel
theorem dX7_addAccount_65 : decode cX7_addAccount 65 = .ok (.ireturn, 1) := by decide +kernel
theorem dX7_addAccount_66 : decode cX7_addAccount 66 = .ok (.aload_n 0, 1) := by decide +kernel
theorem dX7_addAccount_67 : decode cX7_addAccount 67 = .ok (.getfield 7, 3) := by decide +kernel
theorem dX7_addAccount_70 : decode cX7_addAccount 70 = .ok (.aload_n 0, 1) := by decide +kernel
theorem dX7_addAccount_71 : decode cX7_addAccount 71 = .ok (.getfield 83, 3) := by decide +kernel
theorem dX7_addAccount_74 : decode cX7_addAccount 74 = .ok (.iload_n 1, 1) := by decide +kernel
theorem dX7_addAccount_75 : decode cX7_addAccount 75 = .ok (.iastore, 1) := by decide +kernel
theorem dX7_addAccount_76 : decode cX7_addAccount 76 = .ok (.aload_n 0, 1) := by decide +kernel
theorem dX7_addAccount_77 : decode cX7_addAccount 77 = .ok (.getfield 13, 3) := by decide +kernel
theorem dX7_addAccount_80 : decode cX7_addAccount 80 = .ok (.aload_n 0, 1) := by decide +kernel
theorem dX7_addAccount_81 : decode cX7_addAccount 81 = .ok (.getfield 83, 3) := by decide +kernel
theorem dX7_addAccount_84 : decode cX7_addAccount 84 = .ok (.iload_n 2, 1) := by decide +kernel
theorem dX7_addAccount_85 : decode cX7_addAccount 85 = .ok (.iastore, 1) := by decide +kernel
theorem dX7_addAccount_86 : decode cX7_addAccount 86 = .ok (.aload_n 0, 1) := by decide +kernel
theorem dX7_addAccount_87 : decode cX7_addAccount 87 = .ok (.getfield 16, 3) := by decide +kernel
theorem dX7_addAccount_90 : decode cX7_addAccount 90 = .ok (.aload_n 0, 1) := by decide +kernel
theorem dX7_addAccount_91 : decode cX7_addAccount 91 = .ok (.getfield 83, 3) := by decide +kernel
theorem dX7_addAccount_94 : decode cX7_addAccount 94 = .ok (.iload_n 3, 1) := by decide +kernel
theorem dX7_addAccount_95 : decode cX7_addAccount 95 = .ok (.iastore, 1) := by decide +kernel
theorem dX7_addAccount_96 : decode cX7_addAccount 96 = .ok (.aload_n 0, 1) := by decide +kernel
theorem dX7_addAccount_97 : decode cX7_addAccount 97 = .ok (.getfield 19, 3) := by decide +kernel
theorem dX7_addAccount_100 : decode cX7_addAccount 100 = .ok (.aload_n 0, 1) := by decide +kernel
theorem dX7_addAccount_101 : decode cX7_addAccount 101 = .ok (.getfield 83, 3) := by decide +kernel
theorem dX7_addAccount_104 : decode cX7_addAccount 104 = .ok (.iconst (-1), 1) := by decide +kernel
theorem dX7_addAccount_105 : decode cX7_addAccount 105 = .ok (.iastore, 1) := by decide +kernel
theorem dX7_addAccount_106 : decode cX7_addAccount 106 = .ok (.aload_n 0, 1) := by decide +kernel
theorem dX7_addAccount_107 : decode cX7_addAccount 107 = .ok (.dup, 1) := by decide +kernel
theorem dX7_addAccount_108 : decode cX7_addAccount 108 = .ok (.getfield 83, 3) := by decide +kernel
theorem dX7_addAccount_111 : decode cX7_addAccount 111 = .ok (.iconst 1, 1) := by decide +kernel
theorem dX7_addAccount_112 : decode cX7_addAccount 112 = .ok (.iadd, 1) := by decide +kernel
theorem dX7_addAccount_113 : decode cX7_addAccount 113 = .ok (.putfield 83, 3) := by decide +kernel
theorem dX7_addAccount_116 : decode cX7_addAccount 116 = .ok (.aload_n 0, 1) := by decide +kernel
theorem dX7_addAccount_117 : decode cX7_addAccount 117 = .ok (.getfield 83, 3) := by decide +kernel
theorem dX7_addAccount_120 : decode cX7_addAccount 120 = .ok (.iconst 1, 1) := by decide +kernel
theorem dX7_addAccount_121 : decode cX7_addAccount 121 = .ok (.isub, 1) := by decide +kernel
theorem dX7_addAccount_122 : decode cX7_addAccount 122 = .ok (.ireturn, 1) := by decide +kernel
theorem dX7_copyRule_0 : decode cX7_copyRule 0 = .ok (.aload_n 0, 1) := by decide +kernel
theorem dX7_copyRule_1 : decode cX7_copyRule 1 = .ok (.getfield 22, 3) := by decide +kernel
theorem dX7_copyRule_4 : decode cX7_copyRule 4 = .ok (.iload_n 2, 1) := by decide +kernel
theorem dX7_copyRule_5 : decode cX7_copyRule 5 = .ok (.aload_n 0, 1) := by decide +kernel
theorem dX7_copyRule_6 : decode cX7_copyRule 6 = .ok (.getfield 22, 3) := by decide +kernel
theorem dX7_copyRule_9 : decode cX7_copyRule 9 = .ok (.iload_n 1, 1) := by decide +kernel
theorem dX7_copyRule_10 : decode cX7_copyRule 10 = .ok (.iaload, 1) := by decide +kernel
theorem dX7_copyRule_11 : decode cX7_copyRule 11 = .ok (.iastore, 1) := by decide +kernel
theorem dX7_copyRule_12 : decode cX7_copyRule 12 = .ok (.aload_n 0, 1) := by decide +kernel
theorem dX7_copyRule_13 : decode cX7_copyRule 13 = .ok (.getfield 25, 3) := by decide +kernel
theorem dX7_copyRule_16 : decode cX7_copyRule 16 = .ok (.iload_n 2, 1) := by decide +kernel
theorem dX7_copyRule_17 : decode cX7_copyRule 17 = .ok (.aload_n 0, 1) := by decide +kernel
theorem dX7_copyRule_18 : decode cX7_copyRule 18 = .ok (.getfield 25, 3) := by decide +kernel
theorem dX7_copyRule_21 : decode cX7_copyRule 21 = .ok (.iload_n 1, 1) := by decide +kernel
theorem dX7_copyRule_22 : decode cX7_copyRule 22 = .ok (.iaload, 1) := by decide +kernel
theorem dX7_copyRule_23 : decode cX7_copyRule 23 = .ok (.iastore, 1) := by decide +kernel
theorem dX7_copyRule_24 : decode cX7_copyRule 24 = .ok (.aload_n 0, 1) := by decide +kernel
theorem dX7_copyRule_25 : decode cX7_copyRule 25 = .ok (.getfield 28, 3) := by decide +kernel
theorem dX7_copyRule_28 : decode cX7_copyRule 28 = .ok (.iload_n 2, 1) := by decide +kernel
theorem dX7_copyRule_29 : decode cX7_copyRule 29 = .ok (.aload_n 0, 1) := by decide +kernel
theorem dX7_copyRule_30 : decode cX7_copyRule 30 = .ok (.getfield 28, 3) := by decide +kernel
theorem dX7_copyRule_33 : decode cX7_copyRule 33 = .ok (.iload_n 1, 1) := by decide +kernel
theorem dX7_copyRule_34 : decode cX7_copyRule 34 = .ok (.iaload, 1) := by decide +kernel
theorem dX7_copyRule_35 : decode cX7_copyRule 35 = .ok (.iastore, 1) := by decide +kernel
theorem dX7_copyRule_36 : decode cX7_copyRule 36 = .ok (.aload_n 0, 1) := by decide +kernel
theorem dX7_copyRule_37 : decode cX7_copyRule 37 = .ok (.getfield 31, 3) := by decide +kernel
theorem dX7_copyRule_40 : decode cX7_copyRule 40 = .ok (.iload_n 2, 1) := by decide +kernel
theorem dX7_copyRule_41 : decode cX7_copyRule 41 = .ok (.aload_n 0, 1) := by decide +kernel
theorem dX7_copyRule_42 : decode cX7_copyRule 42 = .ok (.getfield 31, 3) := by decide +kernel
theorem dX7_copyRule_45 : decode cX7_copyRule 45 = .ok (.iload_n 1, 1) := by decide +kernel
theorem dX7_copyRule_46 : decode cX7_copyRule 46 = .ok (.iaload, 1) := by decide +kernel
theorem dX7_copyRule_47 : decode cX7_copyRule 47 = .ok (.iastore, 1) := by decide +kernel
theorem dX7_copyRule_48 : decode cX7_copyRule 48 = .ok (.return_, 1) := by decide +kernel
theorem dX7_putRule_0 : decode cX7_putRule 0 = .ok (.iload_n 2, 1) := by decide +kernel
theorem dX7_putRule_1 : decode cX7_putRule 1 = .ok (.iconst 0, 1) := by decide +kernel
theorem dX7_putRule_2 : decode cX7_putRule 2 = .ok (.bipush 9, 2) := by decide +kernel
theorem dX7_putRule_4 : decode cX7_putRule 4 = .ok (.invokestatic 86, 3) := by decide +kernel
theorem dX7_putRule_7 : decode cX7_putRule 7 = .ok (.ifCond .eq 38, 3) := by decide +kernel
theorem dX7_putRule_10 : decode cX7_putRule 10 = .ok (.iload_n 3, 1) := by decide +kernel
theorem dX7_putRule_11 : decode cX7_putRule 11 = .ok (.iload_n 2, 1) := by decide +kernel
theorem dX7_putRule_12 : decode cX7_putRule 12 = .ok (.bipush 9, 2) := by decide +kernel
theorem dX7_putRule_14 : decode cX7_putRule 14 = .ok (.invokestatic 86, 3) := by decide +kernel
theorem dX7_putRule_17 : decode cX7_putRule 17 = .ok (.ifCond .eq 28, 3) := by decide +kernel
theorem dX7_putRule_20 : decode cX7_putRule 20 = .ok (.iload 4, 2) := by decide +kernel
theorem dX7_putRule_22 : decode cX7_putRule 22 = .ok (.iconst 0, 1) := by decide +kernel
theorem dX7_putRule_23 : decode cX7_putRule 23 = .ok (.bipush 9, 2) := by decide +kernel
theorem dX7_putRule_25 : decode cX7_putRule 25 = .ok (.invokestatic 86, 3) := by decide +kernel
theorem dX7_putRule_28 : decode cX7_putRule 28 = .ok (.ifCond .eq 17, 3) := by decide +kernel
theorem dX7_putRule_31 : decode cX7_putRule 31 = .ok (.iload 5, 2) := by decide +kernel
theorem dX7_putRule_33 : decode cX7_putRule 33 = .ok (.iconst 0, 1) := by decide +kernel
theorem dX7_putRule_34 : decode cX7_putRule 34 = .ok (.iconst 3, 1) := by decide +kernel
theorem dX7_putRule_35 : decode cX7_putRule 35 = .ok (.invokestatic 86, 3) := by decide +kernel
theorem dX7_putRule_38 : decode cX7_putRule 38 = .ok (.ifCond .eq 7, 3) := by decide +kernel
theorem dX7_putRule_41 : decode cX7_putRule 41 = .ok (.iconst 1, 1) := by decide +kernel
theorem dX7_putRule_42 : decode cX7_putRule 42 = .ok (.goto 4, 3) := by decide +kernel
theorem dX7_putRule_45 : decode cX7_putRule 45 = .ok (.iconst 0, 1) := by decide +kernel
theorem dX7_putRule_46 : decode cX7_putRule 46 = .ok (.istore 6, 2) := by decide +kernel
theorem dX7_putRule_48 : decode cX7_putRule 48 = .ok (.aload_n 0, 1) := by decide +kernel
theorem dX7_putRule_49 : decode cX7_putRule 49 = .ok (.iload_n 1, 1) := by decide +kernel
theorem dX7_putRule_50 : decode cX7_putRule 50 = .ok (.iconst 0, 1) := by decide +kernel
theorem dX7_putRule_51 : decode cX7_putRule 51 = .ok (.aload_n 0, 1) := by decide +kernel
theorem dX7_putRule_52 : decode cX7_putRule 52 = .ok (.getfield 108, 3) := by decide +kernel
theorem dX7_putRule_55 : decode cX7_putRule 55 = .ok (.invokestatic 86, 3) := by decide +kernel
theorem dX7_putRule_58 : decode cX7_putRule 58 = .ok (.iload 6, 2) := by decide +kernel
theorem dX7_putRule_60 : decode cX7_putRule 60 = .ok (.aload_n 0, 1) := by decide +kernel
theorem dX7_putRule_61 : decode cX7_putRule 61 = .ok (.getfield 108, 3) := by decide +kernel
theorem dX7_putRule_64 : decode cX7_putRule 64 = .ok (.bipush 8, 2) := by decide +kernel
theorem dX7_putRule_66 : decode cX7_putRule 66 = .ok (.if_icmp .ge 7, 3) := by decide +kernel
theorem dX7_putRule_69 : decode cX7_putRule 69 = .ok (.iconst 1, 1) := by decide +kernel
theorem dX7_putRule_70 : decode cX7_putRule 70 = .ok (.goto 4, 3) := by decide +kernel
theorem dX7_putRule_73 : decode cX7_putRule 73 = .ok (.iconst 0, 1) := by decide +kernel
theorem dX7_putRule_74 : decode cX7_putRule 74 = .ok (.invokevirtual 100, 3) := by decide +kernel
theorem dX7_putRule_77 : decode cX7_putRule 77 = .ok (.ifCond .ne 5, 3) := by decide +kernel
theorem dX7_putRule_80 : decode cX7_putRule 80 = .ok (.iconst 0, 1) := by decide +kernel
theorem dX7_putRule_81 : decode cX7_putRule 81 = .ok (.ireturn, 1) := by decide +kernel
theorem dX7_putRule_82 : decode cX7_putRule 82 = .ok (.aload_n 0, 1) := by decide +kernel
theorem dX7_putRule_83 : decode cX7_putRule 83 = .ok (.getfield 108, 3) := by decide +kernel
theorem dX7_putRule_86 : decode cX7_putRule 86 = .ok (.istore 7, 2) := by decide +kernel
theorem dX7_putRule_88 : decode cX7_putRule 88 = .ok (.iload 7, 2) := by decide +kernel
theorem dX7_putRule_90 : decode cX7_putRule 90 = .ok (.iload_n 1, 1) := by decide +kernel
theorem dX7_putRule_91 : decode cX7_putRule 91 = .ok (.if_icmp .le 19, 3) := by decide +kernel
theorem dX7_putRule_94 : decode cX7_putRule 94 = .ok (.aload_n 0, 1) := by decide +kernel
theorem dX7_putRule_95 : decode cX7_putRule 95 = .ok (.iload 7, 2) := by decide +kernel
theorem dX7_putRule_97 : decode cX7_putRule 97 = .ok (.iconst 1, 1) := by decide +kernel
theorem dX7_putRule_98 : decode cX7_putRule 98 = .ok (.isub, 1) := by decide +kernel
theorem dX7_putRule_99 : decode cX7_putRule 99 = .ok (.iload 7, 2) := by decide +kernel
theorem dX7_putRule_101 : decode cX7_putRule 101 = .ok (.invokevirtual 111, 3) := by decide +kernel
theorem dX7_putRule_104 : decode cX7_putRule 104 = .ok (.iinc 7 (-1), 3) := by decide +kernel
theorem dX7_putRule_107 : decode cX7_putRule 107 = .ok (.goto (-19), 3) := by decide +kernel
theorem dX7_putRule_110 : decode cX7_putRule 110 = .ok (.aload_n 0, 1) := by decide +kernel
theorem dX7_putRule_111 : decode cX7_putRule 111 = .ok (.getfield 22, 3) := by decide +kernel
theorem dX7_putRule_114 : decode cX7_putRule 114 = .ok (.iload_n 1, 1) := by decide +kernel
theorem dX7_putRule_115 : decode cX7_putRule 115 = .ok (.iload_n 2, 1) := by decide +kernel
theorem dX7_putRule_116 : decode cX7_putRule 116 = .ok (.iastore, 1) := by decide +kernel
theorem dX7_putRule_117 : decode cX7_putRule 117 = .ok (.aload_n 0, 1) := by decide +kernel
theorem dX7_putRule_118 : decode cX7_putRule 118 = .ok (.getfield 25, 3) := by decide +kernel
theorem dX7_putRule_121 : decode cX7_putRule 121 = .ok (.iload_n 1, 1) := by decide +kernel
theorem dX7_putRule_122 : decode cX7_putRule 122 = .ok (.iload_n 3, 1) := by decide +kernel
theorem dX7_putRule_123 : decode cX7_putRule 123 = .ok (.iastore, 1) := by decide +kernel
theorem dX7_putRule_124 : decode cX7_putRule 124 = .ok (.aload_n 0, 1) := by decide +kernel
theorem dX7_putRule_125 : decode cX7_putRule 125 = .ok (.getfield 28, 3) := by decide +kernel
theorem dX7_putRule_128 : decode cX7_putRule 128 = .ok (.iload_n 1, 1) := by decide +kernel
theorem dX7_putRule_129 : decode cX7_putRule 129 = .ok (.iload 4, 2) := by decide +kernel
theorem dX7_putRule_131 : decode cX7_putRule 131 = .ok (.iastore, 1) := by decide +kernel
theorem dX7_putRule_132 : decode cX7_putRule 132 = .ok (.aload_n 0, 1) := by decide +kernel
theorem dX7_putRule_133 : decode cX7_putRule 133 = .ok (.getfield 31, 3) := by decide +kernel
theorem dX7_putRule_136 : decode cX7_putRule 136 = .ok (.iload_n 1, 1) := by decide +kernel
theorem dX7_putRule_137 : decode cX7_putRule 137 = .ok (.iload 5, 2) := by decide +kernel
theorem dX7_putRule_139 : decode cX7_putRule 139 = .ok (.iastore, 1) := by decide +kernel
theorem dX7_putRule_140 : decode cX7_putRule 140 = .ok (.aload_n 0, 1) := by decide +kernel
theorem dX7_putRule_141 : decode cX7_putRule 141 = .ok (.dup, 1) := by decide +kernel
theorem dX7_putRule_142 : decode cX7_putRule 142 = .ok (.getfield 108, 3) := by decide +kernel
theorem dX7_putRule_145 : decode cX7_putRule 145 = .ok (.iconst 1, 1) := by decide +kernel
theorem dX7_putRule_146 : decode cX7_putRule 146 = .ok (.iadd, 1) := by decide +kernel
theorem dX7_putRule_147 : decode cX7_putRule 147 = .ok (.putfield 108, 3) := by decide +kernel
theorem dX7_putRule_150 : decode cX7_putRule 150 = .ok (.aload_n 0, 1) := by decide +kernel
theorem dX7_putRule_151 : decode cX7_putRule 151 = .ok (.getfield 108, 3) := by decide +kernel
theorem dX7_putRule_154 : decode cX7_putRule 154 = .ok (.ireturn, 1) := by decide +kernel
theorem dX7_removeRule_0 : decode cX7_removeRule 0 = .ok (.aload_n 0, 1) := by decide +kernel
theorem dX7_removeRule_1 : decode cX7_removeRule 1 = .ok (.iload_n 1, 1) := by decide +kernel
theorem dX7_removeRule_2 : decode cX7_removeRule 2 = .ok (.iconst 0, 1) := by decide +kernel
theorem dX7_removeRule_3 : decode cX7_removeRule 3 = .ok (.aload_n 0, 1) := by decide +kernel
theorem dX7_removeRule_4 : decode cX7_removeRule 4 = .ok (.getfield 108, 3) := by decide +kernel
theorem dX7_removeRule_7 : decode cX7_removeRule 7 = .ok (.iconst 1, 1) := by decide +kernel
theorem dX7_removeRule_8 : decode cX7_removeRule 8 = .ok (.isub, 1) := by decide +kernel
theorem dX7_removeRule_9 : decode cX7_removeRule 9 = .ok (.invokestatic 86, 3) := by decide +kernel
theorem dX7_removeRule_12 : decode cX7_removeRule 12 = .ok (.iconst 1, 1) := by decide +kernel
theorem dX7_removeRule_13 : decode cX7_removeRule 13 = .ok (.iconst 1, 1) := by decide +kernel
theorem dX7_removeRule_14 : decode cX7_removeRule 14 = .ok (.invokevirtual 100, 3) := by decide +kernel
theorem dX7_removeRule_17 : decode cX7_removeRule 17 = .ok (.ifCond .ne 5, 3) := by decide +kernel
theorem dX7_removeRule_20 : decode cX7_removeRule 20 = .ok (.iconst 0, 1) := by decide +kernel
theorem dX7_removeRule_21 : decode cX7_removeRule 21 = .ok (.ireturn, 1) := by decide +kernel
theorem dX7_removeRule_22 : decode cX7_removeRule 22 = .ok (.aload_n 0, 1) := by decide +kernel
theorem dX7_removeRule_23 : decode cX7_removeRule 23 = .ok (.dup, 1) := by decide +kernel
theorem dX7_removeRule_24 : decode cX7_removeRule 24 = .ok (.getfield 108, 3) := by decide +kernel
theorem dX7_removeRule_27 : decode cX7_removeRule 27 = .ok (.iconst 1, 1) := by decide +kernel
theorem dX7_removeRule_28 : decode cX7_removeRule 28 = .ok (.isub, 1) := by decide +kernel
theorem dX7_removeRule_29 : decode cX7_removeRule 29 = .ok (.putfield 108, 3) := by decide +kernel
theorem dX7_removeRule_32 : decode cX7_removeRule 32 = .ok (.iload_n 1, 1) := by decide +kernel
theorem dX7_removeRule_33 : decode cX7_removeRule 33 = .ok (.istore_n 2, 1) := by decide +kernel
theorem dX7_removeRule_34 : decode cX7_removeRule 34 = .ok (.iload_n 2, 1) := by decide +kernel
theorem dX7_removeRule_35 : decode cX7_removeRule 35 = .ok (.aload_n 0, 1) := by decide +kernel
theorem dX7_removeRule_36 : decode cX7_removeRule 36 = .ok (.getfield 108, 3) := by decide +kernel
theorem dX7_removeRule_39 : decode cX7_removeRule 39 = .ok (.if_icmp .ge 17, 3) := by decide +kernel
theorem dX7_removeRule_42 : decode cX7_removeRule 42 = .ok (.aload_n 0, 1) := by decide +kernel
theorem dX7_removeRule_43 : decode cX7_removeRule 43 = .ok (.iload_n 2, 1) := by decide +kernel
theorem dX7_removeRule_44 : decode cX7_removeRule 44 = .ok (.iconst 1, 1) := by decide +kernel
theorem dX7_removeRule_45 : decode cX7_removeRule 45 = .ok (.iadd, 1) := by decide +kernel
theorem dX7_removeRule_46 : decode cX7_removeRule 46 = .ok (.iload_n 2, 1) := by decide +kernel
theorem dX7_removeRule_47 : decode cX7_removeRule 47 = .ok (.invokevirtual 111, 3) := by decide +kernel
theorem dX7_removeRule_50 : decode cX7_removeRule 50 = .ok (.iinc 2 1, 3) := by decide +kernel
theorem dX7_removeRule_53 : decode cX7_removeRule 53 = .ok (.goto (-19), 3) := by decide +kernel
theorem dX7_removeRule_56 : decode cX7_removeRule 56 = .ok (.aload_n 0, 1) := by decide +kernel
theorem dX7_removeRule_57 : decode cX7_removeRule 57 = .ok (.getfield 108, 3) := by decide +kernel
theorem dX7_removeRule_60 : decode cX7_removeRule 60 = .ok (.ireturn, 1) := by decide +kernel
theorem dX7_except_0 : decode cX7_except 0 = .ok (.aload_n 0, 1) := by decide +kernel
theorem dX7_except_1 : decode cX7_except 1 = .ok (.aload_n 0, 1) := by decide +kernel
theorem dX7_except_2 : decode cX7_except 2 = .ok (.iload_n 1, 1) := by decide +kernel
theorem dX7_except_3 : decode cX7_except 3 = .ok (.invokevirtual 104, 3) := by decide +kernel
theorem dX7_except_6 : decode cX7_except 6 = .ok (.iload_n 2, 1) := by decide +kernel
theorem dX7_except_7 : decode cX7_except 7 = .ok (.iconst (-1), 1) := by decide +kernel
theorem dX7_except_8 : decode cX7_except 8 = .ok (.iconst 3, 1) := by decide +kernel
theorem dX7_except_9 : decode cX7_except 9 = .ok (.invokestatic 86, 3) := by decide +kernel
theorem dX7_except_12 : decode cX7_except 12 = .ok (.iconst 1, 1) := by decide +kernel
theorem dX7_except_13 : decode cX7_except 13 = .ok (.invokevirtual 100, 3) := by decide +kernel
theorem dX7_except_16 : decode cX7_except 16 = .ok (.ifCond .ne 5, 3) := by decide +kernel
theorem dX7_except_19 : decode cX7_except 19 = .ok (.iconst 0, 1) := by decide +kernel
theorem dX7_except_20 : decode cX7_except 20 = .ok (.ireturn, 1) := by decide +kernel
theorem dX7_except_21 : decode cX7_except 21 = .ok (.aload_n 0, 1) := by decide +kernel
theorem dX7_except_22 : decode cX7_except 22 = .ok (.getfield 19, 3) := by decide +kernel
theorem dX7_except_25 : decode cX7_except 25 = .ok (.iload_n 1, 1) := by decide +kernel
theorem dX7_except_26 : decode cX7_except 26 = .ok (.iaload, 1) := by decide +kernel
theorem dX7_except_27 : decode cX7_except 27 = .ok (.istore_n 3, 1) := by decide +kernel
theorem dX7_except_28 : decode cX7_except 28 = .ok (.aload_n 0, 1) := by decide +kernel
theorem dX7_except_29 : decode cX7_except 29 = .ok (.getfield 19, 3) := by decide +kernel
theorem dX7_except_32 : decode cX7_except 32 = .ok (.iload_n 1, 1) := by decide +kernel
theorem dX7_except_33 : decode cX7_except 33 = .ok (.iload_n 2, 1) := by decide +kernel
theorem dX7_except_34 : decode cX7_except 34 = .ok (.iastore, 1) := by decide +kernel
theorem dX7_except_35 : decode cX7_except 35 = .ok (.iload_n 3, 1) := by decide +kernel
theorem dX7_except_36 : decode cX7_except 36 = .ok (.ireturn, 1) := by decide +kernel
theorem dX7_ownRegion_0 : decode cX7_ownRegion 0 = .ok (.iconst (-1), 1) := by decide +kernel
theorem dX7_ownRegion_1 : decode cX7_ownRegion 1 = .ok (.istore_n 2, 1) := by decide +kernel
theorem dX7_ownRegion_2 : decode cX7_ownRegion 2 = .ok (.aload_n 0, 1) := by decide +kernel
theorem dX7_ownRegion_3 : decode cX7_ownRegion 3 = .ok (.getfield 108, 3) := by decide +kernel
theorem dX7_ownRegion_6 : decode cX7_ownRegion 6 = .ok (.iconst 1, 1) := by decide +kernel
theorem dX7_ownRegion_7 : decode cX7_ownRegion 7 = .ok (.isub, 1) := by decide +kernel
theorem dX7_ownRegion_8 : decode cX7_ownRegion 8 = .ok (.istore_n 3, 1) := by decide +kernel
theorem dX7_ownRegion_9 : decode cX7_ownRegion 9 = .ok (.iload_n 3, 1) := by decide +kernel
theorem dX7_ownRegion_10 : decode cX7_ownRegion 10 = .ok (.ifCond .lt 59, 3) := by decide +kernel
theorem dX7_ownRegion_13 : decode cX7_ownRegion 13 = .ok (.aload_n 0, 1) := by decide +kernel
theorem dX7_ownRegion_14 : decode cX7_ownRegion 14 = .ok (.getfield 13, 3) := by decide +kernel
theorem dX7_ownRegion_17 : decode cX7_ownRegion 17 = .ok (.iload_n 1, 1) := by decide +kernel
theorem dX7_ownRegion_18 : decode cX7_ownRegion 18 = .ok (.iaload, 1) := by decide +kernel
theorem dX7_ownRegion_19 : decode cX7_ownRegion 19 = .ok (.aload_n 0, 1) := by decide +kernel
theorem dX7_ownRegion_20 : decode cX7_ownRegion 20 = .ok (.getfield 22, 3) := by decide +kernel
theorem dX7_ownRegion_23 : decode cX7_ownRegion 23 = .ok (.iload_n 3, 1) := by decide +kernel
theorem dX7_ownRegion_24 : decode cX7_ownRegion 24 = .ok (.iaload, 1) := by decide +kernel
theorem dX7_ownRegion_25 : decode cX7_ownRegion 25 = .ok (.aload_n 0, 1) := by decide +kernel
theorem dX7_ownRegion_26 : decode cX7_ownRegion 26 = .ok (.getfield 25, 3) := by decide +kernel
theorem dX7_ownRegion_29 : decode cX7_ownRegion 29 = .ok (.iload_n 3, 1) := by decide +kernel
theorem dX7_ownRegion_30 : decode cX7_ownRegion 30 = .ok (.iaload, 1) := by decide +kernel
theorem dX7_ownRegion_31 : decode cX7_ownRegion 31 = .ok (.invokestatic 86, 3) := by decide +kernel
theorem dX7_ownRegion_34 : decode cX7_ownRegion 34 = .ok (.ifCond .eq 27, 3) := by decide +kernel
theorem dX7_ownRegion_37 : decode cX7_ownRegion 37 = .ok (.aload_n 0, 1) := by decide +kernel
theorem dX7_ownRegion_38 : decode cX7_ownRegion 38 = .ok (.getfield 28, 3) := by decide +kernel
theorem dX7_ownRegion_41 : decode cX7_ownRegion 41 = .ok (.iload_n 3, 1) := by decide +kernel
theorem dX7_ownRegion_42 : decode cX7_ownRegion 42 = .ok (.iaload, 1) := by decide +kernel
theorem dX7_ownRegion_43 : decode cX7_ownRegion 43 = .ok (.aload_n 0, 1) := by decide +kernel
theorem dX7_ownRegion_44 : decode cX7_ownRegion 44 = .ok (.getfield 16, 3) := by decide +kernel
theorem dX7_ownRegion_47 : decode cX7_ownRegion 47 = .ok (.iload_n 1, 1) := by decide +kernel
theorem dX7_ownRegion_48 : decode cX7_ownRegion 48 = .ok (.iaload, 1) := by decide +kernel
theorem dX7_ownRegion_49 : decode cX7_ownRegion 49 = .ok (.if_icmp .gt 12, 3) := by decide +kernel
theorem dX7_ownRegion_52 : decode cX7_ownRegion 52 = .ok (.aload_n 0, 1) := by decide +kernel
theorem dX7_ownRegion_53 : decode cX7_ownRegion 53 = .ok (.getfield 31, 3) := by decide +kernel
theorem dX7_ownRegion_56 : decode cX7_ownRegion 56 = .ok (.iload_n 3, 1) := by decide +kernel
theorem dX7_ownRegion_57 : decode cX7_ownRegion 57 = .ok (.iaload, 1) := by decide +kernel
theorem dX7_ownRegion_58 : decode cX7_ownRegion 58 = .ok (.goto 4, 3) := by decide +kernel
theorem dX7_ownRegion_61 : decode cX7_ownRegion 61 = .ok (.iload_n 2, 1) := by decide +kernel
theorem dX7_ownRegion_62 : decode cX7_ownRegion 62 = .ok (.istore_n 2, 1) := by decide +kernel
theorem dX7_ownRegion_63 : decode cX7_ownRegion 63 = .ok (.iinc 3 (-1), 3) := by decide +kernel
theorem dX7_ownRegion_66 : decode cX7_ownRegion 66 = .ok (.goto (-57), 3) := by decide +kernel
theorem dX7_ownRegion_69 : decode cX7_ownRegion 69 = .ok (.aload_n 0, 1) := by decide +kernel
theorem dX7_ownRegion_70 : decode cX7_ownRegion 70 = .ok (.getfield 19, 3) := by decide +kernel
theorem dX7_ownRegion_73 : decode cX7_ownRegion 73 = .ok (.iload_n 1, 1) := by decide +kernel
theorem dX7_ownRegion_74 : decode cX7_ownRegion 74 = .ok (.iaload, 1) := by decide +kernel
theorem dX7_ownRegion_75 : decode cX7_ownRegion 75 = .ok (.iconst (-1), 1) := by decide +kernel
theorem dX7_ownRegion_76 : decode cX7_ownRegion 76 = .ok (.if_icmp .eq 12, 3) := by decide +kernel
theorem dX7_ownRegion_79 : decode cX7_ownRegion 79 = .ok (.aload_n 0, 1) := by decide +kernel
theorem dX7_ownRegion_80 : decode cX7_ownRegion 80 = .ok (.getfield 19, 3) := by decide +kernel
theorem dX7_ownRegion_83 : decode cX7_ownRegion 83 = .ok (.iload_n 1, 1) := by decide +kernel
theorem dX7_ownRegion_84 : decode cX7_ownRegion 84 = .ok (.iaload, 1) := by decide +kernel
theorem dX7_ownRegion_85 : decode cX7_ownRegion 85 = .ok (.goto 4, 3) := by decide +kernel
theorem dX7_ownRegion_88 : decode cX7_ownRegion 88 = .ok (.iload_n 2, 1) := by decide +kernel
theorem dX7_ownRegion_89 : decode cX7_ownRegion 89 = .ok (.ireturn, 1) := by decide +kernel
theorem dX7_region_0 : decode cX7_region 0 = .ok (.iload_n 1, 1) := by decide +kernel
theorem dX7_region_1 : decode cX7_region 1 = .ok (.istore_n 2, 1) := by decide +kernel
theorem dX7_region_2 : decode cX7_region 2 = .ok (.iload_n 2, 1) := by decide +kernel
theorem dX7_region_3 : decode cX7_region 3 = .ok (.iconst (-1), 1) := by decide +kernel
theorem dX7_region_4 : decode cX7_region 4 = .ok (.if_icmp .eq 22, 3) := by decide +kernel
theorem dX7_region_7 : decode cX7_region 7 = .ok (.aload_n 0, 1) := by decide +kernel
theorem dX7_region_8 : decode cX7_region 8 = .ok (.iload_n 2, 1) := by decide +kernel
theorem dX7_region_9 : decode cX7_region 9 = .ok (.invokevirtual 115, 3) := by decide +kernel
theorem dX7_region_12 : decode cX7_region 12 = .ok (.iconst (-1), 1) := by decide +kernel
theorem dX7_region_13 : decode cX7_region 13 = .ok (.if_icmp .ne 13, 3) := by decide +kernel
theorem dX7_region_16 : decode cX7_region 16 = .ok (.aload_n 0, 1) := by decide +kernel
theorem dX7_region_17 : decode cX7_region 17 = .ok (.getfield 7, 3) := by decide +kernel
theorem dX7_region_20 : decode cX7_region 20 = .ok (.iload_n 2, 1) := by decide +kernel
theorem dX7_region_21 : decode cX7_region 21 = .ok (.iaload, 1) := by decide +kernel
theorem dX7_region_22 : decode cX7_region 22 = .ok (.istore_n 2, 1) := by decide +kernel
theorem dX7_region_23 : decode cX7_region 23 = .ok (.goto (-21), 3) := by decide +kernel
theorem dX7_region_26 : decode cX7_region 26 = .ok (.iload_n 2, 1) := by decide +kernel
theorem dX7_region_27 : decode cX7_region 27 = .ok (.iconst (-1), 1) := by decide +kernel
theorem dX7_region_28 : decode cX7_region 28 = .ok (.if_icmp .ne 7, 3) := by decide +kernel
theorem dX7_region_31 : decode cX7_region 31 = .ok (.iconst 0, 1) := by decide +kernel
theorem dX7_region_32 : decode cX7_region 32 = .ok (.goto 8, 3) := by decide +kernel
theorem dX7_region_35 : decode cX7_region 35 = .ok (.aload_n 0, 1) := by decide +kernel
theorem dX7_region_36 : decode cX7_region 36 = .ok (.iload_n 2, 1) := by decide +kernel
theorem dX7_region_37 : decode cX7_region 37 = .ok (.invokevirtual 115, 3) := by decide +kernel
theorem dX7_region_40 : decode cX7_region 40 = .ok (.ireturn, 1) := by decide +kernel
theorem dX7_regionOf_0 : decode cX7_regionOf 0 = .ok (.aload_n 0, 1) := by decide +kernel
theorem dX7_regionOf_1 : decode cX7_regionOf 1 = .ok (.aload_n 0, 1) := by decide +kernel
theorem dX7_regionOf_2 : decode cX7_regionOf 2 = .ok (.iload_n 1, 1) := by decide +kernel
theorem dX7_regionOf_3 : decode cX7_regionOf 3 = .ok (.invokevirtual 104, 3) := by decide +kernel
theorem dX7_regionOf_6 : decode cX7_regionOf 6 = .ok (.iconst 1, 1) := by decide +kernel
theorem dX7_regionOf_7 : decode cX7_regionOf 7 = .ok (.iconst 1, 1) := by decide +kernel
theorem dX7_regionOf_8 : decode cX7_regionOf 8 = .ok (.invokevirtual 100, 3) := by decide +kernel
theorem dX7_regionOf_11 : decode cX7_regionOf 11 = .ok (.ifCond .eq 11, 3) := by decide +kernel
theorem dX7_regionOf_14 : decode cX7_regionOf 14 = .ok (.aload_n 0, 1) := by decide +kernel
theorem dX7_regionOf_15 : decode cX7_regionOf 15 = .ok (.iload_n 1, 1) := by decide +kernel
theorem dX7_regionOf_16 : decode cX7_regionOf 16 = .ok (.invokevirtual 119, 3) := by decide +kernel
theorem dX7_regionOf_19 : decode cX7_regionOf 19 = .ok (.goto 4, 3) := by decide +kernel
theorem dX7_regionOf_22 : decode cX7_regionOf 22 = .ok (.iconst 0, 1) := by decide +kernel
theorem dX7_regionOf_23 : decode cX7_regionOf 23 = .ok (.ireturn, 1) := by decide +kernel
theorem dX7_addSeller_0 : decode cX7_addSeller 0 = .ok (.aload_n 0, 1) := by decide +kernel
theorem dX7_addSeller_1 : decode cX7_addSeller 1 = .ok (.iload_n 1, 1) := by decide +kernel
theorem dX7_addSeller_2 : decode cX7_addSeller 2 = .ok (.iconst (-1), 1) := by decide +kernel
theorem dX7_addSeller_3 : decode cX7_addSeller 3 = .ok (.if_icmp .eq 11, 3) := by decide +kernel
theorem dX7_addSeller_6 : decode cX7_addSeller 6 = .ok (.aload_n 0, 1) := by decide +kernel
theorem dX7_addSeller_7 : decode cX7_addSeller 7 = .ok (.iload_n 1, 1) := by decide +kernel
theorem dX7_addSeller_8 : decode cX7_addSeller 8 = .ok (.invokevirtual 122, 3) := by decide +kernel
theorem dX7_addSeller_11 : decode cX7_addSeller 11 = .ok (.ifCond .eq 7, 3) := by decide +kernel
theorem dX7_addSeller_14 : decode cX7_addSeller 14 = .ok (.iconst 1, 1) := by decide +kernel
theorem dX7_addSeller_15 : decode cX7_addSeller 15 = .ok (.goto 4, 3) := by decide +kernel
theorem dX7_addSeller_18 : decode cX7_addSeller 18 = .ok (.iconst 0, 1) := by decide +kernel
theorem dX7_addSeller_19 : decode cX7_addSeller 19 = .ok (.iload_n 2, 1) := by decide +kernel
theorem dX7_addSeller_20 : decode cX7_addSeller 20 = .ok (.iconst 0, 1) := by decide +kernel
theorem dX7_addSeller_21 : decode cX7_addSeller 21 = .ok (.bipush 99, 2) := by decide +kernel
theorem dX7_addSeller_23 : decode cX7_addSeller 23 = .ok (.invokestatic 86, 3) := by decide +kernel
theorem dX7_addSeller_26 : decode cX7_addSeller 26 = .ok (.aload_n 0, 1) := by decide +kernel
theorem dX7_addSeller_27 : decode cX7_addSeller 27 = .ok (.getfield 90, 3) := by decide +kernel
theorem dX7_addSeller_30 : decode cX7_addSeller 30 = .ok (.bipush 8, 2) := by decide +kernel
theorem dX7_addSeller_32 : decode cX7_addSeller 32 = .ok (.if_icmp .ge 7, 3) := by decide +kernel
theorem dX7_addSeller_35 : decode cX7_addSeller 35 = .ok (.iconst 1, 1) := by decide +kernel
theorem dX7_addSeller_36 : decode cX7_addSeller 36 = .ok (.goto 4, 3) := by decide +kernel
theorem dX7_addSeller_39 : decode cX7_addSeller 39 = .ok (.iconst 0, 1) := by decide +kernel
theorem dX7_addSeller_40 : decode cX7_addSeller 40 = .ok (.invokevirtual 100, 3) := by decide +kernel
theorem dX7_addSeller_43 : decode cX7_addSeller 43 = .ok (.ifCond .ne 5, 3) := by decide +kernel
theorem dX7_addSeller_46 : decode cX7_addSeller 46 = .ok (.iconst 0, 1) := by decide +kernel
theorem dX7_addSeller_47 : decode cX7_addSeller 47 = .ok (.ireturn, 1) := by decide +kernel
theorem dX7_addSeller_48 : decode cX7_addSeller 48 = .ok (.aload_n 0, 1) := by decide +kernel
theorem dX7_addSeller_49 : decode cX7_addSeller 49 = .ok (.getfield 34, 3) := by decide +kernel
theorem dX7_addSeller_52 : decode cX7_addSeller 52 = .ok (.aload_n 0, 1) := by decide +kernel
theorem dX7_addSeller_53 : decode cX7_addSeller 53 = .ok (.getfield 90, 3) := by decide +kernel
theorem dX7_addSeller_56 : decode cX7_addSeller 56 = .ok (.iload_n 1, 1) := by decide +kernel
theorem dX7_addSeller_57 : decode cX7_addSeller 57 = .ok (.iastore, 1) := by decide +kernel
theorem dX7_addSeller_58 : decode cX7_addSeller 58 = .ok (.aload_n 0, 1) := by decide +kernel
theorem dX7_addSeller_59 : decode cX7_addSeller 59 = .ok (.getfield 37, 3) := by decide +kernel
theorem dX7_addSeller_62 : decode cX7_addSeller 62 = .ok (.aload_n 0, 1) := by decide +kernel
theorem dX7_addSeller_63 : decode cX7_addSeller 63 = .ok (.getfield 90, 3) := by decide +kernel
theorem dX7_addSeller_66 : decode cX7_addSeller 66 = .ok (.iload_n 2, 1) := by decide +kernel
theorem dX7_addSeller_67 : decode cX7_addSeller 67 = .ok (.iastore, 1) := by decide +kernel
theorem dX7_addSeller_68 : decode cX7_addSeller 68 = .ok (.aload_n 0, 1) := by decide +kernel
theorem dX7_addSeller_69 : decode cX7_addSeller 69 = .ok (.dup, 1) := by decide +kernel
theorem dX7_addSeller_70 : decode cX7_addSeller 70 = .ok (.getfield 90, 3) := by decide +kernel
theorem dX7_addSeller_73 : decode cX7_addSeller 73 = .ok (.iconst 1, 1) := by decide +kernel
theorem dX7_addSeller_74 : decode cX7_addSeller 74 = .ok (.iadd, 1) := by decide +kernel
theorem dX7_addSeller_75 : decode cX7_addSeller 75 = .ok (.putfield 90, 3) := by decide +kernel
theorem dX7_addSeller_78 : decode cX7_addSeller 78 = .ok (.aload_n 0, 1) := by decide +kernel
theorem dX7_addSeller_79 : decode cX7_addSeller 79 = .ok (.getfield 90, 3) := by decide +kernel
theorem dX7_addSeller_82 : decode cX7_addSeller 82 = .ok (.iconst 1, 1) := by decide +kernel
theorem dX7_addSeller_83 : decode cX7_addSeller 83 = .ok (.isub, 1) := by decide +kernel
theorem dX7_addSeller_84 : decode cX7_addSeller 84 = .ok (.ireturn, 1) := by decide +kernel
theorem dX7_adjust_0 : decode cX7_adjust 0 = .ok (.aload_n 0, 1) := by decide +kernel
theorem dX7_adjust_1 : decode cX7_adjust 1 = .ok (.aload_n 0, 1) := by decide +kernel
theorem dX7_adjust_2 : decode cX7_adjust 2 = .ok (.iload_n 1, 1) := by decide +kernel
theorem dX7_adjust_3 : decode cX7_adjust 3 = .ok (.invokevirtual 122, 3) := by decide +kernel
theorem dX7_adjust_6 : decode cX7_adjust 6 = .ok (.iload_n 2, 1) := by decide +kernel
theorem dX7_adjust_7 : decode cX7_adjust 7 = .ok (.ldc 125, 2) := by decide +kernel
theorem dX7_adjust_9 : decode cX7_adjust 9 = .ok (.ldc 126, 2) := by decide +kernel
theorem dX7_adjust_11 : decode cX7_adjust 11 = .ok (.invokestatic 86, 3) := by decide +kernel
theorem dX7_adjust_14 : decode cX7_adjust 14 = .ok (.iconst 1, 1) := by decide +kernel
theorem dX7_adjust_15 : decode cX7_adjust 15 = .ok (.invokevirtual 100, 3) := by decide +kernel
theorem dX7_adjust_18 : decode cX7_adjust 18 = .ok (.ifCond .ne 5, 3) := by decide +kernel
theorem dX7_adjust_21 : decode cX7_adjust 21 = .ok (.iconst 0, 1) := by decide +kernel
theorem dX7_adjust_22 : decode cX7_adjust 22 = .ok (.ireturn, 1) := by decide +kernel
theorem dX7_adjust_23 : decode cX7_adjust 23 = .ok (.aload_n 0, 1) := by decide +kernel
theorem dX7_adjust_24 : decode cX7_adjust 24 = .ok (.getfield 40, 3) := by decide +kernel
theorem dX7_adjust_27 : decode cX7_adjust 27 = .ok (.iload_n 1, 1) := by decide +kernel
theorem dX7_adjust_28 : decode cX7_adjust 28 = .ok (.iaload, 1) := by decide +kernel
theorem dX7_adjust_29 : decode cX7_adjust 29 = .ok (.istore_n 3, 1) := by decide +kernel
theorem dX7_adjust_30 : decode cX7_adjust 30 = .ok (.aload_n 0, 1) := by decide +kernel
theorem dX7_adjust_31 : decode cX7_adjust 31 = .ok (.getfield 40, 3) := by decide +kernel
theorem dX7_adjust_34 : decode cX7_adjust 34 = .ok (.iload_n 1, 1) := by decide +kernel
theorem dX7_adjust_35 : decode cX7_adjust 35 = .ok (.iload_n 2, 1) := by decide +kernel
theorem dX7_adjust_36 : decode cX7_adjust 36 = .ok (.iastore, 1) := by decide +kernel
theorem dX7_adjust_37 : decode cX7_adjust 37 = .ok (.iload_n 3, 1) := by decide +kernel
theorem dX7_adjust_38 : decode cX7_adjust 38 = .ok (.ireturn, 1) := by decide +kernel
theorem dX7_addChance_0 : decode cX7_addChance 0 = .ok (.aload_n 0, 1) := by decide +kernel
theorem dX7_addChance_1 : decode cX7_addChance 1 = .ok (.aload_n 0, 1) := by decide +kernel
theorem dX7_addChance_2 : decode cX7_addChance 2 = .ok (.iload_n 1, 1) := by decide +kernel
theorem dX7_addChance_3 : decode cX7_addChance 3 = .ok (.invokevirtual 104, 3) := by decide +kernel
theorem dX7_addChance_6 : decode cX7_addChance 6 = .ok (.ifCond .eq 15, 3) := by decide +kernel
theorem dX7_addChance_9 : decode cX7_addChance 9 = .ok (.aload_n 0, 1) := by decide +kernel
theorem dX7_addChance_10 : decode cX7_addChance 10 = .ok (.iload_n 2, 1) := by decide +kernel
theorem dX7_addChance_11 : decode cX7_addChance 11 = .ok (.invokevirtual 122, 3) := by decide +kernel
theorem dX7_addChance_14 : decode cX7_addChance 14 = .ok (.ifCond .eq 7, 3) := by decide +kernel
theorem dX7_addChance_17 : decode cX7_addChance 17 = .ok (.iconst 1, 1) := by decide +kernel
theorem dX7_addChance_18 : decode cX7_addChance 18 = .ok (.goto 4, 3) := by decide +kernel
theorem dX7_addChance_21 : decode cX7_addChance 21 = .ok (.iconst 0, 1) := by decide +kernel
theorem dX7_addChance_22 : decode cX7_addChance 22 = .ok (.iload_n 3, 1) := by decide +kernel
theorem dX7_addChance_23 : decode cX7_addChance 23 = .ok (.iconst 1, 1) := by decide +kernel
theorem dX7_addChance_24 : decode cX7_addChance 24 = .ok (.ldc 126, 2) := by decide +kernel
theorem dX7_addChance_26 : decode cX7_addChance 26 = .ok (.invokestatic 86, 3) := by decide +kernel
theorem dX7_addChance_29 : decode cX7_addChance 29 = .ok (.aload_n 0, 1) := by decide +kernel
theorem dX7_addChance_30 : decode cX7_addChance 30 = .ok (.getfield 93, 3) := by decide +kernel
theorem dX7_addChance_33 : decode cX7_addChance 33 = .ok (.bipush 30, 2) := by decide +kernel
theorem dX7_addChance_35 : decode cX7_addChance 35 = .ok (.if_icmp .ge 7, 3) := by decide +kernel
theorem dX7_addChance_38 : decode cX7_addChance 38 = .ok (.iconst 1, 1) := by decide +kernel
theorem dX7_addChance_39 : decode cX7_addChance 39 = .ok (.goto 4, 3) := by decide +kernel
theorem dX7_addChance_42 : decode cX7_addChance 42 = .ok (.iconst 0, 1) := by decide +kernel
theorem dX7_addChance_43 : decode cX7_addChance 43 = .ok (.invokevirtual 100, 3) := by decide +kernel
theorem dX7_addChance_46 : decode cX7_addChance 46 = .ok (.ifCond .ne 5, 3) := by decide +kernel
theorem dX7_addChance_49 : decode cX7_addChance 49 = .ok (.iconst 0, 1) := by decide +kernel
theorem dX7_addChance_50 : decode cX7_addChance 50 = .ok (.ireturn, 1) := by decide +kernel
theorem dX7_addChance_51 : decode cX7_addChance 51 = .ok (.aload_n 0, 1) := by decide +kernel
theorem dX7_addChance_52 : decode cX7_addChance 52 = .ok (.getfield 43, 3) := by decide +kernel
theorem dX7_addChance_55 : decode cX7_addChance 55 = .ok (.aload_n 0, 1) := by decide +kernel
theorem dX7_addChance_56 : decode cX7_addChance 56 = .ok (.getfield 93, 3) := by decide +kernel
theorem dX7_addChance_59 : decode cX7_addChance 59 = .ok (.iload_n 1, 1) := by decide +kernel
theorem dX7_addChance_60 : decode cX7_addChance 60 = .ok (.iastore, 1) := by decide +kernel
theorem dX7_addChance_61 : decode cX7_addChance 61 = .ok (.aload_n 0, 1) := by decide +kernel
theorem dX7_addChance_62 : decode cX7_addChance 62 = .ok (.getfield 46, 3) := by decide +kernel
theorem dX7_addChance_65 : decode cX7_addChance 65 = .ok (.aload_n 0, 1) := by decide +kernel
theorem dX7_addChance_66 : decode cX7_addChance 66 = .ok (.getfield 93, 3) := by decide +kernel
theorem dX7_addChance_69 : decode cX7_addChance 69 = .ok (.iload_n 3, 1) := by decide +kernel
theorem dX7_addChance_70 : decode cX7_addChance 70 = .ok (.iastore, 1) := by decide +kernel
theorem dX7_addChance_71 : decode cX7_addChance 71 = .ok (.aload_n 0, 1) := by decide +kernel
theorem dX7_addChance_72 : decode cX7_addChance 72 = .ok (.getfield 52, 3) := by decide +kernel
theorem dX7_addChance_75 : decode cX7_addChance 75 = .ok (.aload_n 0, 1) := by decide +kernel
theorem dX7_addChance_76 : decode cX7_addChance 76 = .ok (.getfield 93, 3) := by decide +kernel
theorem dX7_addChance_79 : decode cX7_addChance 79 = .ok (.aload_n 0, 1) := by decide +kernel
theorem dX7_addChance_80 : decode cX7_addChance 80 = .ok (.getfield 96, 3) := by decide +kernel
theorem dX7_addChance_83 : decode cX7_addChance 83 = .ok (.iastore, 1) := by decide +kernel
theorem dX7_addChance_84 : decode cX7_addChance 84 = .ok (.aload_n 0, 1) := by decide +kernel
theorem dX7_addChance_85 : decode cX7_addChance 85 = .ok (.getfield 58, 3) := by decide +kernel
theorem dX7_addChance_88 : decode cX7_addChance 88 = .ok (.bipush 8, 2) := by decide +kernel
theorem dX7_addChance_90 : decode cX7_addChance 90 = .ok (.aload_n 0, 1) := by decide +kernel
theorem dX7_addChance_91 : decode cX7_addChance 91 = .ok (.getfield 93, 3) := by decide +kernel
theorem dX7_addChance_94 : decode cX7_addChance 94 = .ok (.imul, 1) := by decide +kernel
theorem dX7_addChance_95 : decode cX7_addChance 95 = .ok (.iload_n 2, 1) := by decide +kernel
theorem dX7_addChance_96 : decode cX7_addChance 96 = .ok (.iadd, 1) := by decide +kernel
theorem dX7_addChance_97 : decode cX7_addChance 97 = .ok (.bipush 100, 2) := by decide +kernel
theorem dX7_addChance_99 : decode cX7_addChance 99 = .ok (.iastore, 1) := by decide +kernel
theorem dX7_addChance_100 : decode cX7_addChance 100 = .ok (.aload_n 0, 1) := by decide +kernel
theorem dX7_addChance_101 : decode cX7_addChance 101 = .ok (.dup, 1) := by decide +kernel
theorem dX7_addChance_102 : decode cX7_addChance 102 = .ok (.getfield 93, 3) := by decide +kernel
theorem dX7_addChance_105 : decode cX7_addChance 105 = .ok (.iconst 1, 1) := by decide +kernel
theorem dX7_addChance_106 : decode cX7_addChance 106 = .ok (.iadd, 1) := by decide +kernel
theorem dX7_addChance_107 : decode cX7_addChance 107 = .ok (.putfield 93, 3) := by decide +kernel
theorem dX7_addChance_110 : decode cX7_addChance 110 = .ok (.aload_n 0, 1) := by decide +kernel
theorem dX7_addChance_111 : decode cX7_addChance 111 = .ok (.getfield 93, 3) := by decide +kernel
theorem dX7_addChance_114 : decode cX7_addChance 114 = .ok (.iconst 1, 1) := by decide +kernel
theorem dX7_addChance_115 : decode cX7_addChance 115 = .ok (.isub, 1) := by decide +kernel
theorem dX7_addChance_116 : decode cX7_addChance 116 = .ok (.ireturn, 1) := by decide +kernel
theorem dX7_isOpen_0 : decode cX7_isOpen 0 = .ok (.aload_n 0, 1) := by decide +kernel
theorem dX7_isOpen_1 : decode cX7_isOpen 1 = .ok (.getfield 49, 3) := by decide +kernel
theorem dX7_isOpen_4 : decode cX7_isOpen 4 = .ok (.iload_n 1, 1) := by decide +kernel
theorem dX7_isOpen_5 : decode cX7_isOpen 5 = .ok (.iaload, 1) := by decide +kernel
theorem dX7_isOpen_6 : decode cX7_isOpen 6 = .ok (.iconst 4, 1) := by decide +kernel
theorem dX7_isOpen_7 : decode cX7_isOpen 7 = .ok (.if_icmp .ge 7, 3) := by decide +kernel
theorem dX7_isOpen_10 : decode cX7_isOpen 10 = .ok (.iconst 1, 1) := by decide +kernel
theorem dX7_isOpen_11 : decode cX7_isOpen 11 = .ok (.goto 4, 3) := by decide +kernel
theorem dX7_isOpen_14 : decode cX7_isOpen 14 = .ok (.iconst 0, 1) := by decide +kernel
theorem dX7_isOpen_15 : decode cX7_isOpen 15 = .ok (.ireturn, 1) := by decide +kernel
theorem dX7_giveShare_0 : decode cX7_giveShare 0 = .ok (.aload_n 0, 1) := by decide +kernel
theorem dX7_giveShare_1 : decode cX7_giveShare 1 = .ok (.iload_n 1, 1) := by decide +kernel
theorem dX7_giveShare_2 : decode cX7_giveShare 2 = .ok (.invokevirtual 127, 3) := by decide +kernel
theorem dX7_giveShare_5 : decode cX7_giveShare 5 = .ok (.ifCond .eq 23, 3) := by decide +kernel
theorem dX7_giveShare_8 : decode cX7_giveShare 8 = .ok (.aload_n 0, 1) := by decide +kernel
theorem dX7_giveShare_9 : decode cX7_giveShare 9 = .ok (.iload_n 2, 1) := by decide +kernel
theorem dX7_giveShare_10 : decode cX7_giveShare 10 = .ok (.invokevirtual 122, 3) := by decide +kernel
theorem dX7_giveShare_13 : decode cX7_giveShare 13 = .ok (.ifCond .eq 15, 3) := by decide +kernel
theorem dX7_giveShare_16 : decode cX7_giveShare 16 = .ok (.aload_n 0, 1) := by decide +kernel
theorem dX7_giveShare_17 : decode cX7_giveShare 17 = .ok (.iload_n 3, 1) := by decide +kernel
theorem dX7_giveShare_18 : decode cX7_giveShare 18 = .ok (.invokevirtual 122, 3) := by decide +kernel
theorem dX7_giveShare_21 : decode cX7_giveShare 21 = .ok (.ifCond .eq 7, 3) := by decide +kernel
theorem dX7_giveShare_24 : decode cX7_giveShare 24 = .ok (.iconst 1, 1) := by decide +kernel
theorem dX7_giveShare_25 : decode cX7_giveShare 25 = .ok (.goto 4, 3) := by decide +kernel
theorem dX7_giveShare_28 : decode cX7_giveShare 28 = .ok (.iconst 0, 1) := by decide +kernel
theorem dX7_giveShare_29 : decode cX7_giveShare 29 = .ok (.istore 5, 2) := by decide +kernel
theorem dX7_giveShare_31 : decode cX7_giveShare 31 = .ok (.iload 5, 2) := by decide +kernel
theorem dX7_giveShare_33 : decode cX7_giveShare 33 = .ok (.ifCond .eq 31, 3) := by decide +kernel
theorem dX7_giveShare_36 : decode cX7_giveShare 36 = .ok (.aload_n 0, 1) := by decide +kernel
theorem dX7_giveShare_37 : decode cX7_giveShare 37 = .ok (.iload_n 1, 1) := by decide +kernel
theorem dX7_giveShare_38 : decode cX7_giveShare 38 = .ok (.invokevirtual 130, 3) := by decide +kernel
theorem dX7_giveShare_41 : decode cX7_giveShare 41 = .ok (.ifCond .eq 23, 3) := by decide +kernel
theorem dX7_giveShare_44 : decode cX7_giveShare 44 = .ok (.aload_n 0, 1) := by decide +kernel
theorem dX7_giveShare_45 : decode cX7_giveShare 45 = .ok (.getfield 58, 3) := by decide +kernel
theorem dX7_giveShare_48 : decode cX7_giveShare 48 = .ok (.bipush 8, 2) := by decide +kernel
theorem dX7_giveShare_50 : decode cX7_giveShare 50 = .ok (.iload_n 1, 1) := by decide +kernel
theorem dX7_giveShare_51 : decode cX7_giveShare 51 = .ok (.imul, 1) := by decide +kernel
theorem dX7_giveShare_52 : decode cX7_giveShare 52 = .ok (.iload_n 2, 1) := by decide +kernel
theorem dX7_giveShare_53 : decode cX7_giveShare 53 = .ok (.iadd, 1) := by decide +kernel
theorem dX7_giveShare_54 : decode cX7_giveShare 54 = .ok (.iaload, 1) := by decide +kernel
theorem dX7_giveShare_55 : decode cX7_giveShare 55 = .ok (.iload 4, 2) := by decide +kernel
theorem dX7_giveShare_57 : decode cX7_giveShare 57 = .ok (.if_icmp .lt 7, 3) := by decide +kernel
theorem dX7_giveShare_60 : decode cX7_giveShare 60 = .ok (.iconst 1, 1) := by decide +kernel
theorem dX7_giveShare_61 : decode cX7_giveShare 61 = .ok (.goto 4, 3) := by decide +kernel
theorem dX7_giveShare_64 : decode cX7_giveShare 64 = .ok (.iconst 0, 1) := by decide +kernel
theorem dX7_giveShare_65 : decode cX7_giveShare 65 = .ok (.istore 6, 2) := by decide +kernel
theorem dX7_giveShare_67 : decode cX7_giveShare 67 = .ok (.aload_n 0, 1) := by decide +kernel
theorem dX7_giveShare_68 : decode cX7_giveShare 68 = .ok (.iload 5, 2) := by decide +kernel
theorem dX7_giveShare_70 : decode cX7_giveShare 70 = .ok (.iload 4, 2) := by decide +kernel
theorem dX7_giveShare_72 : decode cX7_giveShare 72 = .ok (.iconst 1, 1) := by decide +kernel
theorem dX7_giveShare_73 : decode cX7_giveShare 73 = .ok (.bipush 100, 2) := by decide +kernel
theorem dX7_giveShare_75 : decode cX7_giveShare 75 = .ok (.invokestatic 86, 3) := by decide +kernel
theorem dX7_giveShare_78 : decode cX7_giveShare 78 = .ok (.ifCond .eq 12, 3) := by decide +kernel
theorem dX7_giveShare_81 : decode cX7_giveShare 81 = .ok (.iload_n 2, 1) := by decide +kernel
theorem dX7_giveShare_82 : decode cX7_giveShare 82 = .ok (.iload_n 3, 1) := by decide +kernel
theorem dX7_giveShare_83 : decode cX7_giveShare 83 = .ok (.if_icmp .eq 7, 3) := by decide +kernel
theorem dX7_giveShare_86 : decode cX7_giveShare 86 = .ok (.iconst 1, 1) := by decide +kernel
theorem dX7_giveShare_87 : decode cX7_giveShare 87 = .ok (.goto 4, 3) := by decide +kernel
theorem dX7_giveShare_90 : decode cX7_giveShare 90 = .ok (.iconst 0, 1) := by decide +kernel
theorem dX7_giveShare_91 : decode cX7_giveShare 91 = .ok (.iload 6, 2) := by decide +kernel
theorem dX7_giveShare_93 : decode cX7_giveShare 93 = .ok (.invokevirtual 100, 3) := by decide +kernel
theorem dX7_giveShare_96 : decode cX7_giveShare 96 = .ok (.ifCond .ne 5, 3) := by decide +kernel
theorem dX7_giveShare_99 : decode cX7_giveShare 99 = .ok (.iconst 0, 1) := by decide +kernel
theorem dX7_giveShare_100 : decode cX7_giveShare 100 = .ok (.ireturn, 1) := by decide +kernel
theorem dX7_giveShare_101 : decode cX7_giveShare 101 = .ok (.aload_n 0, 1) := by decide +kernel
theorem dX7_giveShare_102 : decode cX7_giveShare 102 = .ok (.getfield 58, 3) := by decide +kernel
theorem dX7_giveShare_105 : decode cX7_giveShare 105 = .ok (.bipush 8, 2) := by decide +kernel
theorem dX7_giveShare_107 : decode cX7_giveShare 107 = .ok (.iload_n 1, 1) := by decide +kernel
theorem dX7_giveShare_108 : decode cX7_giveShare 108 = .ok (.imul, 1) := by decide +kernel
theorem dX7_giveShare_109 : decode cX7_giveShare 109 = .ok (.iload_n 2, 1) := by decide +kernel
theorem dX7_giveShare_110 : decode cX7_giveShare 110 = .ok (.iadd, 1) := by decide +kernel
theorem dX7_giveShare_111 : decode cX7_giveShare 111 = .ok (.dup2, 1) := by decide +kernel
theorem dX7_giveShare_112 : decode cX7_giveShare 112 = .ok (.iaload, 1) := by decide +kernel
theorem dX7_giveShare_113 : decode cX7_giveShare 113 = .ok (.iload 4, 2) := by decide +kernel
theorem dX7_giveShare_115 : decode cX7_giveShare 115 = .ok (.isub, 1) := by decide +kernel
theorem dX7_giveShare_116 : decode cX7_giveShare 116 = .ok (.iastore, 1) := by decide +kernel
theorem dX7_giveShare_117 : decode cX7_giveShare 117 = .ok (.aload_n 0, 1) := by decide +kernel
theorem dX7_giveShare_118 : decode cX7_giveShare 118 = .ok (.getfield 58, 3) := by decide +kernel
theorem dX7_giveShare_121 : decode cX7_giveShare 121 = .ok (.bipush 8, 2) := by decide +kernel
theorem dX7_giveShare_123 : decode cX7_giveShare 123 = .ok (.iload_n 1, 1) := by decide +kernel
theorem dX7_giveShare_124 : decode cX7_giveShare 124 = .ok (.imul, 1) := by decide +kernel
theorem dX7_giveShare_125 : decode cX7_giveShare 125 = .ok (.iload_n 3, 1) := by decide +kernel
theorem dX7_giveShare_126 : decode cX7_giveShare 126 = .ok (.iadd, 1) := by decide +kernel
theorem dX7_giveShare_127 : decode cX7_giveShare 127 = .ok (.dup2, 1) := by decide +kernel
theorem dX7_giveShare_128 : decode cX7_giveShare 128 = .ok (.iaload, 1) := by decide +kernel
theorem dX7_giveShare_129 : decode cX7_giveShare 129 = .ok (.iload 4, 2) := by decide +kernel
theorem dX7_giveShare_131 : decode cX7_giveShare 131 = .ok (.iadd, 1) := by decide +kernel
theorem dX7_giveShare_132 : decode cX7_giveShare 132 = .ok (.iastore, 1) := by decide +kernel
theorem dX7_giveShare_133 : decode cX7_giveShare 133 = .ok (.aload_n 0, 1) := by decide +kernel
theorem dX7_giveShare_134 : decode cX7_giveShare 134 = .ok (.getfield 58, 3) := by decide +kernel
theorem dX7_giveShare_137 : decode cX7_giveShare 137 = .ok (.bipush 8, 2) := by decide +kernel
theorem dX7_giveShare_139 : decode cX7_giveShare 139 = .ok (.iload_n 1, 1) := by decide +kernel
theorem dX7_giveShare_140 : decode cX7_giveShare 140 = .ok (.imul, 1) := by decide +kernel
theorem dX7_giveShare_141 : decode cX7_giveShare 141 = .ok (.iload_n 3, 1) := by decide +kernel
theorem dX7_giveShare_142 : decode cX7_giveShare 142 = .ok (.iadd, 1) := by decide +kernel
theorem dX7_giveShare_143 : decode cX7_giveShare 143 = .ok (.iaload, 1) := by decide +kernel
theorem dX7_giveShare_144 : decode cX7_giveShare 144 = .ok (.ireturn, 1) := by decide +kernel
theorem dX7_counts_0 : decode cX7_counts 0 = .ok (.iconst (-1), 1) := by decide +kernel
theorem dX7_counts_1 : decode cX7_counts 1 = .ok (.istore_n 2, 1) := by decide +kernel
theorem dX7_counts_2 : decode cX7_counts 2 = .ok (.iconst 0, 1) := by decide +kernel
theorem dX7_counts_3 : decode cX7_counts 3 = .ok (.istore_n 3, 1) := by decide +kernel
theorem dX7_counts_4 : decode cX7_counts 4 = .ok (.iload_n 3, 1) := by decide +kernel
theorem dX7_counts_5 : decode cX7_counts 5 = .ok (.aload_n 0, 1) := by decide +kernel
theorem dX7_counts_6 : decode cX7_counts 6 = .ok (.getfield 133, 3) := by decide +kernel
theorem dX7_counts_9 : decode cX7_counts 9 = .ok (.if_icmp .ge 66, 3) := by decide +kernel
theorem dX7_counts_12 : decode cX7_counts 12 = .ok (.aload_n 0, 1) := by decide +kernel
theorem dX7_counts_13 : decode cX7_counts 13 = .ok (.getfield 64, 3) := by decide +kernel
theorem dX7_counts_16 : decode cX7_counts 16 = .ok (.iload_n 3, 1) := by decide +kernel
theorem dX7_counts_17 : decode cX7_counts 17 = .ok (.iaload, 1) := by decide +kernel
theorem dX7_counts_18 : decode cX7_counts 18 = .ok (.iload_n 1, 1) := by decide +kernel
theorem dX7_counts_19 : decode cX7_counts 19 = .ok (.if_icmp .ne 36, 3) := by decide +kernel
theorem dX7_counts_22 : decode cX7_counts 22 = .ok (.aload_n 0, 1) := by decide +kernel
theorem dX7_counts_23 : decode cX7_counts 23 = .ok (.getfield 73, 3) := by decide +kernel
theorem dX7_counts_26 : decode cX7_counts 26 = .ok (.iload_n 3, 1) := by decide +kernel
theorem dX7_counts_27 : decode cX7_counts 27 = .ok (.iaload, 1) := by decide +kernel
theorem dX7_counts_28 : decode cX7_counts 28 = .ok (.ifCond .le 27, 3) := by decide +kernel
theorem dX7_counts_31 : decode cX7_counts 31 = .ok (.iload_n 2, 1) := by decide +kernel
theorem dX7_counts_32 : decode cX7_counts 32 = .ok (.iconst (-1), 1) := by decide +kernel
theorem dX7_counts_33 : decode cX7_counts 33 = .ok (.if_icmp .eq 18, 3) := by decide +kernel
theorem dX7_counts_36 : decode cX7_counts 36 = .ok (.aload_n 0, 1) := by decide +kernel
theorem dX7_counts_37 : decode cX7_counts 37 = .ok (.getfield 73, 3) := by decide +kernel
theorem dX7_counts_40 : decode cX7_counts 40 = .ok (.iload_n 3, 1) := by decide +kernel
theorem dX7_counts_41 : decode cX7_counts 41 = .ok (.iaload, 1) := by decide +kernel
theorem dX7_counts_42 : decode cX7_counts 42 = .ok (.aload_n 0, 1) := by decide +kernel
theorem dX7_counts_43 : decode cX7_counts 43 = .ok (.getfield 73, 3) := by decide +kernel
theorem dX7_counts_46 : decode cX7_counts 46 = .ok (.iload_n 2, 1) := by decide +kernel
theorem dX7_counts_47 : decode cX7_counts 47 = .ok (.iaload, 1) := by decide +kernel
theorem dX7_counts_48 : decode cX7_counts 48 = .ok (.if_icmp .le 7, 3) := by decide +kernel
theorem dX7_counts_51 : decode cX7_counts 51 = .ok (.iconst 1, 1) := by decide +kernel
theorem dX7_counts_52 : decode cX7_counts 52 = .ok (.goto 4, 3) := by decide +kernel
theorem dX7_counts_55 : decode cX7_counts 55 = .ok (.iconst 0, 1) := by decide +kernel
theorem dX7_counts_56 : decode cX7_counts 56 = .ok (.istore 4, 2) := by decide +kernel
theorem dX7_counts_58 : decode cX7_counts 58 = .ok (.iload 4, 2) := by decide +kernel
theorem dX7_counts_60 : decode cX7_counts 60 = .ok (.ifCond .eq 7, 3) := by decide +kernel
theorem dX7_counts_63 : decode cX7_counts 63 = .ok (.iload_n 3, 1) := by decide +kernel
theorem dX7_counts_64 : decode cX7_counts 64 = .ok (.goto 4, 3) := by decide +kernel
theorem dX7_counts_67 : decode cX7_counts 67 = .ok (.iload_n 2, 1) := by decide +kernel
theorem dX7_counts_68 : decode cX7_counts 68 = .ok (.istore_n 2, 1) := by decide +kernel
theorem dX7_counts_69 : decode cX7_counts 69 = .ok (.iinc 3 1, 3) := by decide +kernel
theorem dX7_counts_72 : decode cX7_counts 72 = .ok (.goto (-68), 3) := by decide +kernel
theorem dX7_counts_75 : decode cX7_counts 75 = .ok (.iload_n 2, 1) := by decide +kernel
theorem dX7_counts_76 : decode cX7_counts 76 = .ok (.ireturn, 1) := by decide +kernel
theorem dX7_canCome_0 : decode cX7_canCome 0 = .ok (.aload_n 0, 1) := by decide +kernel
theorem dX7_canCome_1 : decode cX7_canCome 1 = .ok (.getfield 49, 3) := by decide +kernel
theorem dX7_canCome_4 : decode cX7_canCome 4 = .ok (.iload_n 1, 1) := by decide +kernel
theorem dX7_canCome_5 : decode cX7_canCome 5 = .ok (.iaload, 1) := by decide +kernel
theorem dX7_canCome_6 : decode cX7_canCome 6 = .ok (.istore_n 3, 1) := by decide +kernel
theorem dX7_canCome_7 : decode cX7_canCome 7 = .ok (.iload_n 2, 1) := by decide +kernel
theorem dX7_canCome_8 : decode cX7_canCome 8 = .ok (.iload_n 3, 1) := by decide +kernel
theorem dX7_canCome_9 : decode cX7_canCome 9 = .ok (.if_icmp .lt 15, 3) := by decide +kernel
theorem dX7_canCome_12 : decode cX7_canCome 12 = .ok (.iload_n 2, 1) := by decide +kernel
theorem dX7_canCome_13 : decode cX7_canCome 13 = .ok (.iconst 5, 1) := by decide +kernel
theorem dX7_canCome_14 : decode cX7_canCome 14 = .ok (.if_icmp .eq 10, 3) := by decide +kernel
theorem dX7_canCome_17 : decode cX7_canCome 17 = .ok (.iload_n 2, 1) := by decide +kernel
theorem dX7_canCome_18 : decode cX7_canCome 18 = .ok (.iload_n 3, 1) := by decide +kernel
theorem dX7_canCome_19 : decode cX7_canCome 19 = .ok (.iconst 1, 1) := by decide +kernel
theorem dX7_canCome_20 : decode cX7_canCome 20 = .ok (.iadd, 1) := by decide +kernel
theorem dX7_canCome_21 : decode cX7_canCome 21 = .ok (.if_icmp .ne 7, 3) := by decide +kernel
theorem dX7_canCome_24 : decode cX7_canCome 24 = .ok (.iconst 1, 1) := by decide +kernel
theorem dX7_canCome_25 : decode cX7_canCome 25 = .ok (.goto 4, 3) := by decide +kernel
theorem dX7_canCome_28 : decode cX7_canCome 28 = .ok (.iconst 0, 1) := by decide +kernel
theorem dX7_canCome_29 : decode cX7_canCome 29 = .ok (.istore 4, 2) := by decide +kernel
theorem dX7_canCome_31 : decode cX7_canCome 31 = .ok (.aload_n 0, 1) := by decide +kernel
theorem dX7_canCome_32 : decode cX7_canCome 32 = .ok (.iload_n 1, 1) := by decide +kernel
theorem dX7_canCome_33 : decode cX7_canCome 33 = .ok (.invokevirtual 130, 3) := by decide +kernel
theorem dX7_canCome_36 : decode cX7_canCome 36 = .ok (.ifCond .eq 31, 3) := by decide +kernel
theorem dX7_canCome_39 : decode cX7_canCome 39 = .ok (.iload 4, 2) := by decide +kernel
theorem dX7_canCome_41 : decode cX7_canCome 41 = .ok (.ifCond .eq 26, 3) := by decide +kernel
theorem dX7_canCome_44 : decode cX7_canCome 44 = .ok (.iload_n 3, 1) := by decide +kernel
theorem dX7_canCome_45 : decode cX7_canCome 45 = .ok (.iconst 2, 1) := by decide +kernel
theorem dX7_canCome_46 : decode cX7_canCome 46 = .ok (.if_icmp .ne 17, 3) := by decide +kernel
theorem dX7_canCome_49 : decode cX7_canCome 49 = .ok (.iload_n 2, 1) := by decide +kernel
theorem dX7_canCome_50 : decode cX7_canCome 50 = .ok (.iconst 3, 1) := by decide +kernel
theorem dX7_canCome_51 : decode cX7_canCome 51 = .ok (.if_icmp .ne 12, 3) := by decide +kernel
theorem dX7_canCome_54 : decode cX7_canCome 54 = .ok (.aload_n 0, 1) := by decide +kernel
theorem dX7_canCome_55 : decode cX7_canCome 55 = .ok (.iload_n 1, 1) := by decide +kernel
theorem dX7_canCome_56 : decode cX7_canCome 56 = .ok (.invokevirtual 136, 3) := by decide +kernel
theorem dX7_canCome_59 : decode cX7_canCome 59 = .ok (.iconst (-1), 1) := by decide +kernel
theorem dX7_canCome_60 : decode cX7_canCome 60 = .ok (.if_icmp .eq 7, 3) := by decide +kernel
theorem dX7_canCome_63 : decode cX7_canCome 63 = .ok (.iconst 1, 1) := by decide +kernel
theorem dX7_canCome_64 : decode cX7_canCome 64 = .ok (.goto 4, 3) := by decide +kernel
theorem dX7_canCome_67 : decode cX7_canCome 67 = .ok (.iconst 0, 1) := by decide +kernel
theorem dX7_canCome_68 : decode cX7_canCome 68 = .ok (.ireturn, 1) := by decide +kernel
theorem dX7_move_0 : decode cX7_move 0 = .ok (.aload_n 0, 1) := by decide +kernel
theorem dX7_move_1 : decode cX7_move 1 = .ok (.iload_n 1, 1) := by decide +kernel
theorem dX7_move_2 : decode cX7_move 2 = .ok (.invokevirtual 127, 3) := by decide +kernel
theorem dX7_move_5 : decode cX7_move 5 = .ok (.istore_n 3, 1) := by decide +kernel
theorem dX7_move_6 : decode cX7_move 6 = .ok (.iload_n 2, 1) := by decide +kernel
theorem dX7_move_7 : decode cX7_move 7 = .ok (.iconst 0, 1) := by decide +kernel
theorem dX7_move_8 : decode cX7_move 8 = .ok (.iconst 5, 1) := by decide +kernel
theorem dX7_move_9 : decode cX7_move 9 = .ok (.invokestatic 86, 3) := by decide +kernel
theorem dX7_move_12 : decode cX7_move 12 = .ok (.istore 4, 2) := by decide +kernel
theorem dX7_move_14 : decode cX7_move 14 = .ok (.aload_n 0, 1) := by decide +kernel
theorem dX7_move_15 : decode cX7_move 15 = .ok (.iload_n 3, 1) := by decide +kernel
theorem dX7_move_16 : decode cX7_move 16 = .ok (.iload 4, 2) := by decide +kernel
theorem dX7_move_18 : decode cX7_move 18 = .ok (.iload_n 3, 1) := by decide +kernel
theorem dX7_move_19 : decode cX7_move 19 = .ok (.ifCond .eq 21, 3) := by decide +kernel
theorem dX7_move_22 : decode cX7_move 22 = .ok (.iload 4, 2) := by decide +kernel
theorem dX7_move_24 : decode cX7_move 24 = .ok (.ifCond .eq 16, 3) := by decide +kernel
theorem dX7_move_27 : decode cX7_move 27 = .ok (.aload_n 0, 1) := by decide +kernel
theorem dX7_move_28 : decode cX7_move 28 = .ok (.iload_n 1, 1) := by decide +kernel
theorem dX7_move_29 : decode cX7_move 29 = .ok (.iload_n 2, 1) := by decide +kernel
theorem dX7_move_30 : decode cX7_move 30 = .ok (.invokevirtual 139, 3) := by decide +kernel
theorem dX7_move_33 : decode cX7_move 33 = .ok (.ifCond .eq 7, 3) := by decide +kernel
theorem dX7_move_36 : decode cX7_move 36 = .ok (.iconst 1, 1) := by decide +kernel
theorem dX7_move_37 : decode cX7_move 37 = .ok (.goto 4, 3) := by decide +kernel
theorem dX7_move_40 : decode cX7_move 40 = .ok (.iconst 0, 1) := by decide +kernel
theorem dX7_move_41 : decode cX7_move 41 = .ok (.invokevirtual 100, 3) := by decide +kernel
theorem dX7_move_44 : decode cX7_move 44 = .ok (.ifCond .ne 5, 3) := by decide +kernel
theorem dX7_move_47 : decode cX7_move 47 = .ok (.iconst 0, 1) := by decide +kernel
theorem dX7_move_48 : decode cX7_move 48 = .ok (.ireturn, 1) := by decide +kernel
theorem dX7_move_49 : decode cX7_move 49 = .ok (.aload_n 0, 1) := by decide +kernel
theorem dX7_move_50 : decode cX7_move 50 = .ok (.getfield 96, 3) := by decide +kernel
theorem dX7_move_53 : decode cX7_move 53 = .ok (.aload_n 0, 1) := by decide +kernel
theorem dX7_move_54 : decode cX7_move 54 = .ok (.getfield 52, 3) := by decide +kernel
theorem dX7_move_57 : decode cX7_move 57 = .ok (.iload_n 1, 1) := by decide +kernel
theorem dX7_move_58 : decode cX7_move 58 = .ok (.iaload, 1) := by decide +kernel
theorem dX7_move_59 : decode cX7_move 59 = .ok (.isub, 1) := by decide +kernel
theorem dX7_move_60 : decode cX7_move 60 = .ok (.istore 5, 2) := by decide +kernel
theorem dX7_move_62 : decode cX7_move 62 = .ok (.aload_n 0, 1) := by decide +kernel
theorem dX7_move_63 : decode cX7_move 63 = .ok (.getfield 61, 3) := by decide +kernel
theorem dX7_move_66 : decode cX7_move 66 = .ok (.bipush 6, 2) := by decide +kernel
theorem dX7_move_68 : decode cX7_move 68 = .ok (.iload_n 1, 1) := by decide +kernel
theorem dX7_move_69 : decode cX7_move 69 = .ok (.imul, 1) := by decide +kernel
theorem dX7_move_70 : decode cX7_move 70 = .ok (.aload_n 0, 1) := by decide +kernel
theorem dX7_move_71 : decode cX7_move 71 = .ok (.getfield 49, 3) := by decide +kernel
theorem dX7_move_74 : decode cX7_move 74 = .ok (.iload_n 1, 1) := by decide +kernel
theorem dX7_move_75 : decode cX7_move 75 = .ok (.iaload, 1) := by decide +kernel
theorem dX7_move_76 : decode cX7_move 76 = .ok (.iadd, 1) := by decide +kernel
theorem dX7_move_77 : decode cX7_move 77 = .ok (.dup2, 1) := by decide +kernel
theorem dX7_move_78 : decode cX7_move 78 = .ok (.iaload, 1) := by decide +kernel
theorem dX7_move_79 : decode cX7_move 79 = .ok (.iload 5, 2) := by decide +kernel
theorem dX7_move_81 : decode cX7_move 81 = .ok (.iadd, 1) := by decide +kernel
theorem dX7_move_82 : decode cX7_move 82 = .ok (.iastore, 1) := by decide +kernel
theorem dX7_move_83 : decode cX7_move 83 = .ok (.aload_n 0, 1) := by decide +kernel
theorem dX7_move_84 : decode cX7_move 84 = .ok (.getfield 49, 3) := by decide +kernel
theorem dX7_move_87 : decode cX7_move 87 = .ok (.iload_n 1, 1) := by decide +kernel
theorem dX7_move_88 : decode cX7_move 88 = .ok (.iload_n 2, 1) := by decide +kernel
theorem dX7_move_89 : decode cX7_move 89 = .ok (.iastore, 1) := by decide +kernel
theorem dX7_move_90 : decode cX7_move 90 = .ok (.aload_n 0, 1) := by decide +kernel
theorem dX7_move_91 : decode cX7_move 91 = .ok (.getfield 52, 3) := by decide +kernel
theorem dX7_move_94 : decode cX7_move 94 = .ok (.iload_n 1, 1) := by decide +kernel
theorem dX7_move_95 : decode cX7_move 95 = .ok (.aload_n 0, 1) := by decide +kernel
theorem dX7_move_96 : decode cX7_move 96 = .ok (.getfield 96, 3) := by decide +kernel
theorem dX7_move_99 : decode cX7_move 99 = .ok (.iastore, 1) := by decide +kernel
theorem dX7_move_100 : decode cX7_move 100 = .ok (.aload_n 0, 1) := by decide +kernel
theorem dX7_move_101 : decode cX7_move 101 = .ok (.getfield 55, 3) := by decide +kernel
theorem dX7_move_104 : decode cX7_move 104 = .ok (.iload_n 1, 1) := by decide +kernel
theorem dX7_move_105 : decode cX7_move 105 = .ok (.aload_n 0, 1) := by decide +kernel
theorem dX7_move_106 : decode cX7_move 106 = .ok (.aload_n 0, 1) := by decide +kernel
theorem dX7_move_107 : decode cX7_move 107 = .ok (.getfield 43, 3) := by decide +kernel
theorem dX7_move_110 : decode cX7_move 110 = .ok (.iload_n 1, 1) := by decide +kernel
theorem dX7_move_111 : decode cX7_move 111 = .ok (.iaload, 1) := by decide +kernel
theorem dX7_move_112 : decode cX7_move 112 = .ok (.invokevirtual 119, 3) := by decide +kernel
theorem dX7_move_115 : decode cX7_move 115 = .ok (.iastore, 1) := by decide +kernel
theorem dX7_move_116 : decode cX7_move 116 = .ok (.iload 5, 2) := by decide +kernel
theorem dX7_move_118 : decode cX7_move 118 = .ok (.ireturn, 1) := by decide +kernel
theorem dX7_stage_0 : decode cX7_stage 0 = .ok (.aload_n 0, 1) := by decide +kernel
theorem dX7_stage_1 : decode cX7_stage 1 = .ok (.aload_n 0, 1) := by decide +kernel
theorem dX7_stage_2 : decode cX7_stage 2 = .ok (.iload_n 1, 1) := by decide +kernel
theorem dX7_stage_3 : decode cX7_stage 3 = .ok (.invokevirtual 127, 3) := by decide +kernel
theorem dX7_stage_6 : decode cX7_stage 6 = .ok (.iconst 1, 1) := by decide +kernel
theorem dX7_stage_7 : decode cX7_stage 7 = .ok (.iconst 1, 1) := by decide +kernel
theorem dX7_stage_8 : decode cX7_stage 8 = .ok (.invokevirtual 100, 3) := by decide +kernel
theorem dX7_stage_11 : decode cX7_stage 11 = .ok (.ifCond .eq 12, 3) := by decide +kernel
theorem dX7_stage_14 : decode cX7_stage 14 = .ok (.aload_n 0, 1) := by decide +kernel
theorem dX7_stage_15 : decode cX7_stage 15 = .ok (.getfield 49, 3) := by decide +kernel
theorem dX7_stage_18 : decode cX7_stage 18 = .ok (.iload_n 1, 1) := by decide +kernel
theorem dX7_stage_19 : decode cX7_stage 19 = .ok (.iaload, 1) := by decide +kernel
theorem dX7_stage_20 : decode cX7_stage 20 = .ok (.goto 4, 3) := by decide +kernel
theorem dX7_stage_23 : decode cX7_stage 23 = .ok (.iconst 0, 1) := by decide +kernel
theorem dX7_stage_24 : decode cX7_stage 24 = .ok (.ireturn, 1) := by decide +kernel
theorem dX7_daysIn_0 : decode cX7_daysIn 0 = .ok (.aload_n 0, 1) := by decide +kernel
theorem dX7_daysIn_1 : decode cX7_daysIn 1 = .ok (.aload_n 0, 1) := by decide +kernel
theorem dX7_daysIn_2 : decode cX7_daysIn 2 = .ok (.iload_n 1, 1) := by decide +kernel
theorem dX7_daysIn_3 : decode cX7_daysIn 3 = .ok (.invokevirtual 127, 3) := by decide +kernel
theorem dX7_daysIn_6 : decode cX7_daysIn 6 = .ok (.iload_n 2, 1) := by decide +kernel
theorem dX7_daysIn_7 : decode cX7_daysIn 7 = .ok (.iconst 0, 1) := by decide +kernel
theorem dX7_daysIn_8 : decode cX7_daysIn 8 = .ok (.iconst 5, 1) := by decide +kernel
theorem dX7_daysIn_9 : decode cX7_daysIn 9 = .ok (.invokestatic 86, 3) := by decide +kernel
theorem dX7_daysIn_12 : decode cX7_daysIn 12 = .ok (.iconst 1, 1) := by decide +kernel
theorem dX7_daysIn_13 : decode cX7_daysIn 13 = .ok (.invokevirtual 100, 3) := by decide +kernel
theorem dX7_daysIn_16 : decode cX7_daysIn 16 = .ok (.ifCond .ne 5, 3) := by decide +kernel
theorem dX7_daysIn_19 : decode cX7_daysIn 19 = .ok (.iconst 0, 1) := by decide +kernel
theorem dX7_daysIn_20 : decode cX7_daysIn 20 = .ok (.ireturn, 1) := by decide +kernel
theorem dX7_daysIn_21 : decode cX7_daysIn 21 = .ok (.aload_n 0, 1) := by decide +kernel
theorem dX7_daysIn_22 : decode cX7_daysIn 22 = .ok (.getfield 61, 3) := by decide +kernel
theorem dX7_daysIn_25 : decode cX7_daysIn 25 = .ok (.bipush 6, 2) := by decide +kernel
theorem dX7_daysIn_27 : decode cX7_daysIn 27 = .ok (.iload_n 1, 1) := by decide +kernel
theorem dX7_daysIn_28 : decode cX7_daysIn 28 = .ok (.imul, 1) := by decide +kernel
theorem dX7_daysIn_29 : decode cX7_daysIn 29 = .ok (.iload_n 2, 1) := by decide +kernel
theorem dX7_daysIn_30 : decode cX7_daysIn 30 = .ok (.iadd, 1) := by decide +kernel
theorem dX7_daysIn_31 : decode cX7_daysIn 31 = .ok (.iaload, 1) := by decide +kernel
theorem dX7_daysIn_32 : decode cX7_daysIn 32 = .ok (.aload_n 0, 1) := by decide +kernel
theorem dX7_daysIn_33 : decode cX7_daysIn 33 = .ok (.getfield 49, 3) := by decide +kernel
theorem dX7_daysIn_36 : decode cX7_daysIn 36 = .ok (.iload_n 1, 1) := by decide +kernel
theorem dX7_daysIn_37 : decode cX7_daysIn 37 = .ok (.iaload, 1) := by decide +kernel
theorem dX7_daysIn_38 : decode cX7_daysIn 38 = .ok (.iload_n 2, 1) := by decide +kernel
theorem dX7_daysIn_39 : decode cX7_daysIn 39 = .ok (.if_icmp .ne 17, 3) := by decide +kernel
theorem dX7_daysIn_42 : decode cX7_daysIn 42 = .ok (.aload_n 0, 1) := by decide +kernel
theorem dX7_daysIn_43 : decode cX7_daysIn 43 = .ok (.getfield 96, 3) := by decide +kernel
theorem dX7_daysIn_46 : decode cX7_daysIn 46 = .ok (.aload_n 0, 1) := by decide +kernel
theorem dX7_daysIn_47 : decode cX7_daysIn 47 = .ok (.getfield 52, 3) := by decide +kernel
theorem dX7_daysIn_50 : decode cX7_daysIn 50 = .ok (.iload_n 1, 1) := by decide +kernel
theorem dX7_daysIn_51 : decode cX7_daysIn 51 = .ok (.iaload, 1) := by decide +kernel
theorem dX7_daysIn_52 : decode cX7_daysIn 52 = .ok (.isub, 1) := by decide +kernel
theorem dX7_daysIn_53 : decode cX7_daysIn 53 = .ok (.goto 4, 3) := by decide +kernel
theorem dX7_daysIn_56 : decode cX7_daysIn 56 = .ok (.iconst 0, 1) := by decide +kernel
theorem dX7_daysIn_57 : decode cX7_daysIn 57 = .ok (.iadd, 1) := by decide +kernel
theorem dX7_daysIn_58 : decode cX7_daysIn 58 = .ok (.ireturn, 1) := by decide +kernel
theorem dX7_stalled_0 : decode cX7_stalled 0 = .ok (.iconst 0, 1) := by decide +kernel
theorem dX7_stalled_1 : decode cX7_stalled 1 = .ok (.istore_n 2, 1) := by decide +kernel
theorem dX7_stalled_2 : decode cX7_stalled 2 = .ok (.aload_n 0, 1) := by decide +kernel
theorem dX7_stalled_3 : decode cX7_stalled 3 = .ok (.iload_n 1, 1) := by decide +kernel
theorem dX7_stalled_4 : decode cX7_stalled 4 = .ok (.iconst 0, 1) := by decide +kernel
theorem dX7_stalled_5 : decode cX7_stalled 5 = .ok (.ldc 99, 2) := by decide +kernel
theorem dX7_stalled_7 : decode cX7_stalled 7 = .ok (.invokestatic 86, 3) := by decide +kernel
theorem dX7_stalled_10 : decode cX7_stalled 10 = .ok (.iconst 1, 1) := by decide +kernel
theorem dX7_stalled_11 : decode cX7_stalled 11 = .ok (.iconst 1, 1) := by decide +kernel
theorem dX7_stalled_12 : decode cX7_stalled 12 = .ok (.invokevirtual 100, 3) := by decide +kernel
theorem dX7_stalled_15 : decode cX7_stalled 15 = .ok (.istore_n 3, 1) := by decide +kernel
theorem dX7_stalled_16 : decode cX7_stalled 16 = .ok (.iconst 0, 1) := by decide +kernel
theorem dX7_stalled_17 : decode cX7_stalled 17 = .ok (.istore 4, 2) := by decide +kernel
theorem dX7_stalled_19 : decode cX7_stalled 19 = .ok (.iload 4, 2) := by decide +kernel
theorem dX7_stalled_21 : decode cX7_stalled 21 = .ok (.aload_n 0, 1) := by decide +kernel
theorem dX7_stalled_22 : decode cX7_stalled 22 = .ok (.getfield 93, 3) := by decide +kernel
theorem dX7_stalled_25 : decode cX7_stalled 25 = .ok (.if_icmp .ge 46, 3) := by decide +kernel
theorem dX7_stalled_28 : decode cX7_stalled 28 = .ok (.iload_n 3, 1) := by decide +kernel
theorem dX7_stalled_29 : decode cX7_stalled 29 = .ok (.ifCond .eq 42, 3) := by decide +kernel
theorem dX7_stalled_32 : decode cX7_stalled 32 = .ok (.iload_n 2, 1) := by decide +kernel
theorem dX7_stalled_33 : decode cX7_stalled 33 = .ok (.aload_n 0, 1) := by decide +kernel
theorem dX7_stalled_34 : decode cX7_stalled 34 = .ok (.iload 4, 2) := by decide +kernel
theorem dX7_stalled_36 : decode cX7_stalled 36 = .ok (.invokevirtual 130, 3) := by decide +kernel
theorem dX7_stalled_39 : decode cX7_stalled 39 = .ok (.ifCond .eq 23, 3) := by decide +kernel
theorem dX7_stalled_42 : decode cX7_stalled 42 = .ok (.aload_n 0, 1) := by decide +kernel
theorem dX7_stalled_43 : decode cX7_stalled 43 = .ok (.getfield 96, 3) := by decide +kernel
theorem dX7_stalled_46 : decode cX7_stalled 46 = .ok (.aload_n 0, 1) := by decide +kernel
theorem dX7_stalled_47 : decode cX7_stalled 47 = .ok (.getfield 52, 3) := by decide +kernel
theorem dX7_stalled_50 : decode cX7_stalled 50 = .ok (.iload 4, 2) := by decide +kernel
theorem dX7_stalled_52 : decode cX7_stalled 52 = .ok (.iaload, 1) := by decide +kernel
theorem dX7_stalled_53 : decode cX7_stalled 53 = .ok (.isub, 1) := by decide +kernel
theorem dX7_stalled_54 : decode cX7_stalled 54 = .ok (.iload_n 1, 1) := by decide +kernel
theorem dX7_stalled_55 : decode cX7_stalled 55 = .ok (.if_icmp .le 7, 3) := by decide +kernel
theorem dX7_stalled_58 : decode cX7_stalled 58 = .ok (.iconst 1, 1) := by decide +kernel
theorem dX7_stalled_59 : decode cX7_stalled 59 = .ok (.goto 4, 3) := by decide +kernel
theorem dX7_stalled_62 : decode cX7_stalled 62 = .ok (.iconst 0, 1) := by decide +kernel
theorem dX7_stalled_63 : decode cX7_stalled 63 = .ok (.iadd, 1) := by decide +kernel
theorem dX7_stalled_64 : decode cX7_stalled 64 = .ok (.istore_n 2, 1) := by decide +kernel
theorem dX7_stalled_65 : decode cX7_stalled 65 = .ok (.iinc 4 1, 3) := by decide +kernel
theorem dX7_stalled_68 : decode cX7_stalled 68 = .ok (.goto (-49), 3) := by decide +kernel
theorem dX7_stalled_71 : decode cX7_stalled 71 = .ok (.iload_n 2, 1) := by decide +kernel
theorem dX7_stalled_72 : decode cX7_stalled 72 = .ok (.ireturn, 1) := by decide +kernel
theorem dX7_worthOf_0 : decode cX7_worthOf 0 = .ok (.aload_n 0, 1) := by decide +kernel
theorem dX7_worthOf_1 : decode cX7_worthOf 1 = .ok (.iload_n 1, 1) := by decide +kernel
theorem dX7_worthOf_2 : decode cX7_worthOf 2 = .ok (.invokevirtual 136, 3) := by decide +kernel
theorem dX7_worthOf_5 : decode cX7_worthOf 5 = .ok (.istore_n 2, 1) := by decide +kernel
theorem dX7_worthOf_6 : decode cX7_worthOf 6 = .ok (.iload_n 2, 1) := by decide +kernel
theorem dX7_worthOf_7 : decode cX7_worthOf 7 = .ok (.iconst (-1), 1) := by decide +kernel
theorem dX7_worthOf_8 : decode cX7_worthOf 8 = .ok (.if_icmp .ne 12, 3) := by decide +kernel
theorem dX7_worthOf_11 : decode cX7_worthOf 11 = .ok (.aload_n 0, 1) := by decide +kernel
theorem dX7_worthOf_12 : decode cX7_worthOf 12 = .ok (.getfield 46, 3) := by decide +kernel
theorem dX7_worthOf_15 : decode cX7_worthOf 15 = .ok (.iload_n 1, 1) := by decide +kernel
theorem dX7_worthOf_16 : decode cX7_worthOf 16 = .ok (.iaload, 1) := by decide +kernel
theorem dX7_worthOf_17 : decode cX7_worthOf 17 = .ok (.goto 22, 3) := by decide +kernel
theorem dX7_worthOf_20 : decode cX7_worthOf 20 = .ok (.aload_n 0, 1) := by decide +kernel
theorem dX7_worthOf_21 : decode cX7_worthOf 21 = .ok (.getfield 46, 3) := by decide +kernel
theorem dX7_worthOf_24 : decode cX7_worthOf 24 = .ok (.iload_n 1, 1) := by decide +kernel
theorem dX7_worthOf_25 : decode cX7_worthOf 25 = .ok (.iaload, 1) := by decide +kernel
theorem dX7_worthOf_26 : decode cX7_worthOf 26 = .ok (.bipush 100, 2) := by decide +kernel
theorem dX7_worthOf_28 : decode cX7_worthOf 28 = .ok (.aload_n 0, 1) := by decide +kernel
theorem dX7_worthOf_29 : decode cX7_worthOf 29 = .ok (.getfield 70, 3) := by decide +kernel
theorem dX7_worthOf_32 : decode cX7_worthOf 32 = .ok (.iload_n 2, 1) := by decide +kernel
theorem dX7_worthOf_33 : decode cX7_worthOf 33 = .ok (.iaload, 1) := by decide +kernel
theorem dX7_worthOf_34 : decode cX7_worthOf 34 = .ok (.isub, 1) := by decide +kernel
theorem dX7_worthOf_35 : decode cX7_worthOf 35 = .ok (.imul, 1) := by decide +kernel
theorem dX7_worthOf_36 : decode cX7_worthOf 36 = .ok (.bipush 100, 2) := by decide +kernel
theorem dX7_worthOf_38 : decode cX7_worthOf 38 = .ok (.idiv, 1) := by decide +kernel
theorem dX7_worthOf_39 : decode cX7_worthOf 39 = .ok (.ireturn, 1) := by decide +kernel
theorem dX7_worth_0 : decode cX7_worth 0 = .ok (.aload_n 0, 1) := by decide +kernel
theorem dX7_worth_1 : decode cX7_worth 1 = .ok (.aload_n 0, 1) := by decide +kernel
theorem dX7_worth_2 : decode cX7_worth 2 = .ok (.iload_n 1, 1) := by decide +kernel
theorem dX7_worth_3 : decode cX7_worth 3 = .ok (.invokevirtual 127, 3) := by decide +kernel
theorem dX7_worth_6 : decode cX7_worth 6 = .ok (.iconst 1, 1) := by decide +kernel
theorem dX7_worth_7 : decode cX7_worth 7 = .ok (.iconst 1, 1) := by decide +kernel
theorem dX7_worth_8 : decode cX7_worth 8 = .ok (.invokevirtual 100, 3) := by decide +kernel
theorem dX7_worth_11 : decode cX7_worth 11 = .ok (.ifCond .eq 11, 3) := by decide +kernel
theorem dX7_worth_14 : decode cX7_worth 14 = .ok (.aload_n 0, 1) := by decide +kernel
theorem dX7_worth_15 : decode cX7_worth 15 = .ok (.iload_n 1, 1) := by decide +kernel
theorem dX7_worth_16 : decode cX7_worth 16 = .ok (.invokevirtual 143, 3) := by decide +kernel
theorem dX7_worth_19 : decode cX7_worth 19 = .ok (.goto 4, 3) := by decide +kernel
theorem dX7_worth_22 : decode cX7_worth 22 = .ok (.iconst 0, 1) := by decide +kernel
theorem dX7_worth_23 : decode cX7_worth 23 = .ok (.ireturn, 1) := by decide +kernel
theorem dX7_inRegion_0 : decode cX7_inRegion 0 = .ok (.iconst 0, 1) := by decide +kernel
theorem dX7_inRegion_1 : decode cX7_inRegion 1 = .ok (.istore_n 3, 1) := by decide +kernel
theorem dX7_inRegion_2 : decode cX7_inRegion 2 = .ok (.aload_n 0, 1) := by decide +kernel
theorem dX7_inRegion_3 : decode cX7_inRegion 3 = .ok (.iload_n 1, 1) := by decide +kernel
theorem dX7_inRegion_4 : decode cX7_inRegion 4 = .ok (.iconst 0, 1) := by decide +kernel
theorem dX7_inRegion_5 : decode cX7_inRegion 5 = .ok (.iconst 3, 1) := by decide +kernel
theorem dX7_inRegion_6 : decode cX7_inRegion 6 = .ok (.invokestatic 86, 3) := by decide +kernel
theorem dX7_inRegion_9 : decode cX7_inRegion 9 = .ok (.ifCond .eq 16, 3) := by decide +kernel
theorem dX7_inRegion_12 : decode cX7_inRegion 12 = .ok (.iload_n 2, 1) := by decide +kernel
theorem dX7_inRegion_13 : decode cX7_inRegion 13 = .ok (.iconst 0, 1) := by decide +kernel
theorem dX7_inRegion_14 : decode cX7_inRegion 14 = .ok (.iconst 5, 1) := by decide +kernel
theorem dX7_inRegion_15 : decode cX7_inRegion 15 = .ok (.invokestatic 86, 3) := by decide +kernel
theorem dX7_inRegion_18 : decode cX7_inRegion 18 = .ok (.ifCond .eq 7, 3) := by decide +kernel
theorem dX7_inRegion_21 : decode cX7_inRegion 21 = .ok (.iconst 1, 1) := by decide +kernel
theorem dX7_inRegion_22 : decode cX7_inRegion 22 = .ok (.goto 4, 3) := by decide +kernel
theorem dX7_inRegion_25 : decode cX7_inRegion 25 = .ok (.iconst 0, 1) := by decide +kernel
theorem dX7_inRegion_26 : decode cX7_inRegion 26 = .ok (.iconst 1, 1) := by decide +kernel
theorem dX7_inRegion_27 : decode cX7_inRegion 27 = .ok (.iconst 1, 1) := by decide +kernel
theorem dX7_inRegion_28 : decode cX7_inRegion 28 = .ok (.invokevirtual 100, 3) := by decide +kernel
theorem dX7_inRegion_31 : decode cX7_inRegion 31 = .ok (.istore 4, 2) := by decide +kernel
theorem dX7_inRegion_33 : decode cX7_inRegion 33 = .ok (.iconst 0, 1) := by decide +kernel
theorem dX7_inRegion_34 : decode cX7_inRegion 34 = .ok (.istore 5, 2) := by decide +kernel
theorem dX7_inRegion_36 : decode cX7_inRegion 36 = .ok (.iload 5, 2) := by decide +kernel
theorem dX7_inRegion_38 : decode cX7_inRegion 38 = .ok (.aload_n 0, 1) := by decide +kernel
theorem dX7_inRegion_39 : decode cX7_inRegion 39 = .ok (.getfield 93, 3) := by decide +kernel
theorem dX7_inRegion_42 : decode cX7_inRegion 42 = .ok (.if_icmp .ge 76, 3) := by decide +kernel
theorem dX7_inRegion_45 : decode cX7_inRegion 45 = .ok (.iload 4, 2) := by decide +kernel
theorem dX7_inRegion_47 : decode cX7_inRegion 47 = .ok (.ifCond .eq 71, 3) := by decide +kernel
theorem dX7_inRegion_50 : decode cX7_inRegion 50 = .ok (.aload_n 0, 1) := by decide +kernel
theorem dX7_inRegion_51 : decode cX7_inRegion 51 = .ok (.iload 5, 2) := by decide +kernel
theorem dX7_inRegion_53 : decode cX7_inRegion 53 = .ok (.invokevirtual 130, 3) := by decide +kernel
theorem dX7_inRegion_56 : decode cX7_inRegion 56 = .ok (.ifCond .eq 17, 3) := by decide +kernel
theorem dX7_inRegion_59 : decode cX7_inRegion 59 = .ok (.aload_n 0, 1) := by decide +kernel
theorem dX7_inRegion_60 : decode cX7_inRegion 60 = .ok (.aload_n 0, 1) := by decide +kernel
theorem dX7_inRegion_61 : decode cX7_inRegion 61 = .ok (.getfield 43, 3) := by decide +kernel
theorem dX7_inRegion_64 : decode cX7_inRegion 64 = .ok (.iload 5, 2) := by decide +kernel
theorem dX7_inRegion_66 : decode cX7_inRegion 66 = .ok (.iaload, 1) := by decide +kernel
theorem dX7_inRegion_67 : decode cX7_inRegion 67 = .ok (.invokevirtual 119, 3) := by decide +kernel
theorem dX7_inRegion_70 : decode cX7_inRegion 70 = .ok (.goto 10, 3) := by decide +kernel
theorem dX7_inRegion_73 : decode cX7_inRegion 73 = .ok (.aload_n 0, 1) := by decide +kernel
theorem dX7_inRegion_74 : decode cX7_inRegion 74 = .ok (.getfield 55, 3) := by decide +kernel
theorem dX7_inRegion_77 : decode cX7_inRegion 77 = .ok (.iload 5, 2) := by decide +kernel
theorem dX7_inRegion_79 : decode cX7_inRegion 79 = .ok (.iaload, 1) := by decide +kernel
theorem dX7_inRegion_80 : decode cX7_inRegion 80 = .ok (.istore 6, 2) := by decide +kernel
theorem dX7_inRegion_82 : decode cX7_inRegion 82 = .ok (.iload_n 3, 1) := by decide +kernel
theorem dX7_inRegion_83 : decode cX7_inRegion 83 = .ok (.iload 6, 2) := by decide +kernel
theorem dX7_inRegion_85 : decode cX7_inRegion 85 = .ok (.iload_n 1, 1) := by decide +kernel
theorem dX7_inRegion_86 : decode cX7_inRegion 86 = .ok (.if_icmp .ne 23, 3) := by decide +kernel
theorem dX7_inRegion_89 : decode cX7_inRegion 89 = .ok (.aload_n 0, 1) := by decide +kernel
theorem dX7_inRegion_90 : decode cX7_inRegion 90 = .ok (.getfield 49, 3) := by decide +kernel
theorem dX7_inRegion_93 : decode cX7_inRegion 93 = .ok (.iload 5, 2) := by decide +kernel
theorem dX7_inRegion_95 : decode cX7_inRegion 95 = .ok (.iaload, 1) := by decide +kernel
theorem dX7_inRegion_96 : decode cX7_inRegion 96 = .ok (.iload_n 2, 1) := by decide +kernel
theorem dX7_inRegion_97 : decode cX7_inRegion 97 = .ok (.if_icmp .ne 12, 3) := by decide +kernel
theorem dX7_inRegion_100 : decode cX7_inRegion 100 = .ok (.aload_n 0, 1) := by decide +kernel
theorem dX7_inRegion_101 : decode cX7_inRegion 101 = .ok (.iload 5, 2) := by decide +kernel
theorem dX7_inRegion_103 : decode cX7_inRegion 103 = .ok (.invokevirtual 143, 3) := by decide +kernel
theorem dX7_inRegion_106 : decode cX7_inRegion 106 = .ok (.goto 4, 3) := by decide +kernel
theorem dX7_inRegion_109 : decode cX7_inRegion 109 = .ok (.iconst 0, 1) := by decide +kernel
theorem dX7_inRegion_110 : decode cX7_inRegion 110 = .ok (.iadd, 1) := by decide +kernel
theorem dX7_inRegion_111 : decode cX7_inRegion 111 = .ok (.istore_n 3, 1) := by decide +kernel
theorem dX7_inRegion_112 : decode cX7_inRegion 112 = .ok (.iinc 5 1, 3) := by decide +kernel
theorem dX7_inRegion_115 : decode cX7_inRegion 115 = .ok (.goto (-79), 3) := by decide +kernel
theorem dX7_inRegion_118 : decode cX7_inRegion 118 = .ok (.iload_n 3, 1) := by decide +kernel
theorem dX7_inRegion_119 : decode cX7_inRegion 119 = .ok (.ireturn, 1) := by decide +kernel
theorem dX7_won_0 : decode cX7_won 0 = .ok (.iconst 0, 1) := by decide +kernel
theorem dX7_won_1 : decode cX7_won 1 = .ok (.istore_n 2, 1) := by decide +kernel
theorem dX7_won_2 : decode cX7_won 2 = .ok (.aload_n 0, 1) := by decide +kernel
theorem dX7_won_3 : decode cX7_won 3 = .ok (.aload_n 0, 1) := by decide +kernel
theorem dX7_won_4 : decode cX7_won 4 = .ok (.iload_n 1, 1) := by decide +kernel
theorem dX7_won_5 : decode cX7_won 5 = .ok (.invokevirtual 104, 3) := by decide +kernel
theorem dX7_won_8 : decode cX7_won 8 = .ok (.iconst 1, 1) := by decide +kernel
theorem dX7_won_9 : decode cX7_won 9 = .ok (.iconst 1, 1) := by decide +kernel
theorem dX7_won_10 : decode cX7_won 10 = .ok (.invokevirtual 100, 3) := by decide +kernel
theorem dX7_won_13 : decode cX7_won 13 = .ok (.istore_n 3, 1) := by decide +kernel
theorem dX7_won_14 : decode cX7_won 14 = .ok (.iconst 0, 1) := by decide +kernel
theorem dX7_won_15 : decode cX7_won 15 = .ok (.istore 4, 2) := by decide +kernel
theorem dX7_won_17 : decode cX7_won 17 = .ok (.iload 4, 2) := by decide +kernel
theorem dX7_won_19 : decode cX7_won 19 = .ok (.aload_n 0, 1) := by decide +kernel
theorem dX7_won_20 : decode cX7_won 20 = .ok (.getfield 93, 3) := by decide +kernel
theorem dX7_won_23 : decode cX7_won 23 = .ok (.if_icmp .ge 76, 3) := by decide +kernel
theorem dX7_won_26 : decode cX7_won 26 = .ok (.iload_n 3, 1) := by decide +kernel
theorem dX7_won_27 : decode cX7_won 27 = .ok (.ifCond .eq 72, 3) := by decide +kernel
theorem dX7_won_30 : decode cX7_won 30 = .ok (.aload_n 0, 1) := by decide +kernel
theorem dX7_won_31 : decode cX7_won 31 = .ok (.getfield 43, 3) := by decide +kernel
theorem dX7_won_34 : decode cX7_won 34 = .ok (.iload 4, 2) := by decide +kernel
theorem dX7_won_36 : decode cX7_won 36 = .ok (.iaload, 1) := by decide +kernel
theorem dX7_won_37 : decode cX7_won 37 = .ok (.istore 5, 2) := by decide +kernel
theorem dX7_won_39 : decode cX7_won 39 = .ok (.iload 5, 2) := by decide +kernel
theorem dX7_won_41 : decode cX7_won 41 = .ok (.iconst (-1), 1) := by decide +kernel
theorem dX7_won_42 : decode cX7_won 42 = .ok (.if_icmp .eq 21, 3) := by decide +kernel
theorem dX7_won_45 : decode cX7_won 45 = .ok (.iload 5, 2) := by decide +kernel
theorem dX7_won_47 : decode cX7_won 47 = .ok (.iload_n 1, 1) := by decide +kernel
theorem dX7_won_48 : decode cX7_won 48 = .ok (.if_icmp .eq 15, 3) := by decide +kernel
theorem dX7_won_51 : decode cX7_won 51 = .ok (.aload_n 0, 1) := by decide +kernel
theorem dX7_won_52 : decode cX7_won 52 = .ok (.getfield 7, 3) := by decide +kernel
theorem dX7_won_55 : decode cX7_won 55 = .ok (.iload 5, 2) := by decide +kernel
theorem dX7_won_57 : decode cX7_won 57 = .ok (.iaload, 1) := by decide +kernel
theorem dX7_won_58 : decode cX7_won 58 = .ok (.istore 5, 2) := by decide +kernel
theorem dX7_won_60 : decode cX7_won 60 = .ok (.goto (-21), 3) := by decide +kernel
theorem dX7_won_63 : decode cX7_won 63 = .ok (.iload_n 2, 1) := by decide +kernel
theorem dX7_won_64 : decode cX7_won 64 = .ok (.iload 5, 2) := by decide +kernel
theorem dX7_won_66 : decode cX7_won 66 = .ok (.iload_n 1, 1) := by decide +kernel
theorem dX7_won_67 : decode cX7_won 67 = .ok (.if_icmp .ne 23, 3) := by decide +kernel
theorem dX7_won_70 : decode cX7_won 70 = .ok (.aload_n 0, 1) := by decide +kernel
theorem dX7_won_71 : decode cX7_won 71 = .ok (.getfield 49, 3) := by decide +kernel
theorem dX7_won_74 : decode cX7_won 74 = .ok (.iload 4, 2) := by decide +kernel
theorem dX7_won_76 : decode cX7_won 76 = .ok (.iaload, 1) := by decide +kernel
theorem dX7_won_77 : decode cX7_won 77 = .ok (.iconst 4, 1) := by decide +kernel
theorem dX7_won_78 : decode cX7_won 78 = .ok (.if_icmp .ne 12, 3) := by decide +kernel
theorem dX7_won_81 : decode cX7_won 81 = .ok (.aload_n 0, 1) := by decide +kernel
theorem dX7_won_82 : decode cX7_won 82 = .ok (.iload 4, 2) := by decide +kernel
theorem dX7_won_84 : decode cX7_won 84 = .ok (.invokevirtual 143, 3) := by decide +kernel
theorem dX7_won_87 : decode cX7_won 87 = .ok (.goto 4, 3) := by decide +kernel
theorem dX7_won_90 : decode cX7_won 90 = .ok (.iconst 0, 1) := by decide +kernel
theorem dX7_won_91 : decode cX7_won 91 = .ok (.iadd, 1) := by decide +kernel
theorem dX7_won_92 : decode cX7_won 92 = .ok (.istore_n 2, 1) := by decide +kernel
theorem dX7_won_93 : decode cX7_won 93 = .ok (.iinc 4 1, 3) := by decide +kernel
theorem dX7_won_96 : decode cX7_won 96 = .ok (.goto (-79), 3) := by decide +kernel
theorem dX7_won_99 : decode cX7_won 99 = .ok (.iload_n 2, 1) := by decide +kernel
theorem dX7_won_100 : decode cX7_won 100 = .ok (.ireturn, 1) := by decide +kernel
theorem dX7_approves_0 : decode cX7_approves 0 = .ok (.aload_n 0, 1) := by decide +kernel
theorem dX7_approves_1 : decode cX7_approves 1 = .ok (.dup, 1) := by decide +kernel
theorem dX7_approves_2 : decode cX7_approves 2 = .ok (.getfield 146, 3) := by decide +kernel
theorem dX7_approves_5 : decode cX7_approves 5 = .ok (.iconst 1, 1) := by decide +kernel
theorem dX7_approves_6 : decode cX7_approves 6 = .ok (.iadd, 1) := by decide +kernel
theorem dX7_approves_7 : decode cX7_approves 7 = .ok (.putfield 146, 3) := by decide +kernel
theorem dX7_approves_10 : decode cX7_approves 10 = .ok (.aload_n 0, 1) := by decide +kernel
theorem dX7_approves_11 : decode cX7_approves 11 = .ok (.getfield 73, 3) := by decide +kernel
theorem dX7_approves_14 : decode cX7_approves 14 = .ok (.iload_n 1, 1) := by decide +kernel
theorem dX7_approves_15 : decode cX7_approves 15 = .ok (.aload_n 0, 1) := by decide +kernel
theorem dX7_approves_16 : decode cX7_approves 16 = .ok (.getfield 146, 3) := by decide +kernel
theorem dX7_approves_19 : decode cX7_approves 19 = .ok (.iastore, 1) := by decide +kernel
theorem dX7_approves_20 : decode cX7_approves 20 = .ok (.return_, 1) := by decide +kernel
theorem dX7_quote_0 : decode cX7_quote 0 = .ok (.aload_n 0, 1) := by decide +kernel
theorem dX7_quote_1 : decode cX7_quote 1 = .ok (.iload_n 1, 1) := by decide +kernel
theorem dX7_quote_2 : decode cX7_quote 2 = .ok (.invokevirtual 127, 3) := by decide +kernel
theorem dX7_quote_5 : decode cX7_quote 5 = .ok (.ifCond .eq 15, 3) := by decide +kernel
theorem dX7_quote_8 : decode cX7_quote 8 = .ok (.aload_n 0, 1) := by decide +kernel
theorem dX7_quote_9 : decode cX7_quote 9 = .ok (.iload_n 2, 1) := by decide +kernel
theorem dX7_quote_10 : decode cX7_quote 10 = .ok (.invokevirtual 122, 3) := by decide +kernel
theorem dX7_quote_13 : decode cX7_quote 13 = .ok (.ifCond .eq 7, 3) := by decide +kernel
theorem dX7_quote_16 : decode cX7_quote 16 = .ok (.iconst 1, 1) := by decide +kernel
theorem dX7_quote_17 : decode cX7_quote 17 = .ok (.goto 4, 3) := by decide +kernel
theorem dX7_quote_20 : decode cX7_quote 20 = .ok (.iconst 0, 1) := by decide +kernel
theorem dX7_quote_21 : decode cX7_quote 21 = .ok (.istore 4, 2) := by decide +kernel
theorem dX7_quote_23 : decode cX7_quote 23 = .ok (.aload_n 0, 1) := by decide +kernel
theorem dX7_quote_24 : decode cX7_quote 24 = .ok (.iload 4, 2) := by decide +kernel
theorem dX7_quote_26 : decode cX7_quote 26 = .ok (.iload_n 3, 1) := by decide +kernel
theorem dX7_quote_27 : decode cX7_quote 27 = .ok (.iconst 0, 1) := by decide +kernel
theorem dX7_quote_28 : decode cX7_quote 28 = .ok (.bipush 99, 2) := by decide +kernel
theorem dX7_quote_30 : decode cX7_quote 30 = .ok (.invokestatic 86, 3) := by decide +kernel
theorem dX7_quote_33 : decode cX7_quote 33 = .ok (.iload 4, 2) := by decide +kernel
theorem dX7_quote_35 : decode cX7_quote 35 = .ok (.ifCond .eq 24, 3) := by decide +kernel
theorem dX7_quote_38 : decode cX7_quote 38 = .ok (.aload_n 0, 1) := by decide +kernel
theorem dX7_quote_39 : decode cX7_quote 39 = .ok (.iload_n 1, 1) := by decide +kernel
theorem dX7_quote_40 : decode cX7_quote 40 = .ok (.invokevirtual 130, 3) := by decide +kernel
theorem dX7_quote_43 : decode cX7_quote 43 = .ok (.ifCond .eq 16, 3) := by decide +kernel
theorem dX7_quote_46 : decode cX7_quote 46 = .ok (.aload_n 0, 1) := by decide +kernel
theorem dX7_quote_47 : decode cX7_quote 47 = .ok (.getfield 133, 3) := by decide +kernel
theorem dX7_quote_50 : decode cX7_quote 50 = .ok (.bipush 40, 2) := by decide +kernel
theorem dX7_quote_52 : decode cX7_quote 52 = .ok (.if_icmp .ge 7, 3) := by decide +kernel
theorem dX7_quote_55 : decode cX7_quote 55 = .ok (.iconst 1, 1) := by decide +kernel
theorem dX7_quote_56 : decode cX7_quote 56 = .ok (.goto 4, 3) := by decide +kernel
theorem dX7_quote_59 : decode cX7_quote 59 = .ok (.iconst 0, 1) := by decide +kernel
theorem dX7_quote_60 : decode cX7_quote 60 = .ok (.invokevirtual 100, 3) := by decide +kernel
theorem dX7_quote_63 : decode cX7_quote 63 = .ok (.ifCond .ne 5, 3) := by decide +kernel
theorem dX7_quote_66 : decode cX7_quote 66 = .ok (.iconst 0, 1) := by decide +kernel
theorem dX7_quote_67 : decode cX7_quote 67 = .ok (.ireturn, 1) := by decide +kernel
theorem dX7_quote_68 : decode cX7_quote 68 = .ok (.aload_n 0, 1) := by decide +kernel
theorem dX7_quote_69 : decode cX7_quote 69 = .ok (.getfield 64, 3) := by decide +kernel
theorem dX7_quote_72 : decode cX7_quote 72 = .ok (.aload_n 0, 1) := by decide +kernel
theorem dX7_quote_73 : decode cX7_quote 73 = .ok (.getfield 133, 3) := by decide +kernel
theorem dX7_quote_76 : decode cX7_quote 76 = .ok (.iload_n 1, 1) := by decide +kernel
theorem dX7_quote_77 : decode cX7_quote 77 = .ok (.iastore, 1) := by decide +kernel
theorem dX7_quote_78 : decode cX7_quote 78 = .ok (.aload_n 0, 1) := by decide +kernel
theorem dX7_quote_79 : decode cX7_quote 79 = .ok (.getfield 67, 3) := by decide +kernel
theorem dX7_quote_82 : decode cX7_quote 82 = .ok (.aload_n 0, 1) := by decide +kernel
theorem dX7_quote_83 : decode cX7_quote 83 = .ok (.getfield 133, 3) := by decide +kernel
theorem dX7_quote_86 : decode cX7_quote 86 = .ok (.iload_n 2, 1) := by decide +kernel
theorem dX7_quote_87 : decode cX7_quote 87 = .ok (.iastore, 1) := by decide +kernel
theorem dX7_quote_88 : decode cX7_quote 88 = .ok (.aload_n 0, 1) := by decide +kernel
theorem dX7_quote_89 : decode cX7_quote 89 = .ok (.getfield 70, 3) := by decide +kernel
theorem dX7_quote_92 : decode cX7_quote 92 = .ok (.aload_n 0, 1) := by decide +kernel
theorem dX7_quote_93 : decode cX7_quote 93 = .ok (.getfield 133, 3) := by decide +kernel
theorem dX7_quote_96 : decode cX7_quote 96 = .ok (.iload_n 3, 1) := by decide +kernel
theorem dX7_quote_97 : decode cX7_quote 97 = .ok (.iastore, 1) := by decide +kernel
theorem dX7_quote_98 : decode cX7_quote 98 = .ok (.aload_n 0, 1) := by decide +kernel
theorem dX7_quote_99 : decode cX7_quote 99 = .ok (.dup, 1) := by decide +kernel
theorem dX7_quote_100 : decode cX7_quote 100 = .ok (.getfield 133, 3) := by decide +kernel
theorem dX7_quote_103 : decode cX7_quote 103 = .ok (.iconst 1, 1) := by decide +kernel
theorem dX7_quote_104 : decode cX7_quote 104 = .ok (.iadd, 1) := by decide +kernel
theorem dX7_quote_105 : decode cX7_quote 105 = .ok (.putfield 133, 3) := by decide +kernel
theorem dX7_quote_108 : decode cX7_quote 108 = .ok (.iload_n 3, 1) := by decide +kernel
theorem dX7_quote_109 : decode cX7_quote 109 = .ok (.aload_n 0, 1) := by decide +kernel
theorem dX7_quote_110 : decode cX7_quote 110 = .ok (.getfield 37, 3) := by decide +kernel
theorem dX7_quote_113 : decode cX7_quote 113 = .ok (.iload_n 2, 1) := by decide +kernel
theorem dX7_quote_114 : decode cX7_quote 114 = .ok (.iaload, 1) := by decide +kernel
theorem dX7_quote_115 : decode cX7_quote 115 = .ok (.if_icmp .gt 13, 3) := by decide +kernel
theorem dX7_quote_118 : decode cX7_quote 118 = .ok (.aload_n 0, 1) := by decide +kernel
theorem dX7_quote_119 : decode cX7_quote 119 = .ok (.aload_n 0, 1) := by decide +kernel
theorem dX7_quote_120 : decode cX7_quote 120 = .ok (.getfield 133, 3) := by decide +kernel
theorem dX7_quote_123 : decode cX7_quote 123 = .ok (.iconst 1, 1) := by decide +kernel
theorem dX7_quote_124 : decode cX7_quote 124 = .ok (.isub, 1) := by decide +kernel
theorem dX7_quote_125 : decode cX7_quote 125 = .ok (.invokevirtual 149, 3) := by decide +kernel
theorem dX7_quote_128 : decode cX7_quote 128 = .ok (.aload_n 0, 1) := by decide +kernel
theorem dX7_quote_129 : decode cX7_quote 129 = .ok (.getfield 133, 3) := by decide +kernel
theorem dX7_quote_132 : decode cX7_quote 132 = .ok (.iconst 1, 1) := by decide +kernel
theorem dX7_quote_133 : decode cX7_quote 133 = .ok (.isub, 1) := by decide +kernel
theorem dX7_quote_134 : decode cX7_quote 134 = .ok (.ireturn, 1) := by decide +kernel
theorem dX7_isAbove_0 : decode cX7_isAbove 0 = .ok (.aload_n 0, 1) := by decide +kernel
theorem dX7_isAbove_1 : decode cX7_isAbove 1 = .ok (.getfield 34, 3) := by decide +kernel
theorem dX7_isAbove_4 : decode cX7_isAbove 4 = .ok (.iload_n 2, 1) := by decide +kernel
theorem dX7_isAbove_5 : decode cX7_isAbove 5 = .ok (.iaload, 1) := by decide +kernel
theorem dX7_isAbove_6 : decode cX7_isAbove 6 = .ok (.istore_n 3, 1) := by decide +kernel
theorem dX7_isAbove_7 : decode cX7_isAbove 7 = .ok (.iload_n 3, 1) := by decide +kernel
theorem dX7_isAbove_8 : decode cX7_isAbove 8 = .ok (.iconst (-1), 1) := by decide +kernel
theorem dX7_isAbove_9 : decode cX7_isAbove 9 = .ok (.if_icmp .eq 18, 3) := by decide +kernel
theorem dX7_isAbove_12 : decode cX7_isAbove 12 = .ok (.iload_n 3, 1) := by decide +kernel
theorem dX7_isAbove_13 : decode cX7_isAbove 13 = .ok (.iload_n 1, 1) := by decide +kernel
theorem dX7_isAbove_14 : decode cX7_isAbove 14 = .ok (.if_icmp .eq 13, 3) := by decide +kernel
theorem dX7_isAbove_17 : decode cX7_isAbove 17 = .ok (.aload_n 0, 1) := by decide +kernel
theorem dX7_isAbove_18 : decode cX7_isAbove 18 = .ok (.getfield 34, 3) := by decide +kernel
theorem dX7_isAbove_21 : decode cX7_isAbove 21 = .ok (.iload_n 3, 1) := by decide +kernel
theorem dX7_isAbove_22 : decode cX7_isAbove 22 = .ok (.iaload, 1) := by decide +kernel
theorem dX7_isAbove_23 : decode cX7_isAbove 23 = .ok (.istore_n 3, 1) := by decide +kernel
theorem dX7_isAbove_24 : decode cX7_isAbove 24 = .ok (.goto (-17), 3) := by decide +kernel
theorem dX7_isAbove_27 : decode cX7_isAbove 27 = .ok (.iload_n 3, 1) := by decide +kernel
theorem dX7_isAbove_28 : decode cX7_isAbove 28 = .ok (.iload_n 1, 1) := by decide +kernel
theorem dX7_isAbove_29 : decode cX7_isAbove 29 = .ok (.if_icmp .ne 7, 3) := by decide +kernel
theorem dX7_isAbove_32 : decode cX7_isAbove 32 = .ok (.iconst 1, 1) := by decide +kernel
theorem dX7_isAbove_33 : decode cX7_isAbove 33 = .ok (.goto 4, 3) := by decide +kernel
theorem dX7_isAbove_36 : decode cX7_isAbove 36 = .ok (.iconst 0, 1) := by decide +kernel
theorem dX7_isAbove_37 : decode cX7_isAbove 37 = .ok (.ireturn, 1) := by decide +kernel
theorem dX7_approve_0 : decode cX7_approve 0 = .ok (.iload_n 1, 1) := by decide +kernel
theorem dX7_approve_1 : decode cX7_approve 1 = .ok (.iconst 0, 1) := by decide +kernel
theorem dX7_approve_2 : decode cX7_approve 2 = .ok (.aload_n 0, 1) := by decide +kernel
theorem dX7_approve_3 : decode cX7_approve 3 = .ok (.getfield 133, 3) := by decide +kernel
theorem dX7_approve_6 : decode cX7_approve 6 = .ok (.iconst 1, 1) := by decide +kernel
theorem dX7_approve_7 : decode cX7_approve 7 = .ok (.isub, 1) := by decide +kernel
theorem dX7_approve_8 : decode cX7_approve 8 = .ok (.invokestatic 86, 3) := by decide +kernel
theorem dX7_approve_11 : decode cX7_approve 11 = .ok (.ifCond .eq 15, 3) := by decide +kernel
theorem dX7_approve_14 : decode cX7_approve 14 = .ok (.aload_n 0, 1) := by decide +kernel
theorem dX7_approve_15 : decode cX7_approve 15 = .ok (.iload_n 2, 1) := by decide +kernel
theorem dX7_approve_16 : decode cX7_approve 16 = .ok (.invokevirtual 122, 3) := by decide +kernel
theorem dX7_approve_19 : decode cX7_approve 19 = .ok (.ifCond .eq 7, 3) := by decide +kernel
theorem dX7_approve_22 : decode cX7_approve 22 = .ok (.iconst 1, 1) := by decide +kernel
theorem dX7_approve_23 : decode cX7_approve 23 = .ok (.goto 4, 3) := by decide +kernel
theorem dX7_approve_26 : decode cX7_approve 26 = .ok (.iconst 0, 1) := by decide +kernel
theorem dX7_approve_27 : decode cX7_approve 27 = .ok (.istore_n 3, 1) := by decide +kernel
theorem dX7_approve_28 : decode cX7_approve 28 = .ok (.iload_n 3, 1) := by decide +kernel
theorem dX7_approve_29 : decode cX7_approve 29 = .ok (.ifCond .eq 58, 3) := by decide +kernel
theorem dX7_approve_32 : decode cX7_approve 32 = .ok (.aload_n 0, 1) := by decide +kernel
theorem dX7_approve_33 : decode cX7_approve 33 = .ok (.getfield 73, 3) := by decide +kernel
theorem dX7_approve_36 : decode cX7_approve 36 = .ok (.iload_n 1, 1) := by decide +kernel
theorem dX7_approve_37 : decode cX7_approve 37 = .ok (.iaload, 1) := by decide +kernel
theorem dX7_approve_38 : decode cX7_approve 38 = .ok (.ifCond .ne 49, 3) := by decide +kernel
theorem dX7_approve_41 : decode cX7_approve 41 = .ok (.aload_n 0, 1) := by decide +kernel
theorem dX7_approve_42 : decode cX7_approve 42 = .ok (.aload_n 0, 1) := by decide +kernel
theorem dX7_approve_43 : decode cX7_approve 43 = .ok (.getfield 64, 3) := by decide +kernel
theorem dX7_approve_46 : decode cX7_approve 46 = .ok (.iload_n 1, 1) := by decide +kernel
theorem dX7_approve_47 : decode cX7_approve 47 = .ok (.iaload, 1) := by decide +kernel
theorem dX7_approve_48 : decode cX7_approve 48 = .ok (.invokevirtual 130, 3) := by decide +kernel
theorem dX7_approve_51 : decode cX7_approve 51 = .ok (.ifCond .eq 36, 3) := by decide +kernel
theorem dX7_approve_54 : decode cX7_approve 54 = .ok (.aload_n 0, 1) := by decide +kernel
theorem dX7_approve_55 : decode cX7_approve 55 = .ok (.iload_n 2, 1) := by decide +kernel
theorem dX7_approve_56 : decode cX7_approve 56 = .ok (.aload_n 0, 1) := by decide +kernel
theorem dX7_approve_57 : decode cX7_approve 57 = .ok (.getfield 67, 3) := by decide +kernel
theorem dX7_approve_60 : decode cX7_approve 60 = .ok (.iload_n 1, 1) := by decide +kernel
theorem dX7_approve_61 : decode cX7_approve 61 = .ok (.iaload, 1) := by decide +kernel
theorem dX7_approve_62 : decode cX7_approve 62 = .ok (.invokevirtual 153, 3) := by decide +kernel
theorem dX7_approve_65 : decode cX7_approve 65 = .ok (.ifCond .eq 22, 3) := by decide +kernel
theorem dX7_approve_68 : decode cX7_approve 68 = .ok (.aload_n 0, 1) := by decide +kernel
theorem dX7_approve_69 : decode cX7_approve 69 = .ok (.getfield 70, 3) := by decide +kernel
theorem dX7_approve_72 : decode cX7_approve 72 = .ok (.iload_n 1, 1) := by decide +kernel
theorem dX7_approve_73 : decode cX7_approve 73 = .ok (.iaload, 1) := by decide +kernel
theorem dX7_approve_74 : decode cX7_approve 74 = .ok (.aload_n 0, 1) := by decide +kernel
theorem dX7_approve_75 : decode cX7_approve 75 = .ok (.getfield 37, 3) := by decide +kernel
theorem dX7_approve_78 : decode cX7_approve 78 = .ok (.iload_n 2, 1) := by decide +kernel
theorem dX7_approve_79 : decode cX7_approve 79 = .ok (.iaload, 1) := by decide +kernel
theorem dX7_approve_80 : decode cX7_approve 80 = .ok (.if_icmp .gt 7, 3) := by decide +kernel
theorem dX7_approve_83 : decode cX7_approve 83 = .ok (.iconst 1, 1) := by decide +kernel
theorem dX7_approve_84 : decode cX7_approve 84 = .ok (.goto 4, 3) := by decide +kernel
theorem dX7_approve_87 : decode cX7_approve 87 = .ok (.iconst 0, 1) := by decide +kernel
theorem dX7_approve_88 : decode cX7_approve 88 = .ok (.istore 4, 2) := by decide +kernel
theorem dX7_approve_90 : decode cX7_approve 90 = .ok (.aload_n 0, 1) := by decide +kernel
theorem dX7_approve_91 : decode cX7_approve 91 = .ok (.iload_n 3, 1) := by decide +kernel
theorem dX7_approve_92 : decode cX7_approve 92 = .ok (.iload 4, 2) := by decide +kernel
theorem dX7_approve_94 : decode cX7_approve 94 = .ok (.iconst 1, 1) := by decide +kernel
theorem dX7_approve_95 : decode cX7_approve 95 = .ok (.invokevirtual 100, 3) := by decide +kernel
theorem dX7_approve_98 : decode cX7_approve 98 = .ok (.ifCond .eq 8, 3) := by decide +kernel
theorem dX7_approve_101 : decode cX7_approve 101 = .ok (.aload_n 0, 1) := by decide +kernel
theorem dX7_approve_102 : decode cX7_approve 102 = .ok (.iload_n 1, 1) := by decide +kernel
theorem dX7_approve_103 : decode cX7_approve 103 = .ok (.invokevirtual 149, 3) := by decide +kernel
theorem dX7_approve_106 : decode cX7_approve 106 = .ok (.return_, 1) := by decide +kernel
theorem dX7_counting_0 : decode cX7_counting 0 = .ok (.aload_n 0, 1) := by decide +kernel
theorem dX7_counting_1 : decode cX7_counting 1 = .ok (.iload_n 1, 1) := by decide +kernel
theorem dX7_counting_2 : decode cX7_counting 2 = .ok (.invokevirtual 127, 3) := by decide +kernel
theorem dX7_counting_5 : decode cX7_counting 5 = .ok (.istore_n 2, 1) := by decide +kernel
theorem dX7_counting_6 : decode cX7_counting 6 = .ok (.iload_n 2, 1) := by decide +kernel
theorem dX7_counting_7 : decode cX7_counting 7 = .ok (.ifCond .eq 11, 3) := by decide +kernel
theorem dX7_counting_10 : decode cX7_counting 10 = .ok (.aload_n 0, 1) := by decide +kernel
theorem dX7_counting_11 : decode cX7_counting 11 = .ok (.iload_n 1, 1) := by decide +kernel
theorem dX7_counting_12 : decode cX7_counting 12 = .ok (.invokevirtual 136, 3) := by decide +kernel
theorem dX7_counting_15 : decode cX7_counting 15 = .ok (.goto 4, 3) := by decide +kernel
theorem dX7_counting_18 : decode cX7_counting 18 = .ok (.iconst (-1), 1) := by decide +kernel
theorem dX7_counting_19 : decode cX7_counting 19 = .ok (.istore_n 3, 1) := by decide +kernel
theorem dX7_counting_20 : decode cX7_counting 20 = .ok (.aload_n 0, 1) := by decide +kernel
theorem dX7_counting_21 : decode cX7_counting 21 = .ok (.iload_n 2, 1) := by decide +kernel
theorem dX7_counting_22 : decode cX7_counting 22 = .ok (.iload_n 3, 1) := by decide +kernel
theorem dX7_counting_23 : decode cX7_counting 23 = .ok (.iconst (-1), 1) := by decide +kernel
theorem dX7_counting_24 : decode cX7_counting 24 = .ok (.if_icmp .eq 7, 3) := by decide +kernel
theorem dX7_counting_27 : decode cX7_counting 27 = .ok (.iconst 1, 1) := by decide +kernel
theorem dX7_counting_28 : decode cX7_counting 28 = .ok (.goto 4, 3) := by decide +kernel
theorem dX7_counting_31 : decode cX7_counting 31 = .ok (.iconst 0, 1) := by decide +kernel
theorem dX7_counting_32 : decode cX7_counting 32 = .ok (.iconst 1, 1) := by decide +kernel
theorem dX7_counting_33 : decode cX7_counting 33 = .ok (.invokevirtual 100, 3) := by decide +kernel
theorem dX7_counting_36 : decode cX7_counting 36 = .ok (.ifCond .eq 7, 3) := by decide +kernel
theorem dX7_counting_39 : decode cX7_counting 39 = .ok (.iload_n 3, 1) := by decide +kernel
theorem dX7_counting_40 : decode cX7_counting 40 = .ok (.goto 4, 3) := by decide +kernel
theorem dX7_counting_43 : decode cX7_counting 43 = .ok (.iconst 0, 1) := by decide +kernel
theorem dX7_counting_44 : decode cX7_counting 44 = .ok (.ireturn, 1) := by decide +kernel
theorem dX7_waiting_0 : decode cX7_waiting 0 = .ok (.aload_n 0, 1) := by decide +kernel
theorem dX7_waiting_1 : decode cX7_waiting 1 = .ok (.iconst 0, 1) := by decide +kernel
theorem dX7_waiting_2 : decode cX7_waiting 2 = .ok (.putfield 79, 3) := by decide +kernel
theorem dX7_waiting_5 : decode cX7_waiting 5 = .ok (.iconst 0, 1) := by decide +kernel
theorem dX7_waiting_6 : decode cX7_waiting 6 = .ok (.istore_n 1, 1) := by decide +kernel
theorem dX7_waiting_7 : decode cX7_waiting 7 = .ok (.iconst 0, 1) := by decide +kernel
theorem dX7_waiting_8 : decode cX7_waiting 8 = .ok (.istore_n 2, 1) := by decide +kernel
theorem dX7_waiting_9 : decode cX7_waiting 9 = .ok (.iload_n 2, 1) := by decide +kernel
theorem dX7_waiting_10 : decode cX7_waiting 10 = .ok (.aload_n 0, 1) := by decide +kernel
theorem dX7_waiting_11 : decode cX7_waiting 11 = .ok (.getfield 133, 3) := by decide +kernel
theorem dX7_waiting_14 : decode cX7_waiting 14 = .ok (.if_icmp .ge 39, 3) := by decide +kernel
theorem dX7_waiting_17 : decode cX7_waiting 17 = .ok (.iload_n 1, 1) := by decide +kernel
theorem dX7_waiting_18 : decode cX7_waiting 18 = .ok (.aload_n 0, 1) := by decide +kernel
theorem dX7_waiting_19 : decode cX7_waiting 19 = .ok (.getfield 73, 3) := by decide +kernel
theorem dX7_waiting_22 : decode cX7_waiting 22 = .ok (.iload_n 2, 1) := by decide +kernel
theorem dX7_waiting_23 : decode cX7_waiting 23 = .ok (.iaload, 1) := by decide +kernel
theorem dX7_waiting_24 : decode cX7_waiting 24 = .ok (.ifCond .ne 20, 3) := by decide +kernel
theorem dX7_waiting_27 : decode cX7_waiting 27 = .ok (.aload_n 0, 1) := by decide +kernel
theorem dX7_waiting_28 : decode cX7_waiting 28 = .ok (.aload_n 0, 1) := by decide +kernel
theorem dX7_waiting_29 : decode cX7_waiting 29 = .ok (.getfield 64, 3) := by decide +kernel
theorem dX7_waiting_32 : decode cX7_waiting 32 = .ok (.iload_n 2, 1) := by decide +kernel
theorem dX7_waiting_33 : decode cX7_waiting 33 = .ok (.iaload, 1) := by decide +kernel
theorem dX7_waiting_34 : decode cX7_waiting 34 = .ok (.invokevirtual 130, 3) := by decide +kernel
theorem dX7_waiting_37 : decode cX7_waiting 37 = .ok (.ifCond .eq 7, 3) := by decide +kernel
theorem dX7_waiting_40 : decode cX7_waiting 40 = .ok (.iconst 1, 1) := by decide +kernel
theorem dX7_waiting_41 : decode cX7_waiting 41 = .ok (.goto 4, 3) := by decide +kernel
theorem dX7_waiting_44 : decode cX7_waiting 44 = .ok (.iconst 0, 1) := by decide +kernel
theorem dX7_waiting_45 : decode cX7_waiting 45 = .ok (.iadd, 1) := by decide +kernel
theorem dX7_waiting_46 : decode cX7_waiting 46 = .ok (.istore_n 1, 1) := by decide +kernel
theorem dX7_waiting_47 : decode cX7_waiting 47 = .ok (.iinc 2 1, 3) := by decide +kernel
theorem dX7_waiting_50 : decode cX7_waiting 50 = .ok (.goto (-41), 3) := by decide +kernel
theorem dX7_waiting_53 : decode cX7_waiting 53 = .ok (.iload_n 1, 1) := by decide +kernel
theorem dX7_waiting_54 : decode cX7_waiting 54 = .ok (.ireturn, 1) := by decide +kernel
theorem dX7_weight_0 : decode cX7_weight 0 = .ok (.iload_n 0, 1) := by decide +kernel
theorem dX7_weight_1 : decode cX7_weight 1 = .ok (.ifCond .ne 8, 3) := by decide +kernel
theorem dX7_weight_4 : decode cX7_weight 4 = .ok (.bipush 10, 2) := by decide +kernel
theorem dX7_weight_6 : decode cX7_weight 6 = .ok (.goto 44, 3) := by decide +kernel
theorem dX7_weight_9 : decode cX7_weight 9 = .ok (.iload_n 0, 1) := by decide +kernel
theorem dX7_weight_10 : decode cX7_weight 10 = .ok (.iconst 1, 1) := by decide +kernel
theorem dX7_weight_11 : decode cX7_weight 11 = .ok (.if_icmp .ne 8, 3) := by decide +kernel
theorem dX7_weight_14 : decode cX7_weight 14 = .ok (.bipush 30, 2) := by decide +kernel
theorem dX7_weight_16 : decode cX7_weight 16 = .ok (.goto 34, 3) := by decide +kernel
theorem dX7_weight_19 : decode cX7_weight 19 = .ok (.iload_n 0, 1) := by decide +kernel
theorem dX7_weight_20 : decode cX7_weight 20 = .ok (.iconst 2, 1) := by decide +kernel
theorem dX7_weight_21 : decode cX7_weight 21 = .ok (.if_icmp .ne 8, 3) := by decide +kernel
theorem dX7_weight_24 : decode cX7_weight 24 = .ok (.bipush 60, 2) := by decide +kernel
theorem dX7_weight_26 : decode cX7_weight 26 = .ok (.goto 24, 3) := by decide +kernel
theorem dX7_weight_29 : decode cX7_weight 29 = .ok (.iload_n 0, 1) := by decide +kernel
theorem dX7_weight_30 : decode cX7_weight 30 = .ok (.iconst 3, 1) := by decide +kernel
theorem dX7_weight_31 : decode cX7_weight 31 = .ok (.if_icmp .ne 8, 3) := by decide +kernel
theorem dX7_weight_34 : decode cX7_weight 34 = .ok (.bipush 90, 2) := by decide +kernel
theorem dX7_weight_36 : decode cX7_weight 36 = .ok (.goto 14, 3) := by decide +kernel
theorem dX7_weight_39 : decode cX7_weight 39 = .ok (.iload_n 0, 1) := by decide +kernel
theorem dX7_weight_40 : decode cX7_weight 40 = .ok (.iconst 4, 1) := by decide +kernel
theorem dX7_weight_41 : decode cX7_weight 41 = .ok (.if_icmp .ne 8, 3) := by decide +kernel
theorem dX7_weight_44 : decode cX7_weight 44 = .ok (.bipush 100, 2) := by decide +kernel
theorem dX7_weight_46 : decode cX7_weight 46 = .ok (.goto 4, 3) := by decide +kernel
theorem dX7_weight_49 : decode cX7_weight 49 = .ok (.iconst 0, 1) := by decide +kernel
theorem dX7_weight_50 : decode cX7_weight 50 = .ok (.ireturn, 1) := by decide +kernel
theorem dX7_ownOf_0 : decode cX7_ownOf 0 = .ok (.iconst 0, 1) := by decide +kernel
theorem dX7_ownOf_1 : decode cX7_ownOf 1 = .ok (.istore_n 2, 1) := by decide +kernel
theorem dX7_ownOf_2 : decode cX7_ownOf 2 = .ok (.iconst 0, 1) := by decide +kernel
theorem dX7_ownOf_3 : decode cX7_ownOf 3 = .ok (.istore_n 3, 1) := by decide +kernel
theorem dX7_ownOf_4 : decode cX7_ownOf 4 = .ok (.iload_n 3, 1) := by decide +kernel
theorem dX7_ownOf_5 : decode cX7_ownOf 5 = .ok (.aload_n 0, 1) := by decide +kernel
theorem dX7_ownOf_6 : decode cX7_ownOf 6 = .ok (.getfield 93, 3) := by decide +kernel
theorem dX7_ownOf_9 : decode cX7_ownOf 9 = .ok (.if_icmp .ge 49, 3) := by decide +kernel
theorem dX7_ownOf_12 : decode cX7_ownOf 12 = .ok (.aload_n 0, 1) := by decide +kernel
theorem dX7_ownOf_13 : decode cX7_ownOf 13 = .ok (.iload_n 3, 1) := by decide +kernel
theorem dX7_ownOf_14 : decode cX7_ownOf 14 = .ok (.invokevirtual 143, 3) := by decide +kernel
theorem dX7_ownOf_17 : decode cX7_ownOf 17 = .ok (.aload_n 0, 1) := by decide +kernel
theorem dX7_ownOf_18 : decode cX7_ownOf 18 = .ok (.getfield 58, 3) := by decide +kernel
theorem dX7_ownOf_21 : decode cX7_ownOf 21 = .ok (.bipush 8, 2) := by decide +kernel
theorem dX7_ownOf_23 : decode cX7_ownOf 23 = .ok (.iload_n 3, 1) := by decide +kernel
theorem dX7_ownOf_24 : decode cX7_ownOf 24 = .ok (.imul, 1) := by decide +kernel
theorem dX7_ownOf_25 : decode cX7_ownOf 25 = .ok (.iload_n 1, 1) := by decide +kernel
theorem dX7_ownOf_26 : decode cX7_ownOf 26 = .ok (.iadd, 1) := by decide +kernel
theorem dX7_ownOf_27 : decode cX7_ownOf 27 = .ok (.iaload, 1) := by decide +kernel
theorem dX7_ownOf_28 : decode cX7_ownOf 28 = .ok (.imul, 1) := by decide +kernel
theorem dX7_ownOf_29 : decode cX7_ownOf 29 = .ok (.bipush 100, 2) := by decide +kernel
theorem dX7_ownOf_31 : decode cX7_ownOf 31 = .ok (.idiv, 1) := by decide +kernel
theorem dX7_ownOf_32 : decode cX7_ownOf 32 = .ok (.istore 4, 2) := by decide +kernel
theorem dX7_ownOf_34 : decode cX7_ownOf 34 = .ok (.iload_n 2, 1) := by decide +kernel
theorem dX7_ownOf_35 : decode cX7_ownOf 35 = .ok (.iload 4, 2) := by decide +kernel
theorem dX7_ownOf_37 : decode cX7_ownOf 37 = .ok (.aload_n 0, 1) := by decide +kernel
theorem dX7_ownOf_38 : decode cX7_ownOf 38 = .ok (.getfield 49, 3) := by decide +kernel
theorem dX7_ownOf_41 : decode cX7_ownOf 41 = .ok (.iload_n 3, 1) := by decide +kernel
theorem dX7_ownOf_42 : decode cX7_ownOf 42 = .ok (.iaload, 1) := by decide +kernel
theorem dX7_ownOf_43 : decode cX7_ownOf 43 = .ok (.invokestatic 156, 3) := by decide +kernel
theorem dX7_ownOf_46 : decode cX7_ownOf 46 = .ok (.imul, 1) := by decide +kernel
theorem dX7_ownOf_47 : decode cX7_ownOf 47 = .ok (.bipush 100, 2) := by decide +kernel
theorem dX7_ownOf_49 : decode cX7_ownOf 49 = .ok (.idiv, 1) := by decide +kernel
theorem dX7_ownOf_50 : decode cX7_ownOf 50 = .ok (.iadd, 1) := by decide +kernel
theorem dX7_ownOf_51 : decode cX7_ownOf 51 = .ok (.istore_n 2, 1) := by decide +kernel
theorem dX7_ownOf_52 : decode cX7_ownOf 52 = .ok (.iinc 3 1, 3) := by decide +kernel
theorem dX7_ownOf_55 : decode cX7_ownOf 55 = .ok (.goto (-51), 3) := by decide +kernel
theorem dX7_ownOf_58 : decode cX7_ownOf 58 = .ok (.iload_n 2, 1) := by decide +kernel
theorem dX7_ownOf_59 : decode cX7_ownOf 59 = .ok (.ireturn, 1) := by decide +kernel
theorem dX7_forecastOf_0 : decode cX7_forecastOf 0 = .ok (.iconst 0, 1) := by decide +kernel
theorem dX7_forecastOf_1 : decode cX7_forecastOf 1 = .ok (.istore_n 2, 1) := by decide +kernel
theorem dX7_forecastOf_2 : decode cX7_forecastOf 2 = .ok (.iconst 0, 1) := by decide +kernel
theorem dX7_forecastOf_3 : decode cX7_forecastOf 3 = .ok (.istore_n 3, 1) := by decide +kernel
theorem dX7_forecastOf_4 : decode cX7_forecastOf 4 = .ok (.iload_n 3, 1) := by decide +kernel
theorem dX7_forecastOf_5 : decode cX7_forecastOf 5 = .ok (.aload_n 0, 1) := by decide +kernel
theorem dX7_forecastOf_6 : decode cX7_forecastOf 6 = .ok (.getfield 90, 3) := by decide +kernel
theorem dX7_forecastOf_9 : decode cX7_forecastOf 9 = .ok (.if_icmp .ge 42, 3) := by decide +kernel
theorem dX7_forecastOf_12 : decode cX7_forecastOf 12 = .ok (.iload_n 2, 1) := by decide +kernel
theorem dX7_forecastOf_13 : decode cX7_forecastOf 13 = .ok (.iload_n 3, 1) := by decide +kernel
theorem dX7_forecastOf_14 : decode cX7_forecastOf 14 = .ok (.iload_n 1, 1) := by decide +kernel
theorem dX7_forecastOf_15 : decode cX7_forecastOf 15 = .ok (.if_icmp .eq 12, 3) := by decide +kernel
theorem dX7_forecastOf_18 : decode cX7_forecastOf 18 = .ok (.aload_n 0, 1) := by decide +kernel
theorem dX7_forecastOf_19 : decode cX7_forecastOf 19 = .ok (.iload_n 1, 1) := by decide +kernel
theorem dX7_forecastOf_20 : decode cX7_forecastOf 20 = .ok (.iload_n 3, 1) := by decide +kernel
theorem dX7_forecastOf_21 : decode cX7_forecastOf 21 = .ok (.invokevirtual 153, 3) := by decide +kernel
theorem dX7_forecastOf_24 : decode cX7_forecastOf 24 = .ok (.ifCond .eq 18, 3) := by decide +kernel
theorem dX7_forecastOf_27 : decode cX7_forecastOf 27 = .ok (.aload_n 0, 1) := by decide +kernel
theorem dX7_forecastOf_28 : decode cX7_forecastOf 28 = .ok (.iload_n 3, 1) := by decide +kernel
theorem dX7_forecastOf_29 : decode cX7_forecastOf 29 = .ok (.invokevirtual 159, 3) := by decide +kernel
theorem dX7_forecastOf_32 : decode cX7_forecastOf 32 = .ok (.aload_n 0, 1) := by decide +kernel
theorem dX7_forecastOf_33 : decode cX7_forecastOf 33 = .ok (.getfield 40, 3) := by decide +kernel
theorem dX7_forecastOf_36 : decode cX7_forecastOf 36 = .ok (.iload_n 3, 1) := by decide +kernel
theorem dX7_forecastOf_37 : decode cX7_forecastOf 37 = .ok (.iaload, 1) := by decide +kernel
theorem dX7_forecastOf_38 : decode cX7_forecastOf 38 = .ok (.iadd, 1) := by decide +kernel
theorem dX7_forecastOf_39 : decode cX7_forecastOf 39 = .ok (.goto 4, 3) := by decide +kernel
theorem dX7_forecastOf_42 : decode cX7_forecastOf 42 = .ok (.iconst 0, 1) := by decide +kernel
theorem dX7_forecastOf_43 : decode cX7_forecastOf 43 = .ok (.iadd, 1) := by decide +kernel
theorem dX7_forecastOf_44 : decode cX7_forecastOf 44 = .ok (.istore_n 2, 1) := by decide +kernel
theorem dX7_forecastOf_45 : decode cX7_forecastOf 45 = .ok (.iinc 3 1, 3) := by decide +kernel
theorem dX7_forecastOf_48 : decode cX7_forecastOf 48 = .ok (.goto (-44), 3) := by decide +kernel
theorem dX7_forecastOf_51 : decode cX7_forecastOf 51 = .ok (.iload_n 2, 1) := by decide +kernel
theorem dX7_forecastOf_52 : decode cX7_forecastOf 52 = .ok (.ireturn, 1) := by decide +kernel
theorem dX7_forecast_0 : decode cX7_forecast 0 = .ok (.aload_n 0, 1) := by decide +kernel
theorem dX7_forecast_1 : decode cX7_forecast 1 = .ok (.aload_n 0, 1) := by decide +kernel
theorem dX7_forecast_2 : decode cX7_forecast 2 = .ok (.iload_n 1, 1) := by decide +kernel
theorem dX7_forecast_3 : decode cX7_forecast 3 = .ok (.invokevirtual 122, 3) := by decide +kernel
theorem dX7_forecast_6 : decode cX7_forecast 6 = .ok (.iconst 1, 1) := by decide +kernel
theorem dX7_forecast_7 : decode cX7_forecast 7 = .ok (.iconst 1, 1) := by decide +kernel
theorem dX7_forecast_8 : decode cX7_forecast 8 = .ok (.invokevirtual 100, 3) := by decide +kernel
theorem dX7_forecast_11 : decode cX7_forecast 11 = .ok (.ifCond .eq 11, 3) := by decide +kernel
theorem dX7_forecast_14 : decode cX7_forecast 14 = .ok (.aload_n 0, 1) := by decide +kernel
theorem dX7_forecast_15 : decode cX7_forecast 15 = .ok (.iload_n 1, 1) := by decide +kernel
theorem dX7_forecast_16 : decode cX7_forecast 16 = .ok (.invokevirtual 162, 3) := by decide +kernel
theorem dX7_forecast_19 : decode cX7_forecast 19 = .ok (.goto 4, 3) := by decide +kernel
theorem dX7_forecast_22 : decode cX7_forecast 22 = .ok (.iconst 0, 1) := by decide +kernel
theorem dX7_forecast_23 : decode cX7_forecast 23 = .ok (.ireturn, 1) := by decide +kernel
theorem dX7_own_0 : decode cX7_own 0 = .ok (.aload_n 0, 1) := by decide +kernel
theorem dX7_own_1 : decode cX7_own 1 = .ok (.aload_n 0, 1) := by decide +kernel
theorem dX7_own_2 : decode cX7_own 2 = .ok (.iload_n 1, 1) := by decide +kernel
theorem dX7_own_3 : decode cX7_own 3 = .ok (.invokevirtual 122, 3) := by decide +kernel
theorem dX7_own_6 : decode cX7_own 6 = .ok (.iconst 1, 1) := by decide +kernel
theorem dX7_own_7 : decode cX7_own 7 = .ok (.iconst 1, 1) := by decide +kernel
theorem dX7_own_8 : decode cX7_own 8 = .ok (.invokevirtual 100, 3) := by decide +kernel
theorem dX7_own_11 : decode cX7_own 11 = .ok (.ifCond .eq 11, 3) := by decide +kernel
theorem dX7_own_14 : decode cX7_own 14 = .ok (.aload_n 0, 1) := by decide +kernel
theorem dX7_own_15 : decode cX7_own 15 = .ok (.iload_n 1, 1) := by decide +kernel
theorem dX7_own_16 : decode cX7_own 16 = .ok (.invokevirtual 159, 3) := by decide +kernel
theorem dX7_own_19 : decode cX7_own 19 = .ok (.goto 4, 3) := by decide +kernel
theorem dX7_own_22 : decode cX7_own 22 = .ok (.iconst 0, 1) := by decide +kernel
theorem dX7_own_23 : decode cX7_own 23 = .ok (.ireturn, 1) := by decide +kernel
theorem dX7_freeze_0 : decode cX7_freeze 0 = .ok (.aload_n 0, 1) := by decide +kernel
theorem dX7_freeze_1 : decode cX7_freeze 1 = .ok (.aload_n 0, 1) := by decide +kernel
theorem dX7_freeze_2 : decode cX7_freeze 2 = .ok (.getfield 165, 3) := by decide +kernel
theorem dX7_freeze_5 : decode cX7_freeze 5 = .ok (.bipush 20, 2) := by decide +kernel
theorem dX7_freeze_7 : decode cX7_freeze 7 = .ok (.if_icmp .ge 7, 3) := by decide +kernel
theorem dX7_freeze_10 : decode cX7_freeze 10 = .ok (.iconst 1, 1) := by decide +kernel
theorem dX7_freeze_11 : decode cX7_freeze 11 = .ok (.goto 4, 3) := by decide +kernel
theorem dX7_freeze_14 : decode cX7_freeze 14 = .ok (.iconst 0, 1) := by decide +kernel
theorem dX7_freeze_15 : decode cX7_freeze 15 = .ok (.iconst 1, 1) := by decide +kernel
theorem dX7_freeze_16 : decode cX7_freeze 16 = .ok (.iconst 1, 1) := by decide +kernel
theorem dX7_freeze_17 : decode cX7_freeze 17 = .ok (.invokevirtual 100, 3) := by decide +kernel
theorem dX7_freeze_20 : decode cX7_freeze 20 = .ok (.ifCond .ne 5, 3) := by decide +kernel
theorem dX7_freeze_23 : decode cX7_freeze 23 = .ok (.iconst 0, 1) := by decide +kernel
theorem dX7_freeze_24 : decode cX7_freeze 24 = .ok (.ireturn, 1) := by decide +kernel
theorem dX7_freeze_25 : decode cX7_freeze 25 = .ok (.iconst 0, 1) := by decide +kernel
theorem dX7_freeze_26 : decode cX7_freeze 26 = .ok (.istore_n 1, 1) := by decide +kernel
theorem dX7_freeze_27 : decode cX7_freeze 27 = .ok (.iload_n 1, 1) := by decide +kernel
theorem dX7_freeze_28 : decode cX7_freeze 28 = .ok (.aload_n 0, 1) := by decide +kernel
theorem dX7_freeze_29 : decode cX7_freeze 29 = .ok (.getfield 90, 3) := by decide +kernel
theorem dX7_freeze_32 : decode cX7_freeze 32 = .ok (.if_icmp .ge 28, 3) := by decide +kernel
theorem dX7_freeze_35 : decode cX7_freeze 35 = .ok (.aload_n 0, 1) := by decide +kernel
theorem dX7_freeze_36 : decode cX7_freeze 36 = .ok (.getfield 76, 3) := by decide +kernel
theorem dX7_freeze_39 : decode cX7_freeze 39 = .ok (.bipush 8, 2) := by decide +kernel
theorem dX7_freeze_41 : decode cX7_freeze 41 = .ok (.aload_n 0, 1) := by decide +kernel
theorem dX7_freeze_42 : decode cX7_freeze 42 = .ok (.getfield 165, 3) := by decide +kernel
theorem dX7_freeze_45 : decode cX7_freeze 45 = .ok (.imul, 1) := by decide +kernel
theorem dX7_freeze_46 : decode cX7_freeze 46 = .ok (.iload_n 1, 1) := by decide +kernel
theorem dX7_freeze_47 : decode cX7_freeze 47 = .ok (.iadd, 1) := by decide +kernel
theorem dX7_freeze_48 : decode cX7_freeze 48 = .ok (.aload_n 0, 1) := by decide +kernel
theorem dX7_freeze_49 : decode cX7_freeze 49 = .ok (.iload_n 1, 1) := by decide +kernel
theorem dX7_freeze_50 : decode cX7_freeze 50 = .ok (.invokevirtual 162, 3) := by decide +kernel
theorem dX7_freeze_53 : decode cX7_freeze 53 = .ok (.iastore, 1) := by decide +kernel
theorem dX7_freeze_54 : decode cX7_freeze 54 = .ok (.iinc 1 1, 3) := by decide +kernel
theorem dX7_freeze_57 : decode cX7_freeze 57 = .ok (.goto (-30), 3) := by decide +kernel
theorem dX7_freeze_60 : decode cX7_freeze 60 = .ok (.aload_n 0, 1) := by decide +kernel
theorem dX7_freeze_61 : decode cX7_freeze 61 = .ok (.dup, 1) := by decide +kernel
theorem dX7_freeze_62 : decode cX7_freeze 62 = .ok (.getfield 165, 3) := by decide +kernel
theorem dX7_freeze_65 : decode cX7_freeze 65 = .ok (.iconst 1, 1) := by decide +kernel
theorem dX7_freeze_66 : decode cX7_freeze 66 = .ok (.iadd, 1) := by decide +kernel
theorem dX7_freeze_67 : decode cX7_freeze 67 = .ok (.putfield 165, 3) := by decide +kernel
theorem dX7_freeze_70 : decode cX7_freeze 70 = .ok (.aload_n 0, 1) := by decide +kernel
theorem dX7_freeze_71 : decode cX7_freeze 71 = .ok (.getfield 165, 3) := by decide +kernel
theorem dX7_freeze_74 : decode cX7_freeze 74 = .ok (.iconst 1, 1) := by decide +kernel
theorem dX7_freeze_75 : decode cX7_freeze 75 = .ok (.isub, 1) := by decide +kernel
theorem dX7_freeze_76 : decode cX7_freeze 76 = .ok (.ireturn, 1) := by decide +kernel
theorem dX7_since_0 : decode cX7_since 0 = .ok (.aload_n 0, 1) := by decide +kernel
theorem dX7_since_1 : decode cX7_since 1 = .ok (.iload_n 1, 1) := by decide +kernel
theorem dX7_since_2 : decode cX7_since 2 = .ok (.iconst 0, 1) := by decide +kernel
theorem dX7_since_3 : decode cX7_since 3 = .ok (.aload_n 0, 1) := by decide +kernel
theorem dX7_since_4 : decode cX7_since 4 = .ok (.getfield 165, 3) := by decide +kernel
theorem dX7_since_7 : decode cX7_since 7 = .ok (.iconst 1, 1) := by decide +kernel
theorem dX7_since_8 : decode cX7_since 8 = .ok (.isub, 1) := by decide +kernel
theorem dX7_since_9 : decode cX7_since 9 = .ok (.invokestatic 86, 3) := by decide +kernel
theorem dX7_since_12 : decode cX7_since 12 = .ok (.ifCond .eq 15, 3) := by decide +kernel
theorem dX7_since_15 : decode cX7_since 15 = .ok (.aload_n 0, 1) := by decide +kernel
theorem dX7_since_16 : decode cX7_since 16 = .ok (.iload_n 2, 1) := by decide +kernel
theorem dX7_since_17 : decode cX7_since 17 = .ok (.invokevirtual 122, 3) := by decide +kernel
theorem dX7_since_20 : decode cX7_since 20 = .ok (.ifCond .eq 7, 3) := by decide +kernel
theorem dX7_since_23 : decode cX7_since 23 = .ok (.iconst 1, 1) := by decide +kernel
theorem dX7_since_24 : decode cX7_since 24 = .ok (.goto 4, 3) := by decide +kernel
theorem dX7_since_27 : decode cX7_since 27 = .ok (.iconst 0, 1) := by decide +kernel
theorem dX7_since_28 : decode cX7_since 28 = .ok (.iconst 1, 1) := by decide +kernel
theorem dX7_since_29 : decode cX7_since 29 = .ok (.iconst 1, 1) := by decide +kernel
theorem dX7_since_30 : decode cX7_since 30 = .ok (.invokevirtual 100, 3) := by decide +kernel
theorem dX7_since_33 : decode cX7_since 33 = .ok (.ifCond .eq 23, 3) := by decide +kernel
theorem dX7_since_36 : decode cX7_since 36 = .ok (.aload_n 0, 1) := by decide +kernel
theorem dX7_since_37 : decode cX7_since 37 = .ok (.iload_n 2, 1) := by decide +kernel
theorem dX7_since_38 : decode cX7_since 38 = .ok (.invokevirtual 162, 3) := by decide +kernel
theorem dX7_since_41 : decode cX7_since 41 = .ok (.aload_n 0, 1) := by decide +kernel
theorem dX7_since_42 : decode cX7_since 42 = .ok (.getfield 76, 3) := by decide +kernel
theorem dX7_since_45 : decode cX7_since 45 = .ok (.bipush 8, 2) := by decide +kernel
theorem dX7_since_47 : decode cX7_since 47 = .ok (.iload_n 1, 1) := by decide +kernel
theorem dX7_since_48 : decode cX7_since 48 = .ok (.imul, 1) := by decide +kernel
theorem dX7_since_49 : decode cX7_since 49 = .ok (.iload_n 2, 1) := by decide +kernel
theorem dX7_since_50 : decode cX7_since 50 = .ok (.iadd, 1) := by decide +kernel
theorem dX7_since_51 : decode cX7_since 51 = .ok (.iaload, 1) := by decide +kernel
theorem dX7_since_52 : decode cX7_since 52 = .ok (.isub, 1) := by decide +kernel
theorem dX7_since_53 : decode cX7_since 53 = .ok (.goto 4, 3) := by decide +kernel
theorem dX7_since_56 : decode cX7_since 56 = .ok (.iconst 0, 1) := by decide +kernel
theorem dX7_since_57 : decode cX7_since 57 = .ok (.ireturn, 1) := by decide +kernel
theorem dJxa1e45_init_da8c8_0 : decode cJxa1e45_init_da8c8 0 = .ok (.aload_n 0, 1) := by decide +kernel
theorem dJxa1e45_init_da8c8_1 : decode cJxa1e45_init_da8c8 1 = .ok (.invokespecial 1, 3) := by decide +kernel
theorem dJxa1e45_init_da8c8_4 : decode cJxa1e45_init_da8c8 4 = .ok (.return_, 1) := by decide +kernel
theorem dJxc12de_init_da8c8_0 : decode cJxc12de_init_da8c8 0 = .ok (.aload_n 0, 1) := by decide +kernel
theorem dJxc12de_init_da8c8_1 : decode cJxc12de_init_da8c8 1 = .ok (.invokespecial 1, 3) := by decide +kernel
theorem dJxc12de_init_da8c8_4 : decode cJxc12de_init_da8c8 4 = .ok (.aload_n 0, 1) := by decide +kernel
theorem dJxc12de_init_da8c8_5 : decode cJxc12de_init_da8c8 5 = .ok (.iconst 0, 1) := by decide +kernel
theorem dJxc12de_init_da8c8_6 : decode cJxc12de_init_da8c8 6 = .ok (.putfield 7, 3) := by decide +kernel
theorem dJxc12de_init_da8c8_9 : decode cJxc12de_init_da8c8 9 = .ok (.return_, 1) := by decide +kernel
theorem dJx4a65c_init_da8c8_0 : decode cJx4a65c_init_da8c8 0 = .ok (.aload_n 0, 1) := by decide +kernel
theorem dJx4a65c_init_da8c8_1 : decode cJx4a65c_init_da8c8 1 = .ok (.invokespecial 1, 3) := by decide +kernel
theorem dJx4a65c_init_da8c8_4 : decode cJx4a65c_init_da8c8 4 = .ok (.aload_n 0, 1) := by decide +kernel
theorem dJx4a65c_init_da8c8_5 : decode cJx4a65c_init_da8c8 5 = .ok (.getstatic 39, 3) := by decide +kernel
theorem dJx4a65c_init_da8c8_8 : decode cJx4a65c_init_da8c8 8 = .ok (.putfield 9, 3) := by decide +kernel
theorem dJx4a65c_init_da8c8_11 : decode cJx4a65c_init_da8c8 11 = .ok (.return_, 1) := by decide +kernel
theorem dJx4a65c_grow_92f84_0 : decode cJx4a65c_grow_92f84 0 = .ok (.aload_n 0, 1) := by decide +kernel
theorem dJx4a65c_grow_92f84_1 : decode cJx4a65c_grow_92f84 1 = .ok (.getfield 9, 3) := by decide +kernel
theorem dJx4a65c_grow_92f84_4 : decode cJx4a65c_grow_92f84 4 = .ok (.arraylength, 1) := by decide +kernel
theorem dJx4a65c_grow_92f84_5 : decode cJx4a65c_grow_92f84 5 = .ok (.istore_n 2, 1) := by decide +kernel
theorem dJx4a65c_grow_92f84_6 : decode cJx4a65c_grow_92f84 6 = .ok (.iload_n 2, 1) := by decide +kernel
theorem dJx4a65c_grow_92f84_7 : decode cJx4a65c_grow_92f84 7 = .ok (.ifCond .gt 13, 3) := by decide +kernel
theorem dJx4a65c_grow_92f84_10 : decode cJx4a65c_grow_92f84 10 = .ok (.aload_n 0, 1) := by decide +kernel
theorem dJx4a65c_grow_92f84_11 : decode cJx4a65c_grow_92f84 11 = .ok (.getfield 9, 3) := by decide +kernel
theorem dJx4a65c_grow_92f84_14 : decode cJx4a65c_grow_92f84 14 = .ok (.getstatic 39, 3) := by decide +kernel
theorem dJx4a65c_grow_92f84_17 : decode cJx4a65c_grow_92f84 17 = .ok (.if_acmp .eq 28, 3) := by decide +kernel
theorem dJx4a65c_grow_92f84_20 : decode cJx4a65c_grow_92f84 20 = .ok (.iload_n 2, 1) := by decide +kernel
theorem dJx4a65c_grow_92f84_21 : decode cJx4a65c_grow_92f84 21 = .ok (.iload_n 1, 1) := by decide +kernel
theorem dJx4a65c_grow_92f84_22 : decode cJx4a65c_grow_92f84 22 = .ok (.iload_n 2, 1) := by decide +kernel
theorem dJx4a65c_grow_92f84_23 : decode cJx4a65c_grow_92f84 23 = .ok (.isub, 1) := by decide +kernel
theorem dJx4a65c_grow_92f84_24 : decode cJx4a65c_grow_92f84 24 = .ok (.iload_n 2, 1) := by decide +kernel
theorem dJx4a65c_grow_92f84_25 : decode cJx4a65c_grow_92f84 25 = .ok (.iconst 1, 1) := by decide +kernel
theorem dJx4a65c_grow_92f84_26 : decode cJx4a65c_grow_92f84 26 = .ok (.ishr, 1) := by decide +kernel
theorem dJx4a65c_grow_92f84_27 : decode cJx4a65c_grow_92f84 27 = .ok (.invokestatic 73, 3) := by decide +kernel
theorem dJx4a65c_grow_92f84_30 : decode cJx4a65c_grow_92f84 30 = .ok (.istore_n 3, 1) := by decide +kernel
theorem dJx4a65c_grow_92f84_31 : decode cJx4a65c_grow_92f84 31 = .ok (.aload_n 0, 1) := by decide +kernel
theorem dJx4a65c_grow_92f84_32 : decode cJx4a65c_grow_92f84 32 = .ok (.aload_n 0, 1) := by decide +kernel
theorem dJx4a65c_grow_92f84_33 : decode cJx4a65c_grow_92f84 33 = .ok (.getfield 9, 3) := by decide +kernel
theorem dJx4a65c_grow_92f84_36 : decode cJx4a65c_grow_92f84 36 = .ok (.iload_n 3, 1) := by decide +kernel
theorem dJx4a65c_grow_92f84_37 : decode cJx4a65c_grow_92f84 37 = .ok (.invokestatic 66, 3) := by decide +kernel
theorem dJx4a65c_grow_92f84_40 : decode cJx4a65c_grow_92f84 40 = .ok (.dup_x1, 1) := by decide +kernel
theorem dJx4a65c_grow_92f84_41 : decode cJx4a65c_grow_92f84 41 = .ok (.putfield 9, 3) := by decide +kernel
theorem dJx4a65c_grow_92f84_44 : decode cJx4a65c_grow_92f84 44 = .ok (.areturn, 1) := by decide +kernel
theorem dJx4a65c_grow_92f84_45 : decode cJx4a65c_grow_92f84 45 = .ok (.aload_n 0, 1) := by decide +kernel
theorem dJx4a65c_grow_92f84_46 : decode cJx4a65c_grow_92f84 46 = .ok (.bipush 10, 2) := by decide +kernel
theorem dJx4a65c_grow_92f84_48 : decode cJx4a65c_grow_92f84 48 = .ok (.iload_n 1, 1) := by decide +kernel
theorem dJx4a65c_grow_92f84_49 : decode cJx4a65c_grow_92f84 49 = .ok (.invokestatic 79, 3) := by decide +kernel
theorem dJx4a65c_grow_92f84_52 : decode cJx4a65c_grow_92f84 52 = .ok (.anewarray 7, 3) := by decide +kernel
theorem dJx4a65c_grow_92f84_55 : decode cJx4a65c_grow_92f84 55 = .ok (.dup_x1, 1) := by decide +kernel
theorem dJx4a65c_grow_92f84_56 : decode cJx4a65c_grow_92f84 56 = .ok (.putfield 9, 3) := by decide +kernel
theorem dJx4a65c_grow_92f84_59 : decode cJx4a65c_grow_92f84 59 = .ok (.areturn, 1) := by decide +kernel
theorem dJx4a65c_grow_d5877_0 : decode cJx4a65c_grow_d5877 0 = .ok (.aload_n 0, 1) := by decide +kernel
theorem dJx4a65c_grow_d5877_1 : decode cJx4a65c_grow_d5877 1 = .ok (.aload_n 0, 1) := by decide +kernel
theorem dJx4a65c_grow_d5877_2 : decode cJx4a65c_grow_d5877 2 = .ok (.getfield 48, 3) := by decide +kernel
theorem dJx4a65c_grow_d5877_5 : decode cJx4a65c_grow_d5877 5 = .ok (.iconst 1, 1) := by decide +kernel
theorem dJx4a65c_grow_d5877_6 : decode cJx4a65c_grow_d5877 6 = .ok (.iadd, 1) := by decide +kernel
theorem dJx4a65c_grow_d5877_7 : decode cJx4a65c_grow_d5877 7 = .ok (.invokevirtual 69, 3) := by decide +kernel
theorem dJx4a65c_grow_d5877_10 : decode cJx4a65c_grow_d5877 10 = .ok (.areturn, 1) := by decide +kernel
theorem dJx4a65c_size_8abf5_0 : decode cJx4a65c_size_8abf5 0 = .ok (.aload_n 0, 1) := by decide +kernel
theorem dJx4a65c_size_8abf5_1 : decode cJx4a65c_size_8abf5 1 = .ok (.getfield 48, 3) := by decide +kernel
theorem dJx4a65c_size_8abf5_4 : decode cJx4a65c_size_8abf5 4 = .ok (.ireturn, 1) := by decide +kernel
theorem dJx4a65c_elementData_915e3_0 : decode cJx4a65c_elementData_915e3 0 = .ok (.aload_n 0, 1) := by decide +kernel
theorem dJx4a65c_elementData_915e3_1 : decode cJx4a65c_elementData_915e3 1 = .ok (.getfield 9, 3) := by decide +kernel
theorem dJx4a65c_elementData_915e3_4 : decode cJx4a65c_elementData_915e3 4 = .ok (.iload_n 1, 1) := by decide +kernel
theorem dJx4a65c_elementData_915e3_5 : decode cJx4a65c_elementData_915e3 5 = .ok (.aaload, 1) := by decide +kernel
theorem dJx4a65c_elementData_915e3_6 : decode cJx4a65c_elementData_915e3 6 = .ok (.areturn, 1) := by decide +kernel
theorem dJx4a65c_get_915e3_0 : decode cJx4a65c_get_915e3 0 = .ok (.iload_n 1, 1) := by decide +kernel
theorem dJx4a65c_get_915e3_1 : decode cJx4a65c_get_915e3 1 = .ok (.aload_n 0, 1) := by decide +kernel
theorem dJx4a65c_get_915e3_2 : decode cJx4a65c_get_915e3 2 = .ok (.getfield 48, 3) := by decide +kernel
theorem dJx4a65c_get_915e3_5 : decode cJx4a65c_get_915e3 5 = .ok (.invokestatic 118, 3) := by decide +kernel
theorem dJx4a65c_get_915e3_8 : decode cJx4a65c_get_915e3 8 = .ok (.pop, 1) := by decide +kernel
theorem dJx4a65c_get_915e3_9 : decode cJx4a65c_get_915e3 9 = .ok (.aload_n 0, 1) := by decide +kernel
theorem dJx4a65c_get_915e3_10 : decode cJx4a65c_get_915e3 10 = .ok (.iload_n 1, 1) := by decide +kernel
theorem dJx4a65c_get_915e3_11 : decode cJx4a65c_get_915e3 11 = .ok (.invokevirtual 123, 3) := by decide +kernel
theorem dJx4a65c_get_915e3_14 : decode cJx4a65c_get_915e3 14 = .ok (.areturn, 1) := by decide +kernel
theorem dJx4a65c_add_72be8_0 : decode cJx4a65c_add_72be8 0 = .ok (.iload_n 3, 1) := by decide +kernel
theorem dJx4a65c_add_72be8_1 : decode cJx4a65c_add_72be8 1 = .ok (.aload_n 2, 1) := by decide +kernel
theorem dJx4a65c_add_72be8_2 : decode cJx4a65c_add_72be8 2 = .ok (.arraylength, 1) := by decide +kernel
theorem dJx4a65c_add_72be8_3 : decode cJx4a65c_add_72be8 3 = .ok (.if_icmp .ne 8, 3) := by decide +kernel
theorem dJx4a65c_add_72be8_6 : decode cJx4a65c_add_72be8 6 = .ok (.aload_n 0, 1) := by decide +kernel
theorem dJx4a65c_add_72be8_7 : decode cJx4a65c_add_72be8 7 = .ok (.invokevirtual 129, 3) := by decide +kernel
theorem dJx4a65c_add_72be8_10 : decode cJx4a65c_add_72be8 10 = .ok (.astore_n 2, 1) := by decide +kernel
theorem dJx4a65c_add_72be8_11 : decode cJx4a65c_add_72be8 11 = .ok (.aload_n 2, 1) := by decide +kernel
theorem dJx4a65c_add_72be8_12 : decode cJx4a65c_add_72be8 12 = .ok (.iload_n 3, 1) := by decide +kernel
theorem dJx4a65c_add_72be8_13 : decode cJx4a65c_add_72be8 13 = .ok (.aload_n 1, 1) := by decide +kernel
theorem dJx4a65c_add_72be8_14 : decode cJx4a65c_add_72be8 14 = .ok (.aastore, 1) := by decide +kernel
theorem dJx4a65c_add_72be8_15 : decode cJx4a65c_add_72be8 15 = .ok (.aload_n 0, 1) := by decide +kernel
theorem dJx4a65c_add_72be8_16 : decode cJx4a65c_add_72be8 16 = .ok (.iload_n 3, 1) := by decide +kernel
theorem dJx4a65c_add_72be8_17 : decode cJx4a65c_add_72be8 17 = .ok (.iconst 1, 1) := by decide +kernel
theorem dJx4a65c_add_72be8_18 : decode cJx4a65c_add_72be8 18 = .ok (.iadd, 1) := by decide +kernel
theorem dJx4a65c_add_72be8_19 : decode cJx4a65c_add_72be8 19 = .ok (.putfield 48, 3) := by decide +kernel
theorem dJx4a65c_add_72be8_22 : decode cJx4a65c_add_72be8 22 = .ok (.return_, 1) := by decide +kernel
theorem dJx4a65c_add_9ea2d_0 : decode cJx4a65c_add_9ea2d 0 = .ok (.aload_n 0, 1) := by decide +kernel
theorem dJx4a65c_add_9ea2d_1 : decode cJx4a65c_add_9ea2d 1 = .ok (.dup, 1) := by decide +kernel
theorem dJx4a65c_add_9ea2d_2 : decode cJx4a65c_add_9ea2d 2 = .ok (.getfield 63, 3) := by decide +kernel
theorem dJx4a65c_add_9ea2d_5 : decode cJx4a65c_add_9ea2d 5 = .ok (.iconst 1, 1) := by decide +kernel
theorem dJx4a65c_add_9ea2d_6 : decode cJx4a65c_add_9ea2d 6 = .ok (.iadd, 1) := by decide +kernel
theorem dJx4a65c_add_9ea2d_7 : decode cJx4a65c_add_9ea2d 7 = .ok (.putfield 63, 3) := by decide +kernel
theorem dJx4a65c_add_9ea2d_10 : decode cJx4a65c_add_9ea2d 10 = .ok (.aload_n 0, 1) := by decide +kernel
theorem dJx4a65c_add_9ea2d_11 : decode cJx4a65c_add_9ea2d 11 = .ok (.aload_n 1, 1) := by decide +kernel
theorem dJx4a65c_add_9ea2d_12 : decode cJx4a65c_add_9ea2d 12 = .ok (.aload_n 0, 1) := by decide +kernel
theorem dJx4a65c_add_9ea2d_13 : decode cJx4a65c_add_9ea2d 13 = .ok (.getfield 9, 3) := by decide +kernel
theorem dJx4a65c_add_9ea2d_16 : decode cJx4a65c_add_9ea2d 16 = .ok (.aload_n 0, 1) := by decide +kernel
theorem dJx4a65c_add_9ea2d_17 : decode cJx4a65c_add_9ea2d 17 = .ok (.getfield 48, 3) := by decide +kernel
theorem dJx4a65c_add_9ea2d_20 : decode cJx4a65c_add_9ea2d 20 = .ok (.invokevirtual 131, 3) := by decide +kernel
theorem dJx4a65c_add_9ea2d_23 : decode cJx4a65c_add_9ea2d 23 = .ok (.iconst 1, 1) := by decide +kernel
theorem dJx4a65c_add_9ea2d_24 : decode cJx4a65c_add_9ea2d 24 = .ok (.ireturn, 1) := by decide +kernel
theorem dJx4a65c_add_7a177_0 : decode cJx4a65c_add_7a177 0 = .ok (.aload_n 0, 1) := by decide +kernel
theorem dJx4a65c_add_7a177_1 : decode cJx4a65c_add_7a177 1 = .ok (.iload_n 1, 1) := by decide +kernel
theorem dJx4a65c_add_7a177_2 : decode cJx4a65c_add_7a177 2 = .ok (.invokevirtual 135, 3) := by decide +kernel
theorem dJx4a65c_add_7a177_5 : decode cJx4a65c_add_7a177 5 = .ok (.aload_n 0, 1) := by decide +kernel
theorem dJx4a65c_add_7a177_6 : decode cJx4a65c_add_7a177 6 = .ok (.dup, 1) := by decide +kernel
theorem dJx4a65c_add_7a177_7 : decode cJx4a65c_add_7a177 7 = .ok (.getfield 63, 3) := by decide +kernel
theorem dJx4a65c_add_7a177_10 : decode cJx4a65c_add_7a177 10 = .ok (.iconst 1, 1) := by decide +kernel
theorem dJx4a65c_add_7a177_11 : decode cJx4a65c_add_7a177 11 = .ok (.iadd, 1) := by decide +kernel
theorem dJx4a65c_add_7a177_12 : decode cJx4a65c_add_7a177 12 = .ok (.putfield 63, 3) := by decide +kernel
theorem dJx4a65c_add_7a177_15 : decode cJx4a65c_add_7a177 15 = .ok (.aload_n 0, 1) := by decide +kernel
theorem dJx4a65c_add_7a177_16 : decode cJx4a65c_add_7a177 16 = .ok (.getfield 48, 3) := by decide +kernel
theorem dJx4a65c_add_7a177_19 : decode cJx4a65c_add_7a177 19 = .ok (.dup, 1) := by decide +kernel
theorem dJx4a65c_add_7a177_20 : decode cJx4a65c_add_7a177 20 = .ok (.istore_n 3, 1) := by decide +kernel
theorem dJx4a65c_add_7a177_21 : decode cJx4a65c_add_7a177 21 = .ok (.aload_n 0, 1) := by decide +kernel
theorem dJx4a65c_add_7a177_22 : decode cJx4a65c_add_7a177 22 = .ok (.getfield 9, 3) := by decide +kernel
theorem dJx4a65c_add_7a177_25 : decode cJx4a65c_add_7a177 25 = .ok (.dup, 1) := by decide +kernel
theorem dJx4a65c_add_7a177_26 : decode cJx4a65c_add_7a177 26 = .ok (.astore 4, 2) := by decide +kernel
theorem dJx4a65c_add_7a177_28 : decode cJx4a65c_add_7a177 28 = .ok (.arraylength, 1) := by decide +kernel
theorem dJx4a65c_add_7a177_29 : decode cJx4a65c_add_7a177 29 = .ok (.if_icmp .ne 9, 3) := by decide +kernel
theorem dJx4a65c_add_7a177_32 : decode cJx4a65c_add_7a177 32 = .ok (.aload_n 0, 1) := by decide +kernel
theorem dJx4a65c_add_7a177_33 : decode cJx4a65c_add_7a177 33 = .ok (.invokevirtual 129, 3) := by decide +kernel
theorem dJx4a65c_add_7a177_36 : decode cJx4a65c_add_7a177 36 = .ok (.astore 4, 2) := by decide +kernel
theorem dJx4a65c_add_7a177_38 : decode cJx4a65c_add_7a177 38 = .ok (.aload 4, 2) := by decide +kernel
theorem dJx4a65c_add_7a177_40 : decode cJx4a65c_add_7a177 40 = .ok (.iload_n 1, 1) := by decide +kernel
theorem dJx4a65c_add_7a177_41 : decode cJx4a65c_add_7a177 41 = .ok (.aload 4, 2) := by decide +kernel
theorem dJx4a65c_add_7a177_43 : decode cJx4a65c_add_7a177 43 = .ok (.iload_n 1, 1) := by decide +kernel
theorem dJx4a65c_add_7a177_44 : decode cJx4a65c_add_7a177 44 = .ok (.iconst 1, 1) := by decide +kernel
theorem dJx4a65c_add_7a177_45 : decode cJx4a65c_add_7a177 45 = .ok (.iadd, 1) := by decide +kernel
theorem dJx4a65c_add_7a177_46 : decode cJx4a65c_add_7a177 46 = .ok (.iload_n 3, 1) := by decide +kernel
theorem dJx4a65c_add_7a177_47 : decode cJx4a65c_add_7a177 47 = .ok (.iload_n 1, 1) := by decide +kernel
theorem dJx4a65c_add_7a177_48 : decode cJx4a65c_add_7a177 48 = .ok (.isub, 1) := by decide +kernel
theorem dJx4a65c_add_7a177_49 : decode cJx4a65c_add_7a177 49 = .ok (.invokestatic 112, 3) := by decide +kernel
theorem dJx4a65c_add_7a177_52 : decode cJx4a65c_add_7a177 52 = .ok (.aload 4, 2) := by decide +kernel
theorem dJx4a65c_add_7a177_54 : decode cJx4a65c_add_7a177 54 = .ok (.iload_n 1, 1) := by decide +kernel
theorem dJx4a65c_add_7a177_55 : decode cJx4a65c_add_7a177 55 = .ok (.aload_n 2, 1) := by decide +kernel
theorem dJx4a65c_add_7a177_56 : decode cJx4a65c_add_7a177 56 = .ok (.aastore, 1) := by decide +kernel
theorem dJx4a65c_add_7a177_57 : decode cJx4a65c_add_7a177 57 = .ok (.aload_n 0, 1) := by decide +kernel
theorem dJx4a65c_add_7a177_58 : decode cJx4a65c_add_7a177 58 = .ok (.iload_n 3, 1) := by decide +kernel
theorem dJx4a65c_add_7a177_59 : decode cJx4a65c_add_7a177 59 = .ok (.iconst 1, 1) := by decide +kernel
theorem dJx4a65c_add_7a177_60 : decode cJx4a65c_add_7a177 60 = .ok (.iadd, 1) := by decide +kernel
theorem dJx4a65c_add_7a177_61 : decode cJx4a65c_add_7a177 61 = .ok (.putfield 48, 3) := by decide +kernel
theorem dJx4a65c_add_7a177_64 : decode cJx4a65c_add_7a177 64 = .ok (.return_, 1) := by decide +kernel
theorem dJx4a65c_remove_915e3_0 : decode cJx4a65c_remove_915e3 0 = .ok (.iload_n 1, 1) := by decide +kernel
theorem dJx4a65c_remove_915e3_1 : decode cJx4a65c_remove_915e3 1 = .ok (.aload_n 0, 1) := by decide +kernel
theorem dJx4a65c_remove_915e3_2 : decode cJx4a65c_remove_915e3 2 = .ok (.getfield 48, 3) := by decide +kernel
theorem dJx4a65c_remove_915e3_5 : decode cJx4a65c_remove_915e3 5 = .ok (.invokestatic 118, 3) := by decide +kernel
theorem dJx4a65c_remove_915e3_8 : decode cJx4a65c_remove_915e3 8 = .ok (.pop, 1) := by decide +kernel
theorem dJx4a65c_remove_915e3_9 : decode cJx4a65c_remove_915e3 9 = .ok (.aload_n 0, 1) := by decide +kernel
theorem dJx4a65c_remove_915e3_10 : decode cJx4a65c_remove_915e3 10 = .ok (.getfield 9, 3) := by decide +kernel
theorem dJx4a65c_remove_915e3_13 : decode cJx4a65c_remove_915e3 13 = .ok (.astore_n 2, 1) := by decide +kernel
theorem dJx4a65c_remove_915e3_14 : decode cJx4a65c_remove_915e3 14 = .ok (.aload_n 2, 1) := by decide +kernel
theorem dJx4a65c_remove_915e3_15 : decode cJx4a65c_remove_915e3 15 = .ok (.iload_n 1, 1) := by decide +kernel
theorem dJx4a65c_remove_915e3_16 : decode cJx4a65c_remove_915e3 16 = .ok (.aaload, 1) := by decide +kernel
theorem dJx4a65c_remove_915e3_17 : decode cJx4a65c_remove_915e3 17 = .ok (.astore_n 3, 1) := by decide +kernel
theorem dJx4a65c_remove_915e3_18 : decode cJx4a65c_remove_915e3 18 = .ok (.aload_n 0, 1) := by decide +kernel
theorem dJx4a65c_remove_915e3_19 : decode cJx4a65c_remove_915e3 19 = .ok (.aload_n 2, 1) := by decide +kernel
theorem dJx4a65c_remove_915e3_20 : decode cJx4a65c_remove_915e3 20 = .ok (.iload_n 1, 1) := by decide +kernel
theorem dJx4a65c_remove_915e3_21 : decode cJx4a65c_remove_915e3 21 = .ok (.invokevirtual 144, 3) := by decide +kernel
theorem dJx4a65c_remove_915e3_24 : decode cJx4a65c_remove_915e3 24 = .ok (.aload_n 3, 1) := by decide +kernel
theorem dJx4a65c_remove_915e3_25 : decode cJx4a65c_remove_915e3 25 = .ok (.areturn, 1) := by decide +kernel
theorem dJx4a65c_fastRemove_b59b0_0 : decode cJx4a65c_fastRemove_b59b0 0 = .ok (.aload_n 0, 1) := by decide +kernel
theorem dJx4a65c_fastRemove_b59b0_1 : decode cJx4a65c_fastRemove_b59b0 1 = .ok (.dup, 1) := by decide +kernel
theorem dJx4a65c_fastRemove_b59b0_2 : decode cJx4a65c_fastRemove_b59b0 2 = .ok (.getfield 63, 3) := by decide +kernel
theorem dJx4a65c_fastRemove_b59b0_5 : decode cJx4a65c_fastRemove_b59b0 5 = .ok (.iconst 1, 1) := by decide +kernel
theorem dJx4a65c_fastRemove_b59b0_6 : decode cJx4a65c_fastRemove_b59b0 6 = .ok (.iadd, 1) := by decide +kernel
theorem dJx4a65c_fastRemove_b59b0_7 : decode cJx4a65c_fastRemove_b59b0 7 = .ok (.putfield 63, 3) := by decide +kernel
theorem dJx4a65c_fastRemove_b59b0_10 : decode cJx4a65c_fastRemove_b59b0 10 = .ok (.aload_n 0, 1) := by decide +kernel
theorem dJx4a65c_fastRemove_b59b0_11 : decode cJx4a65c_fastRemove_b59b0 11 = .ok (.getfield 48, 3) := by decide +kernel
theorem dJx4a65c_fastRemove_b59b0_14 : decode cJx4a65c_fastRemove_b59b0 14 = .ok (.iconst 1, 1) := by decide +kernel
theorem dJx4a65c_fastRemove_b59b0_15 : decode cJx4a65c_fastRemove_b59b0 15 = .ok (.isub, 1) := by decide +kernel
theorem dJx4a65c_fastRemove_b59b0_16 : decode cJx4a65c_fastRemove_b59b0 16 = .ok (.dup, 1) := by decide +kernel
theorem dJx4a65c_fastRemove_b59b0_17 : decode cJx4a65c_fastRemove_b59b0 17 = .ok (.istore_n 3, 1) := by decide +kernel
theorem dJx4a65c_fastRemove_b59b0_18 : decode cJx4a65c_fastRemove_b59b0 18 = .ok (.iload_n 2, 1) := by decide +kernel
theorem dJx4a65c_fastRemove_b59b0_19 : decode cJx4a65c_fastRemove_b59b0 19 = .ok (.if_icmp .le 15, 3) := by decide +kernel
theorem dJx4a65c_fastRemove_b59b0_22 : decode cJx4a65c_fastRemove_b59b0 22 = .ok (.aload_n 1, 1) := by decide +kernel
theorem dJx4a65c_fastRemove_b59b0_23 : decode cJx4a65c_fastRemove_b59b0 23 = .ok (.iload_n 2, 1) := by decide +kernel
theorem dJx4a65c_fastRemove_b59b0_24 : decode cJx4a65c_fastRemove_b59b0 24 = .ok (.iconst 1, 1) := by decide +kernel
theorem dJx4a65c_fastRemove_b59b0_25 : decode cJx4a65c_fastRemove_b59b0 25 = .ok (.iadd, 1) := by decide +kernel
theorem dJx4a65c_fastRemove_b59b0_26 : decode cJx4a65c_fastRemove_b59b0 26 = .ok (.aload_n 1, 1) := by decide +kernel
theorem dJx4a65c_fastRemove_b59b0_27 : decode cJx4a65c_fastRemove_b59b0 27 = .ok (.iload_n 2, 1) := by decide +kernel
theorem dJx4a65c_fastRemove_b59b0_28 : decode cJx4a65c_fastRemove_b59b0 28 = .ok (.iload_n 3, 1) := by decide +kernel
theorem dJx4a65c_fastRemove_b59b0_29 : decode cJx4a65c_fastRemove_b59b0 29 = .ok (.iload_n 2, 1) := by decide +kernel
theorem dJx4a65c_fastRemove_b59b0_30 : decode cJx4a65c_fastRemove_b59b0 30 = .ok (.isub, 1) := by decide +kernel
theorem dJx4a65c_fastRemove_b59b0_31 : decode cJx4a65c_fastRemove_b59b0 31 = .ok (.invokestatic 112, 3) := by decide +kernel
theorem dJx4a65c_fastRemove_b59b0_34 : decode cJx4a65c_fastRemove_b59b0 34 = .ok (.aload_n 1, 1) := by decide +kernel
theorem dJx4a65c_fastRemove_b59b0_35 : decode cJx4a65c_fastRemove_b59b0 35 = .ok (.aload_n 0, 1) := by decide +kernel
theorem dJx4a65c_fastRemove_b59b0_36 : decode cJx4a65c_fastRemove_b59b0 36 = .ok (.iload_n 3, 1) := by decide +kernel
theorem dJx4a65c_fastRemove_b59b0_37 : decode cJx4a65c_fastRemove_b59b0 37 = .ok (.dup_x1, 1) := by decide +kernel
theorem dJx4a65c_fastRemove_b59b0_38 : decode cJx4a65c_fastRemove_b59b0 38 = .ok (.putfield 48, 3) := by decide +kernel
theorem dJx4a65c_fastRemove_b59b0_41 : decode cJx4a65c_fastRemove_b59b0 41 = .ok (.aconst_null, 1) := by decide +kernel
theorem dJx4a65c_fastRemove_b59b0_42 : decode cJx4a65c_fastRemove_b59b0 42 = .ok (.aastore, 1) := by decide +kernel
theorem dJx4a65c_fastRemove_b59b0_43 : decode cJx4a65c_fastRemove_b59b0 43 = .ok (.return_, 1) := by decide +kernel
theorem dJx4a65c_rangeCheckForAdd_d00df_0 : decode cJx4a65c_rangeCheckForAdd_d00df 0 = .ok (.iload_n 1, 1) := by decide +kernel
theorem dJx4a65c_rangeCheckForAdd_d00df_1 : decode cJx4a65c_rangeCheckForAdd_d00df 1 = .ok (.aload_n 0, 1) := by decide +kernel
theorem dJx4a65c_rangeCheckForAdd_d00df_2 : decode cJx4a65c_rangeCheckForAdd_d00df 2 = .ok (.getfield 48, 3) := by decide +kernel
theorem dJx4a65c_rangeCheckForAdd_d00df_5 : decode cJx4a65c_rangeCheckForAdd_d00df 5 = .ok (.if_icmp .gt 7, 3) := by decide +kernel
theorem dJx4a65c_rangeCheckForAdd_d00df_8 : decode cJx4a65c_rangeCheckForAdd_d00df 8 = .ok (.iload_n 1, 1) := by decide +kernel
theorem dJx4a65c_rangeCheckForAdd_d00df_9 : decode cJx4a65c_rangeCheckForAdd_d00df 9 = .ok (.ifCond .ge 16, 3) := by decide +kernel
theorem dJx4a65c_rangeCheckForAdd_d00df_12 : decode cJx4a65c_rangeCheckForAdd_d00df 12 = .ok (.new 187, 3) := by decide +kernel
theorem dJx4a65c_rangeCheckForAdd_d00df_15 : decode cJx4a65c_rangeCheckForAdd_d00df 15 = .ok (.dup, 1) := by decide +kernel
theorem dJx4a65c_rangeCheckForAdd_d00df_16 : decode cJx4a65c_rangeCheckForAdd_d00df 16 = .ok (.aload_n 0, 1) := by decide +kernel
theorem dJx4a65c_rangeCheckForAdd_d00df_17 : decode cJx4a65c_rangeCheckForAdd_d00df 17 = .ok (.iload_n 1, 1) := by decide +kernel
theorem dJx4a65c_rangeCheckForAdd_d00df_18 : decode cJx4a65c_rangeCheckForAdd_d00df 18 = .ok (.invokevirtual 198, 3) := by decide +kernel
theorem dJx4a65c_rangeCheckForAdd_d00df_21 : decode cJx4a65c_rangeCheckForAdd_d00df 21 = .ok (.invokespecial 193, 3) := by decide +kernel
theorem dJx4a65c_rangeCheckForAdd_d00df_24 : decode cJx4a65c_rangeCheckForAdd_d00df 24 = .ok (.athrow, 1) := by decide +kernel
theorem dJx4a65c_rangeCheckForAdd_d00df_25 : decode cJx4a65c_rangeCheckForAdd_d00df 25 = .ok (.return_, 1) := by decide +kernel
theorem dJ7_copyOf_1904c_0 : decode cJ7_copyOf_1904c 0 = .ok (.aload_n 0, 1) := by decide +kernel
theorem dJ7_copyOf_1904c_1 : decode cJ7_copyOf_1904c 1 = .ok (.iload_n 1, 1) := by decide +kernel
theorem dJ7_copyOf_1904c_2 : decode cJ7_copyOf_1904c 2 = .ok (.aload_n 0, 1) := by decide +kernel
theorem dJ7_copyOf_1904c_3 : decode cJ7_copyOf_1904c 3 = .ok (.invokevirtual 86, 3) := by decide +kernel
theorem dJ7_copyOf_1904c_6 : decode cJ7_copyOf_1904c 6 = .ok (.invokestatic 300, 3) := by decide +kernel
theorem dJ7_copyOf_1904c_9 : decode cJ7_copyOf_1904c 9 = .ok (.areturn, 1) := by decide +kernel
theorem dJ7_copyOf_6403c_0 : decode cJ7_copyOf_6403c 0 = .ok (.aload_n 2, 1) := by decide +kernel
theorem dJ7_copyOf_6403c_1 : decode cJ7_copyOf_6403c 1 = .ok (.ldc 110, 2) := by decide +kernel
theorem dJ7_copyOf_6403c_3 : decode cJ7_copyOf_6403c 3 = .ok (.if_acmp .ne 10, 3) := by decide +kernel
theorem dJ7_copyOf_6403c_6 : decode cJ7_copyOf_6403c 6 = .ok (.iload_n 1, 1) := by decide +kernel
theorem dJ7_copyOf_6403c_7 : decode cJ7_copyOf_6403c 7 = .ok (.anewarray 2, 3) := by decide +kernel
theorem dJ7_copyOf_6403c_10 : decode cJ7_copyOf_6403c 10 = .ok (.goto 14, 3) := by decide +kernel
theorem dJ7_copyOf_6403c_13 : decode cJ7_copyOf_6403c 13 = .ok (.aload_n 2, 1) := by decide +kernel
theorem dJ7_copyOf_6403c_14 : decode cJ7_copyOf_6403c 14 = .ok (.invokevirtual 90, 3) := by decide +kernel
theorem dJ7_copyOf_6403c_17 : decode cJ7_copyOf_6403c 17 = .ok (.iload_n 1, 1) := by decide +kernel
theorem dJ7_copyOf_6403c_18 : decode cJ7_copyOf_6403c 18 = .ok (.invokestatic 95, 3) := by decide +kernel
theorem dJ7_copyOf_6403c_21 : decode cJ7_copyOf_6403c 21 = .ok (.checkcast 110, 3) := by decide +kernel
theorem dJ7_copyOf_6403c_24 : decode cJ7_copyOf_6403c 24 = .ok (.astore_n 3, 1) := by decide +kernel
theorem dJ7_copyOf_6403c_25 : decode cJ7_copyOf_6403c 25 = .ok (.aload_n 0, 1) := by decide +kernel
theorem dJ7_copyOf_6403c_26 : decode cJ7_copyOf_6403c 26 = .ok (.iconst 0, 1) := by decide +kernel
theorem dJ7_copyOf_6403c_27 : decode cJ7_copyOf_6403c 27 = .ok (.aload_n 3, 1) := by decide +kernel
theorem dJ7_copyOf_6403c_28 : decode cJ7_copyOf_6403c 28 = .ok (.iconst 0, 1) := by decide +kernel
theorem dJ7_copyOf_6403c_29 : decode cJ7_copyOf_6403c 29 = .ok (.aload_n 0, 1) := by decide +kernel
theorem dJ7_copyOf_6403c_30 : decode cJ7_copyOf_6403c 30 = .ok (.arraylength, 1) := by decide +kernel
theorem dJ7_copyOf_6403c_31 : decode cJ7_copyOf_6403c 31 = .ok (.iload_n 1, 1) := by decide +kernel
theorem dJ7_copyOf_6403c_32 : decode cJ7_copyOf_6403c 32 = .ok (.invokestatic 304, 3) := by decide +kernel
theorem dJ7_copyOf_6403c_35 : decode cJ7_copyOf_6403c 35 = .ok (.invokestatic 150, 3) := by decide +kernel
theorem dJ7_copyOf_6403c_38 : decode cJ7_copyOf_6403c 38 = .ok (.aload_n 3, 1) := by decide +kernel
theorem dJ7_copyOf_6403c_39 : decode cJ7_copyOf_6403c 39 = .ok (.areturn, 1) := by decide +kernel
theorem dJ15_checkIndex_7cf53_0 : decode cJ15_checkIndex_7cf53 0 = .ok (.iload_n 0, 1) := by decide +kernel
theorem dJ15_checkIndex_7cf53_1 : decode cJ15_checkIndex_7cf53 1 = .ok (.iload_n 1, 1) := by decide +kernel
theorem dJ15_checkIndex_7cf53_2 : decode cJ15_checkIndex_7cf53 2 = .ok (.aconst_null, 1) := by decide +kernel
theorem dJ15_checkIndex_7cf53_3 : decode cJ15_checkIndex_7cf53 3 = .ok (.invokestatic 105, 3) := by decide +kernel
theorem dJ15_checkIndex_7cf53_6 : decode cJ15_checkIndex_7cf53 6 = .ok (.ireturn, 1) := by decide +kernel
theorem dJ8_newLength_cabcc_0 : decode cJ8_newLength_cabcc 0 = .ok (.iload_n 0, 1) := by decide +kernel
theorem dJ8_newLength_cabcc_1 : decode cJ8_newLength_cabcc 1 = .ok (.iload_n 1, 1) := by decide +kernel
theorem dJ8_newLength_cabcc_2 : decode cJ8_newLength_cabcc 2 = .ok (.iload_n 2, 1) := by decide +kernel
theorem dJ8_newLength_cabcc_3 : decode cJ8_newLength_cabcc 3 = .ok (.invokestatic 194, 3) := by decide +kernel
theorem dJ8_newLength_cabcc_6 : decode cJ8_newLength_cabcc 6 = .ok (.iadd, 1) := by decide +kernel
theorem dJ8_newLength_cabcc_7 : decode cJ8_newLength_cabcc 7 = .ok (.istore_n 3, 1) := by decide +kernel
theorem dJ8_newLength_cabcc_8 : decode cJ8_newLength_cabcc 8 = .ok (.iconst 0, 1) := by decide +kernel
theorem dJ8_newLength_cabcc_9 : decode cJ8_newLength_cabcc 9 = .ok (.iload_n 3, 1) := by decide +kernel
theorem dJ8_newLength_cabcc_10 : decode cJ8_newLength_cabcc 10 = .ok (.if_icmp .ge 11, 3) := by decide +kernel
theorem dJ8_newLength_cabcc_13 : decode cJ8_newLength_cabcc 13 = .ok (.iload_n 3, 1) := by decide +kernel
theorem dJ8_newLength_cabcc_14 : decode cJ8_newLength_cabcc 14 = .ok (.ldc 200, 2) := by decide +kernel
theorem dJ8_newLength_cabcc_16 : decode cJ8_newLength_cabcc 16 = .ok (.if_icmp .gt 5, 3) := by decide +kernel
theorem dJ8_newLength_cabcc_19 : decode cJ8_newLength_cabcc 19 = .ok (.iload_n 3, 1) := by decide +kernel
theorem dJ8_newLength_cabcc_20 : decode cJ8_newLength_cabcc 20 = .ok (.ireturn, 1) := by decide +kernel
theorem dJ8_newLength_cabcc_21 : decode cJ8_newLength_cabcc 21 = .ok (.iload_n 0, 1) := by decide +kernel
theorem dJ8_newLength_cabcc_22 : decode cJ8_newLength_cabcc 22 = .ok (.iload_n 1, 1) := by decide +kernel
theorem dJ8_newLength_cabcc_23 : decode cJ8_newLength_cabcc 23 = .ok (.invokestatic 201, 3) := by decide +kernel
theorem dJ8_newLength_cabcc_26 : decode cJ8_newLength_cabcc 26 = .ok (.ireturn, 1) := by decide +kernel
theorem dJ3_checkIndex_8e157_0 : decode cJ3_checkIndex_8e157 0 = .ok (.iload_n 0, 1) := by decide +kernel
theorem dJ3_checkIndex_8e157_1 : decode cJ3_checkIndex_8e157 1 = .ok (.ifCond .lt 8, 3) := by decide +kernel
theorem dJ3_checkIndex_8e157_4 : decode cJ3_checkIndex_8e157 4 = .ok (.iload_n 0, 1) := by decide +kernel
theorem dJ3_checkIndex_8e157_5 : decode cJ3_checkIndex_8e157 5 = .ok (.iload_n 1, 1) := by decide +kernel
theorem dJ3_checkIndex_8e157_6 : decode cJ3_checkIndex_8e157 6 = .ok (.if_icmp .lt 10, 3) := by decide +kernel
theorem dJ3_checkIndex_8e157_9 : decode cJ3_checkIndex_8e157 9 = .ok (.aload_n 2, 1) := by decide +kernel
theorem dJ3_checkIndex_8e157_10 : decode cJ3_checkIndex_8e157 10 = .ok (.iload_n 0, 1) := by decide +kernel
theorem dJ3_checkIndex_8e157_11 : decode cJ3_checkIndex_8e157 11 = .ok (.iload_n 1, 1) := by decide +kernel
theorem dJ3_checkIndex_8e157_12 : decode cJ3_checkIndex_8e157 12 = .ok (.invokestatic 95, 3) := by decide +kernel
theorem dJ3_checkIndex_8e157_15 : decode cJ3_checkIndex_8e157 15 = .ok (.athrow, 1) := by decide +kernel
theorem dJ3_checkIndex_8e157_16 : decode cJ3_checkIndex_8e157 16 = .ok (.iload_n 0, 1) := by decide +kernel
theorem dJ3_checkIndex_8e157_17 : decode cJ3_checkIndex_8e157 17 = .ok (.ireturn, 1) := by decide +kernel
theorem dL_pass_0 : decode cL_pass 0 = .ok (.aload_n 2, 1) := by decide +kernel
theorem dL_pass_1 : decode cL_pass 1 = .ok (.iconst 0, 1) := by decide +kernel
theorem dL_pass_2 : decode cL_pass 2 = .ok (.aload_n 0, 1) := by decide +kernel
theorem dL_pass_3 : decode cL_pass 3 = .ok (.iload_n 1, 1) := by decide +kernel
theorem dL_pass_4 : decode cL_pass 4 = .ok (.invokevirtual 7, 3) := by decide +kernel
theorem dL_pass_7 : decode cL_pass 7 = .ok (.i2l, 1) := by decide +kernel
theorem dL_pass_8 : decode cL_pass 8 = .ok (.lastore, 1) := by decide +kernel
theorem dL_pass_9 : decode cL_pass 9 = .ok (.goto 9, 3) := by decide +kernel
theorem dL_pass_12 : decode cL_pass 12 = .ok (.astore_n 3, 1) := by decide +kernel
theorem dL_pass_13 : decode cL_pass 13 = .ok (.iconst 1, 1) := by decide +kernel
theorem dL_pass_14 : decode cL_pass 14 = .ok (.ireturn, 1) := by decide +kernel
theorem dL_pass_15 : decode cL_pass 15 = .ok (.astore_n 3, 1) := by decide +kernel
theorem dL_pass_16 : decode cL_pass 16 = .ok (.iconst 2, 1) := by decide +kernel
theorem dL_pass_17 : decode cL_pass 17 = .ok (.ireturn, 1) := by decide +kernel
theorem dL_pass_18 : decode cL_pass 18 = .ok (.iconst 0, 1) := by decide +kernel
theorem dL_pass_19 : decode cL_pass 19 = .ok (.ireturn, 1) := by decide +kernel
theorem dL_addAccount_0 : decode cL_addAccount 0 = .ok (.aload 4, 2) := by decide +kernel
theorem dL_addAccount_2 : decode cL_addAccount 2 = .ok (.iconst 0, 1) := by decide +kernel
theorem dL_addAccount_3 : decode cL_addAccount 3 = .ok (.aload_n 0, 1) := by decide +kernel
theorem dL_addAccount_4 : decode cL_addAccount 4 = .ok (.iload_n 1, 1) := by decide +kernel
theorem dL_addAccount_5 : decode cL_addAccount 5 = .ok (.iload_n 2, 1) := by decide +kernel
theorem dL_addAccount_6 : decode cL_addAccount 6 = .ok (.iload_n 3, 1) := by decide +kernel
theorem dL_addAccount_7 : decode cL_addAccount 7 = .ok (.invokevirtual 17, 3) := by decide +kernel
theorem dL_addAccount_10 : decode cL_addAccount 10 = .ok (.i2l, 1) := by decide +kernel
theorem dL_addAccount_11 : decode cL_addAccount 11 = .ok (.lastore, 1) := by decide +kernel
theorem dL_addAccount_12 : decode cL_addAccount 12 = .ok (.goto 15, 3) := by decide +kernel
theorem dL_addAccount_15 : decode cL_addAccount 15 = .ok (.astore 5, 2) := by decide +kernel
theorem dL_addAccount_17 : decode cL_addAccount 17 = .ok (.iconst 1, 1) := by decide +kernel
theorem dL_addAccount_18 : decode cL_addAccount 18 = .ok (.ireturn, 1) := by decide +kernel
theorem dL_addAccount_19 : decode cL_addAccount 19 = .ok (.astore 5, 2) := by decide +kernel
theorem dL_addAccount_21 : decode cL_addAccount 21 = .ok (.iconst 2, 1) := by decide +kernel
theorem dL_addAccount_22 : decode cL_addAccount 22 = .ok (.ireturn, 1) := by decide +kernel
theorem dL_addAccount_23 : decode cL_addAccount 23 = .ok (.astore 5, 2) := by decide +kernel
theorem dL_addAccount_25 : decode cL_addAccount 25 = .ok (.iconst 3, 1) := by decide +kernel
theorem dL_addAccount_26 : decode cL_addAccount 26 = .ok (.ireturn, 1) := by decide +kernel
theorem dL_addAccount_27 : decode cL_addAccount 27 = .ok (.iconst 0, 1) := by decide +kernel
theorem dL_addAccount_28 : decode cL_addAccount 28 = .ok (.ireturn, 1) := by decide +kernel
theorem dL_putRule_0 : decode cL_putRule 0 = .ok (.aload 6, 2) := by decide +kernel
theorem dL_putRule_2 : decode cL_putRule 2 = .ok (.iconst 0, 1) := by decide +kernel
theorem dL_putRule_3 : decode cL_putRule 3 = .ok (.aload_n 0, 1) := by decide +kernel
theorem dL_putRule_4 : decode cL_putRule 4 = .ok (.iload_n 1, 1) := by decide +kernel
theorem dL_putRule_5 : decode cL_putRule 5 = .ok (.iload_n 2, 1) := by decide +kernel
theorem dL_putRule_6 : decode cL_putRule 6 = .ok (.iload_n 3, 1) := by decide +kernel
theorem dL_putRule_7 : decode cL_putRule 7 = .ok (.iload 4, 2) := by decide +kernel
theorem dL_putRule_9 : decode cL_putRule 9 = .ok (.iload 5, 2) := by decide +kernel
theorem dL_putRule_11 : decode cL_putRule 11 = .ok (.invokevirtual 23, 3) := by decide +kernel
theorem dL_putRule_14 : decode cL_putRule 14 = .ok (.i2l, 1) := by decide +kernel
theorem dL_putRule_15 : decode cL_putRule 15 = .ok (.lastore, 1) := by decide +kernel
theorem dL_putRule_16 : decode cL_putRule 16 = .ok (.goto 15, 3) := by decide +kernel
theorem dL_putRule_19 : decode cL_putRule 19 = .ok (.astore 7, 2) := by decide +kernel
theorem dL_putRule_21 : decode cL_putRule 21 = .ok (.iconst 1, 1) := by decide +kernel
theorem dL_putRule_22 : decode cL_putRule 22 = .ok (.ireturn, 1) := by decide +kernel
theorem dL_putRule_23 : decode cL_putRule 23 = .ok (.astore 7, 2) := by decide +kernel
theorem dL_putRule_25 : decode cL_putRule 25 = .ok (.iconst 2, 1) := by decide +kernel
theorem dL_putRule_26 : decode cL_putRule 26 = .ok (.ireturn, 1) := by decide +kernel
theorem dL_putRule_27 : decode cL_putRule 27 = .ok (.astore 7, 2) := by decide +kernel
theorem dL_putRule_29 : decode cL_putRule 29 = .ok (.iconst 3, 1) := by decide +kernel
theorem dL_putRule_30 : decode cL_putRule 30 = .ok (.ireturn, 1) := by decide +kernel
theorem dL_putRule_31 : decode cL_putRule 31 = .ok (.iconst 0, 1) := by decide +kernel
theorem dL_putRule_32 : decode cL_putRule 32 = .ok (.ireturn, 1) := by decide +kernel
theorem dL_removeRule_0 : decode cL_removeRule 0 = .ok (.aload_n 2, 1) := by decide +kernel
theorem dL_removeRule_1 : decode cL_removeRule 1 = .ok (.iconst 0, 1) := by decide +kernel
theorem dL_removeRule_2 : decode cL_removeRule 2 = .ok (.aload_n 0, 1) := by decide +kernel
theorem dL_removeRule_3 : decode cL_removeRule 3 = .ok (.iload_n 1, 1) := by decide +kernel
theorem dL_removeRule_4 : decode cL_removeRule 4 = .ok (.invokevirtual 27, 3) := by decide +kernel
theorem dL_removeRule_7 : decode cL_removeRule 7 = .ok (.i2l, 1) := by decide +kernel
theorem dL_removeRule_8 : decode cL_removeRule 8 = .ok (.lastore, 1) := by decide +kernel
theorem dL_removeRule_9 : decode cL_removeRule 9 = .ok (.goto 6, 3) := by decide +kernel
theorem dL_removeRule_12 : decode cL_removeRule 12 = .ok (.astore_n 3, 1) := by decide +kernel
theorem dL_removeRule_13 : decode cL_removeRule 13 = .ok (.iconst 1, 1) := by decide +kernel
theorem dL_removeRule_14 : decode cL_removeRule 14 = .ok (.ireturn, 1) := by decide +kernel
theorem dL_removeRule_15 : decode cL_removeRule 15 = .ok (.iconst 0, 1) := by decide +kernel
theorem dL_removeRule_16 : decode cL_removeRule 16 = .ok (.ireturn, 1) := by decide +kernel
theorem dL_except_0 : decode cL_except 0 = .ok (.aload_n 3, 1) := by decide +kernel
theorem dL_except_1 : decode cL_except 1 = .ok (.iconst 0, 1) := by decide +kernel
theorem dL_except_2 : decode cL_except 2 = .ok (.aload_n 0, 1) := by decide +kernel
theorem dL_except_3 : decode cL_except 3 = .ok (.iload_n 1, 1) := by decide +kernel
theorem dL_except_4 : decode cL_except 4 = .ok (.iload_n 2, 1) := by decide +kernel
theorem dL_except_5 : decode cL_except 5 = .ok (.invokevirtual 30, 3) := by decide +kernel
theorem dL_except_8 : decode cL_except 8 = .ok (.i2l, 1) := by decide +kernel
theorem dL_except_9 : decode cL_except 9 = .ok (.lastore, 1) := by decide +kernel
theorem dL_except_10 : decode cL_except 10 = .ok (.goto 11, 3) := by decide +kernel
theorem dL_except_13 : decode cL_except 13 = .ok (.astore 4, 2) := by decide +kernel
theorem dL_except_15 : decode cL_except 15 = .ok (.iconst 1, 1) := by decide +kernel
theorem dL_except_16 : decode cL_except 16 = .ok (.ireturn, 1) := by decide +kernel
theorem dL_except_17 : decode cL_except 17 = .ok (.astore 4, 2) := by decide +kernel
theorem dL_except_19 : decode cL_except 19 = .ok (.iconst 2, 1) := by decide +kernel
theorem dL_except_20 : decode cL_except 20 = .ok (.ireturn, 1) := by decide +kernel
theorem dL_except_21 : decode cL_except 21 = .ok (.iconst 0, 1) := by decide +kernel
theorem dL_except_22 : decode cL_except 22 = .ok (.ireturn, 1) := by decide +kernel
theorem dL_regionOf_0 : decode cL_regionOf 0 = .ok (.aload_n 2, 1) := by decide +kernel
theorem dL_regionOf_1 : decode cL_regionOf 1 = .ok (.iconst 0, 1) := by decide +kernel
theorem dL_regionOf_2 : decode cL_regionOf 2 = .ok (.aload_n 0, 1) := by decide +kernel
theorem dL_regionOf_3 : decode cL_regionOf 3 = .ok (.iload_n 1, 1) := by decide +kernel
theorem dL_regionOf_4 : decode cL_regionOf 4 = .ok (.invokevirtual 34, 3) := by decide +kernel
theorem dL_regionOf_7 : decode cL_regionOf 7 = .ok (.i2l, 1) := by decide +kernel
theorem dL_regionOf_8 : decode cL_regionOf 8 = .ok (.lastore, 1) := by decide +kernel
theorem dL_regionOf_9 : decode cL_regionOf 9 = .ok (.goto 6, 3) := by decide +kernel
theorem dL_regionOf_12 : decode cL_regionOf 12 = .ok (.astore_n 3, 1) := by decide +kernel
theorem dL_regionOf_13 : decode cL_regionOf 13 = .ok (.iconst 1, 1) := by decide +kernel
theorem dL_regionOf_14 : decode cL_regionOf 14 = .ok (.ireturn, 1) := by decide +kernel
theorem dL_regionOf_15 : decode cL_regionOf 15 = .ok (.iconst 0, 1) := by decide +kernel
theorem dL_regionOf_16 : decode cL_regionOf 16 = .ok (.ireturn, 1) := by decide +kernel
theorem dL_addSeller_0 : decode cL_addSeller 0 = .ok (.aload_n 3, 1) := by decide +kernel
theorem dL_addSeller_1 : decode cL_addSeller 1 = .ok (.iconst 0, 1) := by decide +kernel
theorem dL_addSeller_2 : decode cL_addSeller 2 = .ok (.aload_n 0, 1) := by decide +kernel
theorem dL_addSeller_3 : decode cL_addSeller 3 = .ok (.iload_n 1, 1) := by decide +kernel
theorem dL_addSeller_4 : decode cL_addSeller 4 = .ok (.iload_n 2, 1) := by decide +kernel
theorem dL_addSeller_5 : decode cL_addSeller 5 = .ok (.invokevirtual 37, 3) := by decide +kernel
theorem dL_addSeller_8 : decode cL_addSeller 8 = .ok (.i2l, 1) := by decide +kernel
theorem dL_addSeller_9 : decode cL_addSeller 9 = .ok (.lastore, 1) := by decide +kernel
theorem dL_addSeller_10 : decode cL_addSeller 10 = .ok (.goto 15, 3) := by decide +kernel
theorem dL_addSeller_13 : decode cL_addSeller 13 = .ok (.astore 4, 2) := by decide +kernel
theorem dL_addSeller_15 : decode cL_addSeller 15 = .ok (.iconst 1, 1) := by decide +kernel
theorem dL_addSeller_16 : decode cL_addSeller 16 = .ok (.ireturn, 1) := by decide +kernel
theorem dL_addSeller_17 : decode cL_addSeller 17 = .ok (.astore 4, 2) := by decide +kernel
theorem dL_addSeller_19 : decode cL_addSeller 19 = .ok (.iconst 2, 1) := by decide +kernel
theorem dL_addSeller_20 : decode cL_addSeller 20 = .ok (.ireturn, 1) := by decide +kernel
theorem dL_addSeller_21 : decode cL_addSeller 21 = .ok (.astore 4, 2) := by decide +kernel
theorem dL_addSeller_23 : decode cL_addSeller 23 = .ok (.iconst 3, 1) := by decide +kernel
theorem dL_addSeller_24 : decode cL_addSeller 24 = .ok (.ireturn, 1) := by decide +kernel
theorem dL_addSeller_25 : decode cL_addSeller 25 = .ok (.iconst 0, 1) := by decide +kernel
theorem dL_addSeller_26 : decode cL_addSeller 26 = .ok (.ireturn, 1) := by decide +kernel
theorem dL_adjust_0 : decode cL_adjust 0 = .ok (.aload_n 3, 1) := by decide +kernel
theorem dL_adjust_1 : decode cL_adjust 1 = .ok (.iconst 0, 1) := by decide +kernel
theorem dL_adjust_2 : decode cL_adjust 2 = .ok (.aload_n 0, 1) := by decide +kernel
theorem dL_adjust_3 : decode cL_adjust 3 = .ok (.iload_n 1, 1) := by decide +kernel
theorem dL_adjust_4 : decode cL_adjust 4 = .ok (.iload_n 2, 1) := by decide +kernel
theorem dL_adjust_5 : decode cL_adjust 5 = .ok (.invokevirtual 40, 3) := by decide +kernel
theorem dL_adjust_8 : decode cL_adjust 8 = .ok (.i2l, 1) := by decide +kernel
theorem dL_adjust_9 : decode cL_adjust 9 = .ok (.lastore, 1) := by decide +kernel
theorem dL_adjust_10 : decode cL_adjust 10 = .ok (.goto 11, 3) := by decide +kernel
theorem dL_adjust_13 : decode cL_adjust 13 = .ok (.astore 4, 2) := by decide +kernel
theorem dL_adjust_15 : decode cL_adjust 15 = .ok (.iconst 1, 1) := by decide +kernel
theorem dL_adjust_16 : decode cL_adjust 16 = .ok (.ireturn, 1) := by decide +kernel
theorem dL_adjust_17 : decode cL_adjust 17 = .ok (.astore 4, 2) := by decide +kernel
theorem dL_adjust_19 : decode cL_adjust 19 = .ok (.iconst 2, 1) := by decide +kernel
theorem dL_adjust_20 : decode cL_adjust 20 = .ok (.ireturn, 1) := by decide +kernel
theorem dL_adjust_21 : decode cL_adjust 21 = .ok (.iconst 0, 1) := by decide +kernel
theorem dL_adjust_22 : decode cL_adjust 22 = .ok (.ireturn, 1) := by decide +kernel
theorem dL_addChance_0 : decode cL_addChance 0 = .ok (.aload 4, 2) := by decide +kernel
theorem dL_addChance_2 : decode cL_addChance 2 = .ok (.iconst 0, 1) := by decide +kernel
theorem dL_addChance_3 : decode cL_addChance 3 = .ok (.aload_n 0, 1) := by decide +kernel
theorem dL_addChance_4 : decode cL_addChance 4 = .ok (.iload_n 1, 1) := by decide +kernel
theorem dL_addChance_5 : decode cL_addChance 5 = .ok (.iload_n 2, 1) := by decide +kernel
theorem dL_addChance_6 : decode cL_addChance 6 = .ok (.iload_n 3, 1) := by decide +kernel
theorem dL_addChance_7 : decode cL_addChance 7 = .ok (.invokevirtual 43, 3) := by decide +kernel
theorem dL_addChance_10 : decode cL_addChance 10 = .ok (.i2l, 1) := by decide +kernel
theorem dL_addChance_11 : decode cL_addChance 11 = .ok (.lastore, 1) := by decide +kernel
theorem dL_addChance_12 : decode cL_addChance 12 = .ok (.goto 15, 3) := by decide +kernel
theorem dL_addChance_15 : decode cL_addChance 15 = .ok (.astore 5, 2) := by decide +kernel
theorem dL_addChance_17 : decode cL_addChance 17 = .ok (.iconst 1, 1) := by decide +kernel
theorem dL_addChance_18 : decode cL_addChance 18 = .ok (.ireturn, 1) := by decide +kernel
theorem dL_addChance_19 : decode cL_addChance 19 = .ok (.astore 5, 2) := by decide +kernel
theorem dL_addChance_21 : decode cL_addChance 21 = .ok (.iconst 2, 1) := by decide +kernel
theorem dL_addChance_22 : decode cL_addChance 22 = .ok (.ireturn, 1) := by decide +kernel
theorem dL_addChance_23 : decode cL_addChance 23 = .ok (.astore 5, 2) := by decide +kernel
theorem dL_addChance_25 : decode cL_addChance 25 = .ok (.iconst 3, 1) := by decide +kernel
theorem dL_addChance_26 : decode cL_addChance 26 = .ok (.ireturn, 1) := by decide +kernel
theorem dL_addChance_27 : decode cL_addChance 27 = .ok (.iconst 0, 1) := by decide +kernel
theorem dL_addChance_28 : decode cL_addChance 28 = .ok (.ireturn, 1) := by decide +kernel
theorem dL_giveShare_0 : decode cL_giveShare 0 = .ok (.aload 5, 2) := by decide +kernel
theorem dL_giveShare_2 : decode cL_giveShare 2 = .ok (.iconst 0, 1) := by decide +kernel
theorem dL_giveShare_3 : decode cL_giveShare 3 = .ok (.aload_n 0, 1) := by decide +kernel
theorem dL_giveShare_4 : decode cL_giveShare 4 = .ok (.iload_n 1, 1) := by decide +kernel
theorem dL_giveShare_5 : decode cL_giveShare 5 = .ok (.iload_n 2, 1) := by decide +kernel
theorem dL_giveShare_6 : decode cL_giveShare 6 = .ok (.iload_n 3, 1) := by decide +kernel
theorem dL_giveShare_7 : decode cL_giveShare 7 = .ok (.iload 4, 2) := by decide +kernel
theorem dL_giveShare_9 : decode cL_giveShare 9 = .ok (.invokevirtual 46, 3) := by decide +kernel
theorem dL_giveShare_12 : decode cL_giveShare 12 = .ok (.i2l, 1) := by decide +kernel
theorem dL_giveShare_13 : decode cL_giveShare 13 = .ok (.lastore, 1) := by decide +kernel
theorem dL_giveShare_14 : decode cL_giveShare 14 = .ok (.goto 15, 3) := by decide +kernel
theorem dL_giveShare_17 : decode cL_giveShare 17 = .ok (.astore 6, 2) := by decide +kernel
theorem dL_giveShare_19 : decode cL_giveShare 19 = .ok (.iconst 1, 1) := by decide +kernel
theorem dL_giveShare_20 : decode cL_giveShare 20 = .ok (.ireturn, 1) := by decide +kernel
theorem dL_giveShare_21 : decode cL_giveShare 21 = .ok (.astore 6, 2) := by decide +kernel
theorem dL_giveShare_23 : decode cL_giveShare 23 = .ok (.iconst 2, 1) := by decide +kernel
theorem dL_giveShare_24 : decode cL_giveShare 24 = .ok (.ireturn, 1) := by decide +kernel
theorem dL_giveShare_25 : decode cL_giveShare 25 = .ok (.astore 6, 2) := by decide +kernel
theorem dL_giveShare_27 : decode cL_giveShare 27 = .ok (.iconst 3, 1) := by decide +kernel
theorem dL_giveShare_28 : decode cL_giveShare 28 = .ok (.ireturn, 1) := by decide +kernel
theorem dL_giveShare_29 : decode cL_giveShare 29 = .ok (.iconst 0, 1) := by decide +kernel
theorem dL_giveShare_30 : decode cL_giveShare 30 = .ok (.ireturn, 1) := by decide +kernel
theorem dL_move_0 : decode cL_move 0 = .ok (.aload_n 3, 1) := by decide +kernel
theorem dL_move_1 : decode cL_move 1 = .ok (.iconst 0, 1) := by decide +kernel
theorem dL_move_2 : decode cL_move 2 = .ok (.aload_n 0, 1) := by decide +kernel
theorem dL_move_3 : decode cL_move 3 = .ok (.iload_n 1, 1) := by decide +kernel
theorem dL_move_4 : decode cL_move 4 = .ok (.iload_n 2, 1) := by decide +kernel
theorem dL_move_5 : decode cL_move 5 = .ok (.invokevirtual 50, 3) := by decide +kernel
theorem dL_move_8 : decode cL_move 8 = .ok (.i2l, 1) := by decide +kernel
theorem dL_move_9 : decode cL_move 9 = .ok (.lastore, 1) := by decide +kernel
theorem dL_move_10 : decode cL_move 10 = .ok (.goto 15, 3) := by decide +kernel
theorem dL_move_13 : decode cL_move 13 = .ok (.astore 4, 2) := by decide +kernel
theorem dL_move_15 : decode cL_move 15 = .ok (.iconst 1, 1) := by decide +kernel
theorem dL_move_16 : decode cL_move 16 = .ok (.ireturn, 1) := by decide +kernel
theorem dL_move_17 : decode cL_move 17 = .ok (.astore 4, 2) := by decide +kernel
theorem dL_move_19 : decode cL_move 19 = .ok (.iconst 2, 1) := by decide +kernel
theorem dL_move_20 : decode cL_move 20 = .ok (.ireturn, 1) := by decide +kernel
theorem dL_move_21 : decode cL_move 21 = .ok (.astore 4, 2) := by decide +kernel
theorem dL_move_23 : decode cL_move 23 = .ok (.iconst 3, 1) := by decide +kernel
theorem dL_move_24 : decode cL_move 24 = .ok (.ireturn, 1) := by decide +kernel
theorem dL_move_25 : decode cL_move 25 = .ok (.iconst 0, 1) := by decide +kernel
theorem dL_move_26 : decode cL_move 26 = .ok (.ireturn, 1) := by decide +kernel
theorem dL_stage_0 : decode cL_stage 0 = .ok (.aload_n 2, 1) := by decide +kernel
theorem dL_stage_1 : decode cL_stage 1 = .ok (.iconst 0, 1) := by decide +kernel
theorem dL_stage_2 : decode cL_stage 2 = .ok (.aload_n 0, 1) := by decide +kernel
theorem dL_stage_3 : decode cL_stage 3 = .ok (.iload_n 1, 1) := by decide +kernel
theorem dL_stage_4 : decode cL_stage 4 = .ok (.invokevirtual 53, 3) := by decide +kernel
theorem dL_stage_7 : decode cL_stage 7 = .ok (.i2l, 1) := by decide +kernel
theorem dL_stage_8 : decode cL_stage 8 = .ok (.lastore, 1) := by decide +kernel
theorem dL_stage_9 : decode cL_stage 9 = .ok (.goto 6, 3) := by decide +kernel
theorem dL_stage_12 : decode cL_stage 12 = .ok (.astore_n 3, 1) := by decide +kernel
theorem dL_stage_13 : decode cL_stage 13 = .ok (.iconst 1, 1) := by decide +kernel
theorem dL_stage_14 : decode cL_stage 14 = .ok (.ireturn, 1) := by decide +kernel
theorem dL_stage_15 : decode cL_stage 15 = .ok (.iconst 0, 1) := by decide +kernel
theorem dL_stage_16 : decode cL_stage 16 = .ok (.ireturn, 1) := by decide +kernel
theorem dL_daysIn_0 : decode cL_daysIn 0 = .ok (.aload_n 3, 1) := by decide +kernel
theorem dL_daysIn_1 : decode cL_daysIn 1 = .ok (.iconst 0, 1) := by decide +kernel
theorem dL_daysIn_2 : decode cL_daysIn 2 = .ok (.aload_n 0, 1) := by decide +kernel
theorem dL_daysIn_3 : decode cL_daysIn 3 = .ok (.iload_n 1, 1) := by decide +kernel
theorem dL_daysIn_4 : decode cL_daysIn 4 = .ok (.iload_n 2, 1) := by decide +kernel
theorem dL_daysIn_5 : decode cL_daysIn 5 = .ok (.invokevirtual 56, 3) := by decide +kernel
theorem dL_daysIn_8 : decode cL_daysIn 8 = .ok (.i2l, 1) := by decide +kernel
theorem dL_daysIn_9 : decode cL_daysIn 9 = .ok (.lastore, 1) := by decide +kernel
theorem dL_daysIn_10 : decode cL_daysIn 10 = .ok (.goto 11, 3) := by decide +kernel
theorem dL_daysIn_13 : decode cL_daysIn 13 = .ok (.astore 4, 2) := by decide +kernel
theorem dL_daysIn_15 : decode cL_daysIn 15 = .ok (.iconst 1, 1) := by decide +kernel
theorem dL_daysIn_16 : decode cL_daysIn 16 = .ok (.ireturn, 1) := by decide +kernel
theorem dL_daysIn_17 : decode cL_daysIn 17 = .ok (.astore 4, 2) := by decide +kernel
theorem dL_daysIn_19 : decode cL_daysIn 19 = .ok (.iconst 2, 1) := by decide +kernel
theorem dL_daysIn_20 : decode cL_daysIn 20 = .ok (.ireturn, 1) := by decide +kernel
theorem dL_daysIn_21 : decode cL_daysIn 21 = .ok (.iconst 0, 1) := by decide +kernel
theorem dL_daysIn_22 : decode cL_daysIn 22 = .ok (.ireturn, 1) := by decide +kernel
theorem dL_stalled_0 : decode cL_stalled 0 = .ok (.aload_n 2, 1) := by decide +kernel
theorem dL_stalled_1 : decode cL_stalled 1 = .ok (.iconst 0, 1) := by decide +kernel
theorem dL_stalled_2 : decode cL_stalled 2 = .ok (.aload_n 0, 1) := by decide +kernel
theorem dL_stalled_3 : decode cL_stalled 3 = .ok (.iload_n 1, 1) := by decide +kernel
theorem dL_stalled_4 : decode cL_stalled 4 = .ok (.invokevirtual 59, 3) := by decide +kernel
theorem dL_stalled_7 : decode cL_stalled 7 = .ok (.i2l, 1) := by decide +kernel
theorem dL_stalled_8 : decode cL_stalled 8 = .ok (.lastore, 1) := by decide +kernel
theorem dL_stalled_9 : decode cL_stalled 9 = .ok (.goto 6, 3) := by decide +kernel
theorem dL_stalled_12 : decode cL_stalled 12 = .ok (.astore_n 3, 1) := by decide +kernel
theorem dL_stalled_13 : decode cL_stalled 13 = .ok (.iconst 1, 1) := by decide +kernel
theorem dL_stalled_14 : decode cL_stalled 14 = .ok (.ireturn, 1) := by decide +kernel
theorem dL_stalled_15 : decode cL_stalled 15 = .ok (.iconst 0, 1) := by decide +kernel
theorem dL_stalled_16 : decode cL_stalled 16 = .ok (.ireturn, 1) := by decide +kernel
theorem dL_worth_0 : decode cL_worth 0 = .ok (.aload_n 2, 1) := by decide +kernel
theorem dL_worth_1 : decode cL_worth 1 = .ok (.iconst 0, 1) := by decide +kernel
theorem dL_worth_2 : decode cL_worth 2 = .ok (.aload_n 0, 1) := by decide +kernel
theorem dL_worth_3 : decode cL_worth 3 = .ok (.iload_n 1, 1) := by decide +kernel
theorem dL_worth_4 : decode cL_worth 4 = .ok (.invokevirtual 62, 3) := by decide +kernel
theorem dL_worth_7 : decode cL_worth 7 = .ok (.i2l, 1) := by decide +kernel
theorem dL_worth_8 : decode cL_worth 8 = .ok (.lastore, 1) := by decide +kernel
theorem dL_worth_9 : decode cL_worth 9 = .ok (.goto 6, 3) := by decide +kernel
theorem dL_worth_12 : decode cL_worth 12 = .ok (.astore_n 3, 1) := by decide +kernel
theorem dL_worth_13 : decode cL_worth 13 = .ok (.iconst 1, 1) := by decide +kernel
theorem dL_worth_14 : decode cL_worth 14 = .ok (.ireturn, 1) := by decide +kernel
theorem dL_worth_15 : decode cL_worth 15 = .ok (.iconst 0, 1) := by decide +kernel
theorem dL_worth_16 : decode cL_worth 16 = .ok (.ireturn, 1) := by decide +kernel
theorem dL_inRegion_0 : decode cL_inRegion 0 = .ok (.aload_n 3, 1) := by decide +kernel
theorem dL_inRegion_1 : decode cL_inRegion 1 = .ok (.iconst 0, 1) := by decide +kernel
theorem dL_inRegion_2 : decode cL_inRegion 2 = .ok (.aload_n 0, 1) := by decide +kernel
theorem dL_inRegion_3 : decode cL_inRegion 3 = .ok (.iload_n 1, 1) := by decide +kernel
theorem dL_inRegion_4 : decode cL_inRegion 4 = .ok (.iload_n 2, 1) := by decide +kernel
theorem dL_inRegion_5 : decode cL_inRegion 5 = .ok (.invokevirtual 65, 3) := by decide +kernel
theorem dL_inRegion_8 : decode cL_inRegion 8 = .ok (.i2l, 1) := by decide +kernel
theorem dL_inRegion_9 : decode cL_inRegion 9 = .ok (.lastore, 1) := by decide +kernel
theorem dL_inRegion_10 : decode cL_inRegion 10 = .ok (.goto 7, 3) := by decide +kernel
theorem dL_inRegion_13 : decode cL_inRegion 13 = .ok (.astore 4, 2) := by decide +kernel
theorem dL_inRegion_15 : decode cL_inRegion 15 = .ok (.iconst 1, 1) := by decide +kernel
theorem dL_inRegion_16 : decode cL_inRegion 16 = .ok (.ireturn, 1) := by decide +kernel
theorem dL_inRegion_17 : decode cL_inRegion 17 = .ok (.iconst 0, 1) := by decide +kernel
theorem dL_inRegion_18 : decode cL_inRegion 18 = .ok (.ireturn, 1) := by decide +kernel
theorem dL_won_0 : decode cL_won 0 = .ok (.aload_n 2, 1) := by decide +kernel
theorem dL_won_1 : decode cL_won 1 = .ok (.iconst 0, 1) := by decide +kernel
theorem dL_won_2 : decode cL_won 2 = .ok (.aload_n 0, 1) := by decide +kernel
theorem dL_won_3 : decode cL_won 3 = .ok (.iload_n 1, 1) := by decide +kernel
theorem dL_won_4 : decode cL_won 4 = .ok (.invokevirtual 68, 3) := by decide +kernel
theorem dL_won_7 : decode cL_won 7 = .ok (.i2l, 1) := by decide +kernel
theorem dL_won_8 : decode cL_won 8 = .ok (.lastore, 1) := by decide +kernel
theorem dL_won_9 : decode cL_won 9 = .ok (.goto 6, 3) := by decide +kernel
theorem dL_won_12 : decode cL_won 12 = .ok (.astore_n 3, 1) := by decide +kernel
theorem dL_won_13 : decode cL_won 13 = .ok (.iconst 1, 1) := by decide +kernel
theorem dL_won_14 : decode cL_won 14 = .ok (.ireturn, 1) := by decide +kernel
theorem dL_won_15 : decode cL_won 15 = .ok (.iconst 0, 1) := by decide +kernel
theorem dL_won_16 : decode cL_won 16 = .ok (.ireturn, 1) := by decide +kernel
theorem dL_quote_0 : decode cL_quote 0 = .ok (.aload 4, 2) := by decide +kernel
theorem dL_quote_2 : decode cL_quote 2 = .ok (.iconst 0, 1) := by decide +kernel
theorem dL_quote_3 : decode cL_quote 3 = .ok (.aload_n 0, 1) := by decide +kernel
theorem dL_quote_4 : decode cL_quote 4 = .ok (.iload_n 1, 1) := by decide +kernel
theorem dL_quote_5 : decode cL_quote 5 = .ok (.iload_n 2, 1) := by decide +kernel
theorem dL_quote_6 : decode cL_quote 6 = .ok (.iload_n 3, 1) := by decide +kernel
theorem dL_quote_7 : decode cL_quote 7 = .ok (.invokevirtual 71, 3) := by decide +kernel
theorem dL_quote_10 : decode cL_quote 10 = .ok (.i2l, 1) := by decide +kernel
theorem dL_quote_11 : decode cL_quote 11 = .ok (.lastore, 1) := by decide +kernel
theorem dL_quote_12 : decode cL_quote 12 = .ok (.goto 15, 3) := by decide +kernel
theorem dL_quote_15 : decode cL_quote 15 = .ok (.astore 5, 2) := by decide +kernel
theorem dL_quote_17 : decode cL_quote 17 = .ok (.iconst 1, 1) := by decide +kernel
theorem dL_quote_18 : decode cL_quote 18 = .ok (.ireturn, 1) := by decide +kernel
theorem dL_quote_19 : decode cL_quote 19 = .ok (.astore 5, 2) := by decide +kernel
theorem dL_quote_21 : decode cL_quote 21 = .ok (.iconst 2, 1) := by decide +kernel
theorem dL_quote_22 : decode cL_quote 22 = .ok (.ireturn, 1) := by decide +kernel
theorem dL_quote_23 : decode cL_quote 23 = .ok (.astore 5, 2) := by decide +kernel
theorem dL_quote_25 : decode cL_quote 25 = .ok (.iconst 3, 1) := by decide +kernel
theorem dL_quote_26 : decode cL_quote 26 = .ok (.ireturn, 1) := by decide +kernel
theorem dL_quote_27 : decode cL_quote 27 = .ok (.iconst 0, 1) := by decide +kernel
theorem dL_quote_28 : decode cL_quote 28 = .ok (.ireturn, 1) := by decide +kernel
theorem dL_approve_0 : decode cL_approve 0 = .ok (.aload_n 0, 1) := by decide +kernel
theorem dL_approve_1 : decode cL_approve 1 = .ok (.iload_n 1, 1) := by decide +kernel
theorem dL_approve_2 : decode cL_approve 2 = .ok (.iload_n 2, 1) := by decide +kernel
theorem dL_approve_3 : decode cL_approve 3 = .ok (.invokevirtual 74, 3) := by decide +kernel
theorem dL_approve_6 : decode cL_approve 6 = .ok (.goto 9, 3) := by decide +kernel
theorem dL_approve_9 : decode cL_approve 9 = .ok (.astore_n 3, 1) := by decide +kernel
theorem dL_approve_10 : decode cL_approve 10 = .ok (.iconst 1, 1) := by decide +kernel
theorem dL_approve_11 : decode cL_approve 11 = .ok (.ireturn, 1) := by decide +kernel
theorem dL_approve_12 : decode cL_approve 12 = .ok (.astore_n 3, 1) := by decide +kernel
theorem dL_approve_13 : decode cL_approve 13 = .ok (.iconst 2, 1) := by decide +kernel
theorem dL_approve_14 : decode cL_approve 14 = .ok (.ireturn, 1) := by decide +kernel
theorem dL_approve_15 : decode cL_approve 15 = .ok (.iconst 0, 1) := by decide +kernel
theorem dL_approve_16 : decode cL_approve 16 = .ok (.ireturn, 1) := by decide +kernel
theorem dL_counting_0 : decode cL_counting 0 = .ok (.aload_n 2, 1) := by decide +kernel
theorem dL_counting_1 : decode cL_counting 1 = .ok (.iconst 0, 1) := by decide +kernel
theorem dL_counting_2 : decode cL_counting 2 = .ok (.aload_n 0, 1) := by decide +kernel
theorem dL_counting_3 : decode cL_counting 3 = .ok (.iload_n 1, 1) := by decide +kernel
theorem dL_counting_4 : decode cL_counting 4 = .ok (.invokevirtual 78, 3) := by decide +kernel
theorem dL_counting_7 : decode cL_counting 7 = .ok (.i2l, 1) := by decide +kernel
theorem dL_counting_8 : decode cL_counting 8 = .ok (.lastore, 1) := by decide +kernel
theorem dL_counting_9 : decode cL_counting 9 = .ok (.goto 9, 3) := by decide +kernel
theorem dL_counting_12 : decode cL_counting 12 = .ok (.astore_n 3, 1) := by decide +kernel
theorem dL_counting_13 : decode cL_counting 13 = .ok (.iconst 1, 1) := by decide +kernel
theorem dL_counting_14 : decode cL_counting 14 = .ok (.ireturn, 1) := by decide +kernel
theorem dL_counting_15 : decode cL_counting 15 = .ok (.astore_n 3, 1) := by decide +kernel
theorem dL_counting_16 : decode cL_counting 16 = .ok (.iconst 2, 1) := by decide +kernel
theorem dL_counting_17 : decode cL_counting 17 = .ok (.ireturn, 1) := by decide +kernel
theorem dL_counting_18 : decode cL_counting 18 = .ok (.iconst 0, 1) := by decide +kernel
theorem dL_counting_19 : decode cL_counting 19 = .ok (.ireturn, 1) := by decide +kernel
theorem dL_forecast_0 : decode cL_forecast 0 = .ok (.aload_n 2, 1) := by decide +kernel
theorem dL_forecast_1 : decode cL_forecast 1 = .ok (.iconst 0, 1) := by decide +kernel
theorem dL_forecast_2 : decode cL_forecast 2 = .ok (.aload_n 0, 1) := by decide +kernel
theorem dL_forecast_3 : decode cL_forecast 3 = .ok (.iload_n 1, 1) := by decide +kernel
theorem dL_forecast_4 : decode cL_forecast 4 = .ok (.invokevirtual 83, 3) := by decide +kernel
theorem dL_forecast_7 : decode cL_forecast 7 = .ok (.i2l, 1) := by decide +kernel
theorem dL_forecast_8 : decode cL_forecast 8 = .ok (.lastore, 1) := by decide +kernel
theorem dL_forecast_9 : decode cL_forecast 9 = .ok (.goto 6, 3) := by decide +kernel
theorem dL_forecast_12 : decode cL_forecast 12 = .ok (.astore_n 3, 1) := by decide +kernel
theorem dL_forecast_13 : decode cL_forecast 13 = .ok (.iconst 1, 1) := by decide +kernel
theorem dL_forecast_14 : decode cL_forecast 14 = .ok (.ireturn, 1) := by decide +kernel
theorem dL_forecast_15 : decode cL_forecast 15 = .ok (.iconst 0, 1) := by decide +kernel
theorem dL_forecast_16 : decode cL_forecast 16 = .ok (.ireturn, 1) := by decide +kernel
theorem dL_own_0 : decode cL_own 0 = .ok (.aload_n 2, 1) := by decide +kernel
theorem dL_own_1 : decode cL_own 1 = .ok (.iconst 0, 1) := by decide +kernel
theorem dL_own_2 : decode cL_own 2 = .ok (.aload_n 0, 1) := by decide +kernel
theorem dL_own_3 : decode cL_own 3 = .ok (.iload_n 1, 1) := by decide +kernel
theorem dL_own_4 : decode cL_own 4 = .ok (.invokevirtual 86, 3) := by decide +kernel
theorem dL_own_7 : decode cL_own 7 = .ok (.i2l, 1) := by decide +kernel
theorem dL_own_8 : decode cL_own 8 = .ok (.lastore, 1) := by decide +kernel
theorem dL_own_9 : decode cL_own 9 = .ok (.goto 6, 3) := by decide +kernel
theorem dL_own_12 : decode cL_own 12 = .ok (.astore_n 3, 1) := by decide +kernel
theorem dL_own_13 : decode cL_own 13 = .ok (.iconst 1, 1) := by decide +kernel
theorem dL_own_14 : decode cL_own 14 = .ok (.ireturn, 1) := by decide +kernel
theorem dL_own_15 : decode cL_own 15 = .ok (.iconst 0, 1) := by decide +kernel
theorem dL_own_16 : decode cL_own 16 = .ok (.ireturn, 1) := by decide +kernel
theorem dL_freeze_0 : decode cL_freeze 0 = .ok (.aload_n 1, 1) := by decide +kernel
theorem dL_freeze_1 : decode cL_freeze 1 = .ok (.iconst 0, 1) := by decide +kernel
theorem dL_freeze_2 : decode cL_freeze 2 = .ok (.aload_n 0, 1) := by decide +kernel
theorem dL_freeze_3 : decode cL_freeze 3 = .ok (.invokevirtual 89, 3) := by decide +kernel
theorem dL_freeze_6 : decode cL_freeze 6 = .ok (.i2l, 1) := by decide +kernel
theorem dL_freeze_7 : decode cL_freeze 7 = .ok (.lastore, 1) := by decide +kernel
theorem dL_freeze_8 : decode cL_freeze 8 = .ok (.goto 6, 3) := by decide +kernel
theorem dL_freeze_11 : decode cL_freeze 11 = .ok (.astore_n 2, 1) := by decide +kernel
theorem dL_freeze_12 : decode cL_freeze 12 = .ok (.iconst 1, 1) := by decide +kernel
theorem dL_freeze_13 : decode cL_freeze 13 = .ok (.ireturn, 1) := by decide +kernel
theorem dL_freeze_14 : decode cL_freeze 14 = .ok (.iconst 0, 1) := by decide +kernel
theorem dL_freeze_15 : decode cL_freeze 15 = .ok (.ireturn, 1) := by decide +kernel
theorem dL_since_0 : decode cL_since 0 = .ok (.aload_n 3, 1) := by decide +kernel
theorem dL_since_1 : decode cL_since 1 = .ok (.iconst 0, 1) := by decide +kernel
theorem dL_since_2 : decode cL_since 2 = .ok (.aload_n 0, 1) := by decide +kernel
theorem dL_since_3 : decode cL_since 3 = .ok (.iload_n 1, 1) := by decide +kernel
theorem dL_since_4 : decode cL_since 4 = .ok (.iload_n 2, 1) := by decide +kernel
theorem dL_since_5 : decode cL_since 5 = .ok (.invokevirtual 93, 3) := by decide +kernel
theorem dL_since_8 : decode cL_since 8 = .ok (.i2l, 1) := by decide +kernel
theorem dL_since_9 : decode cL_since 9 = .ok (.lastore, 1) := by decide +kernel
theorem dL_since_10 : decode cL_since 10 = .ok (.goto 7, 3) := by decide +kernel
theorem dL_since_13 : decode cL_since 13 = .ok (.astore 4, 2) := by decide +kernel
theorem dL_since_15 : decode cL_since 15 = .ok (.iconst 1, 1) := by decide +kernel
theorem dL_since_16 : decode cL_since 16 = .ok (.ireturn, 1) := by decide +kernel
theorem dL_since_17 : decode cL_since 17 = .ok (.iconst 0, 1) := by decide +kernel
theorem dL_since_18 : decode cL_since 18 = .ok (.ireturn, 1) := by decide +kernel
end
section
/-! THE ENGINE: worlds by keys. A reference is a key (kind, number); the heap is a function of keys; addresses are hidden. -/
abbrev zK : Type := Nat × Nat
abbrev zV : Type := Value ⊕ zK
abbrev aI (x : Int32) : zV := .inl (.int x)
abbrev aL (x : Int64) : zV := .inl (.long x)
abbrev aN : zV := .inl .null
abbrev aR (k i : Nat) : zV := .inr (k, i)
def aO (o : Option zK) : zV := match o with | none => aN | some q => .inr q
abbrev zCell : Type := (Nat × List zV) ⊕ ((Nat × (Nat → Int32)) ⊕ ((Nat × (Nat → Int64)) ⊕ (Nat × (Nat → Option zK))))
abbrev oC (ci : Nat) (fs : List zV) : zCell := .inl (ci, fs)
abbrev iC (n : Nat) (f : Nat → Int32) : zCell := .inr (.inl (n, f))
abbrev lC (n : Nat) (f : Nat → Int64) : zCell := .inr (.inr (.inl (n, f)))
abbrev rC (n : Nat) (f : Nat → Option zK) : zCell := .inr (.inr (.inr (n, f)))
abbrev zHp : Type := Nat → Nat → Option zCell
/-- what is fixed for a run: the classes' numbers; the array classes of int, long, Object; the heap at the law's start; the addresses of ArrayList's empty array, of WEIGHTS, of the Class object of Object[] -/
abbrev zX : Type := va_G × (ClassId × ClassId × ClassId) × (Heap × Nat × Nat × Nat)
abbrev zHs (X : zX) : Heap := X.2.2.1
abbrev zsz (X : zX) : Nat := X.2.2.1.size
def zA (X : zX) : Nat → Prop := fun q => zsz X ≤ q
def zcv (loc : zK → Nat) : zV → Value
  | .inl v => v
  | .inr q => .ref (loc q)
def zcc (X : zX) (loc : zK → Nat) : zCell → va_E
  | .inl o => .inr (o.1, o.2.map (zcv loc))
  | .inr (.inl a) => .inl (X.2.1.1, a.1, .inl a.2)
  | .inr (.inr (.inl a)) => .inl (X.2.1.2.1, a.1, .inr (.inl a.2))
  | .inr (.inr (.inr a)) => .inl (X.2.1.2.2, a.1, .inr (.inr (.inr (.inr (fun j => (a.2 j).map loc)))))
def zlv (σ : zHp) : zV → Prop
  | .inl _ => True
  | .inr q => σ q.1 q.2 ≠ none
def zcl (σ : zHp) : zCell → Prop
  | .inl o => ∀ v ∈ o.2, zlv σ v
  | .inr (.inl _) => True
  | .inr (.inr (.inl _)) => True
  | .inr (.inr (.inr a)) => ∀ (j : Nat) (q : zK), a.2 j = some q → σ q.1 q.2 ≠ none
def zput (σ : zHp) (k i : Nat) (c : zCell) : zHp := fun k' i' => cond (Nat.beq k' k && Nat.beq i' i) (some c) (σ k' i')
def zup (loc : zK → Nat) (k i q : Nat) : zK → Nat := fun z => cond (Nat.beq z.1 k && Nat.beq z.2 i) q (loc z)
def zWts : Nat → Int32 := fun j => ([10, 30, 60, 90, 100, 0] : List Int32).getD j 0
def zW (X : zX) (σ : zHp) (loc : zK → Nat) (H : Heap) : Prop :=
  zsz X ≤ H.size ∧ (∀ q : Nat, q < zsz X → H[q]? = (zHs X)[q]?) ∧
  (∀ (k i : Nat) (c : zCell), σ k i = some c → va_at X.1 vwCl (loc (k, i), zcc X loc c) H ∧ (k < 90 → zsz X ≤ loc (k, i)) ∧ zcl σ c) ∧
  (∀ (k i k' i' : Nat) (c c' : zCell), σ k i = some c → σ k' i' = some c' → loc (k, i) = loc (k', i') → k = k' ∧ i = i') ∧
  (loc (90, 0) = X.2.2.2.1 ∧ loc (91, 0) = X.2.2.2.2.1 ∧ σ 90 0 = some (rC 0 (fun _ => none)) ∧ σ 91 0 = some (iC 6 zWts))
theorem znb {a b : Nat} (h : ¬ a = b) : Nat.beq a b = false := by
  cases hb : Nat.beq a b with
  | false => rfl
  | true => exact absurd (Nat.eq_of_beq_eq_true hb) h
theorem zput_s (σ : zHp) (k i : Nat) (c : zCell) : zput σ k i c k i = some c := by
  simp [zput]
theorem zput_n {σ : zHp} {k i k' i' : Nat} {c : zCell} (h : ¬ (k' = k ∧ i' = i)) : zput σ k i c k' i' = σ k' i' := by
  unfold zput
  by_cases h1 : k' = k
  · have h2 : i' ≠ i := fun e => h ⟨h1, e⟩
    rw [znb h2, Bool.and_false, cond_false]
  · rw [znb h1, Bool.false_and, cond_false]
theorem zput_live {σ : zHp} {k i : Nat} {c : zCell} {k' i' : Nat} (h : σ k' i' ≠ none) : zput σ k i c k' i' ≠ none := by
  by_cases e : k' = k ∧ i' = i
  · obtain ⟨rfl, rfl⟩ := e
    rw [zput_s]
    exact fun z => by cases z
  · rw [zput_n e]
    exact h
theorem zlv_mono {σ σ' : zHp} (h : ∀ k i, σ k i ≠ none → σ' k i ≠ none) {v : zV} (hv : zlv σ v) : zlv σ' v := by
  cases v with
  | inl _ => trivial
  | inr q => exact h _ _ hv
theorem zcl_mono {σ σ' : zHp} (h : ∀ k i, σ k i ≠ none → σ' k i ≠ none) {c : zCell} (hc : zcl σ c) : zcl σ' c := by
  match c, hc with
  | .inl o, hc => exact fun v hv => zlv_mono h (hc v hv)
  | .inr (.inl _), _ => trivial
  | .inr (.inr (.inl _)), _ => trivial
  | .inr (.inr (.inr a)), hc => exact fun j q hj => h _ _ (hc j q hj)
theorem zcv_congr {σ : zHp} {loc loc' : zK → Nat} (h : ∀ k i, σ k i ≠ none → loc' (k, i) = loc (k, i)) {v : zV} (hv : zlv σ v) : zcv loc' v = zcv loc v := by
  cases v with
  | inl _ => rfl
  | inr q => exact congrArg Value.ref (h q.1 q.2 hv)
theorem zcc_congr {X : zX} {σ : zHp} {loc loc' : zK → Nat} (h : ∀ k i, σ k i ≠ none → loc' (k, i) = loc (k, i)) {c : zCell} (hc : zcl σ c) : zcc X loc' c = zcc X loc c := by
  match c, hc with
  | .inl o, hc =>
    show Sum.inr (o.1, o.2.map (zcv loc')) = Sum.inr (o.1, o.2.map (zcv loc))
    rw [List.map_congr_left (fun v hv => zcv_congr h (hc v hv))]
  | .inr (.inl _), _ => rfl
  | .inr (.inr (.inl _)), _ => rfl
  | .inr (.inr (.inr a)), hc =>
    have e : (fun j => (a.2 j).map loc') = (fun j => (a.2 j).map loc) := by
      funext j
      cases hj : a.2 j with
      | none => rfl
      | some q => exact congrArg some (h q.1 q.2 (hc j q hj))
    show Sum.inl (X.2.1.2.2, a.1, _) = Sum.inl (X.2.1.2.2, a.1, _)
    rw [e]
theorem zup_s (loc : zK → Nat) (k i q : Nat) : zup loc k i q (k, i) = q := by
  simp [zup]
theorem zup_n {loc : zK → Nat} {k i q k' i' : Nat} (h : ¬ (k' = k ∧ i' = i)) : zup loc k i q (k', i') = loc (k', i') := by
  unfold zup
  by_cases h1 : k' = k
  · have h2 : i' ≠ i := fun e => h ⟨h1, e⟩
    rw [znb h2, Bool.and_false, cond_false]
  · rw [znb h1, Bool.false_and, cond_false]
/-- a cell that is written -/
theorem zW.put {X : zX} {σ : zHp} {loc : zK → Nat} {H H' : Heap} {k i : Nat} {c0 c : zCell} (h : zW X σ loc H) (h0 : σ k i = some c0) (hk : k < 90) (hat : va_at X.1 vwCl (loc (k, i), zcc X loc c) H') (hc : zcl σ c) (hz : H'.size = H.size) (ho : ∀ q : Nat, q ≠ loc (k, i) → H'[q]? = H[q]?) : zW X (zput σ k i c) loc H' := by
  obtain ⟨h1, h2, h3, h4, h5, h6, h7, h8⟩ := h
  have hl := (h3 k i c0 h0).2.1 hk
  refine ⟨by rw [hz]; exact h1, fun q hq => ?_, fun k' i' c' hc' => ?_, fun a b a' b' x x' hx hx' hxx => ?_, h5, h6, ?_, ?_⟩
  · rw [ho q (fun e => by omega)]
    exact h2 q hq
  · by_cases e : k' = k ∧ i' = i
    · obtain ⟨rfl, rfl⟩ := e
      rw [zput_s] at hc'
      cases hc'
      exact ⟨hat, fun _ => hl, zcl_mono (fun _ _ z => zput_live z) hc⟩
    · rw [zput_n e] at hc'
      obtain ⟨g1, g2, g3⟩ := h3 k' i' c' hc'
      exact ⟨g1.kept (ho _ (fun z => e (h4 k' i' k i c' c0 hc' h0 z))), g2, zcl_mono (fun _ _ z => zput_live z) g3⟩
  · have old : ∀ {a b : Nat} {x : zCell}, zput σ k i c a b = some x → ∃ y, σ a b = some y := by
      intro a b x hx
      by_cases e : a = k ∧ b = i
      · obtain ⟨rfl, rfl⟩ := e
        exact ⟨_, h0⟩
      · rw [zput_n e] at hx
        exact ⟨_, hx⟩
    obtain ⟨y, hy⟩ := old hx
    obtain ⟨y', hy'⟩ := old hx'
    exact h4 _ _ _ _ y y' hy hy' hxx
  · rw [zput_n (fun e => by omega)]; exact h7
  · rw [zput_n (fun e => by omega)]; exact h8
theorem zW.lt {X : zX} {σ : zHp} {loc : zK → Nat} {H : Heap} (h : zW X σ loc H) {k i : Nat} (hs : σ k i ≠ none) : loc (k, i) < H.size := by
  cases hc : σ k i with
  | none => exact absurd hc hs
  | some c => exact (h.2.2.1 k i c hc).1.lt
/-- a cell that is made -/
theorem zW.new {X : zX} {σ : zHp} {loc : zK → Nat} {H H' : Heap} {k i : Nat} {c : zCell} (h : zW X σ loc H) (h0 : σ k i = none) (hk : k < 90) (hc : zcl σ c) (hat : va_at X.1 vwCl (H.size, zcc X loc c) H') (ho : ∀ q : Nat, q < H.size → H'[q]? = H[q]?) (hz : H.size ≤ H'.size) : zW X (zput σ k i c) (zup loc k i H.size) H' := by
  have hcg : ∀ k' i', σ k' i' ≠ none → zup loc k i H.size (k', i') = loc (k', i') := fun k' i' hl => zup_n (fun e => hl (by rw [e.1, e.2]; exact h0))
  have hlt : ∀ {k' i' : Nat} {c' : zCell}, σ k' i' = some c' → loc (k', i') < H.size := fun hc' => h.lt (by rw [hc']; exact fun z => by cases z)
  obtain ⟨h1, h2, h3, h4, h5, h6, h7, h8⟩ := h
  refine ⟨by omega, fun q hq => ?_, fun k' i' c' hc' => ?_, fun a b a' b' x x' hx hx' hxx => ?_, ?_, ?_, ?_, ?_⟩
  · rw [ho q (by omega)]
    exact h2 q hq
  · by_cases e : k' = k ∧ i' = i
    · obtain ⟨rfl, rfl⟩ := e
      rw [zput_s] at hc'
      cases hc'
      rw [zup_s, zcc_congr hcg hc]
      exact ⟨hat, fun _ => h1, zcl_mono (fun _ _ z => zput_live z) hc⟩
    · rw [zput_n e] at hc'
      obtain ⟨g1, g2, g3⟩ := h3 k' i' c' hc'
      rw [zup_n e, zcc_congr hcg g3]
      exact ⟨g1.kept (ho _ (hlt hc')), g2, zcl_mono (fun _ _ z => zput_live z) g3⟩
  · by_cases e : a = k ∧ b = i <;> by_cases e' : a' = k ∧ b' = i
    · exact ⟨e.1.trans e'.1.symm, e.2.trans e'.2.symm⟩
    · rw [zput_n e'] at hx'
      rw [zup_n e', e.1, e.2, zup_s] at hxx
      have := hlt hx'
      omega
    · rw [zput_n e] at hx
      rw [zup_n e, e'.1, e'.2, zup_s] at hxx
      have := hlt hx
      omega
    · rw [zput_n e] at hx
      rw [zput_n e'] at hx'
      rw [zup_n e, zup_n e'] at hxx
      exact h4 _ _ _ _ x x' hx hx' hxx
  · rw [zup_n (fun e => by omega)]; exact h5
  · rw [zup_n (fun e => by omega)]; exact h6
  · rw [zput_n (fun e => by omega)]; exact h7
  · rw [zput_n (fun e => by omega)]; exact h8
/-- the heap grows by what nobody speaks of -/
theorem zW.grow {X : zX} {σ : zHp} {loc : zK → Nat} {H H' : Heap} (h : zW X σ loc H) (hz : H.size ≤ H'.size) (ho : ∀ q : Nat, q < H.size → H'[q]? = H[q]?) : zW X σ loc H' := by
  have hlt : ∀ {k' i' : Nat} {c' : zCell}, σ k' i' = some c' → loc (k', i') < H.size := fun hc' => h.lt (by rw [hc']; exact fun z => by cases z)
  obtain ⟨h1, h2, h3, h4, h5⟩ := h
  refine ⟨by omega, fun q hq => by rw [ho q (by omega)]; exact h2 q hq, fun k i c hc => ?_, h4, h5⟩
  obtain ⟨g1, g2, g3⟩ := h3 k i c hc
  exact ⟨g1.kept (ho _ (hlt hc)), g2, g3⟩
-- what a state owes beside its heap
def zCast : List (String × String) := [(RX0, "java/lang/Object"), (RX1, "java/lang/Object"), (RX2, "java/lang/Object"), (RX3, "java/lang/Object"), (RX4, "java/lang/Object"), (RX5, "java/lang/Object"), ("java/lang/IndexOutOfBoundsException", "java/lang/IndexOutOfBoundsException"), ("java/lang/IllegalArgumentException", "java/lang/IllegalArgumentException"), ("java/lang/IllegalStateException", "java/lang/IllegalStateException"), ("java/util/NoSuchElementException", "java/util/NoSuchElementException")]
def zNcst : List (String × String) := [("java/lang/IllegalArgumentException", "java/lang/IndexOutOfBoundsException"), ("java/lang/IllegalStateException", "java/lang/IndexOutOfBoundsException"), ("java/lang/IllegalStateException", "java/lang/IllegalArgumentException"), ("java/util/NoSuchElementException", "java/lang/IndexOutOfBoundsException")]
def zStr : List (Nat × String) := [(42, "it would be later than the last day"), (70, "there is no such place"), (81, "there is no such rule"), (128, "both sellers are the same"), (139, "the seller has less"), (149, "the chance cannot come to this stage"), (214, "the seller cannot approve the quote, or it is approved"), (222, "no quote counts"), (238, "there is no such freeze"), (240, "there is no such account"), (242, "there is no such seller"), (244, "there is no such chance"), (246, "there is no such quote"), (248, "an argument is out of range"), (250, "there are as many as there can be"), (252, "the chance is won or lost")]
def zDec : List MethodName := [Bundle.initS "java/lang/RuntimeException", Bundle.initS "java/lang/Exception", Bundle.initS "java/lang/Throwable"]
def zS (X : zX) (U : State) : Prop :=
  va_K X.1 vwCl [(X.2.1.1, .int), (X.2.1.2.1, .long), (X.2.1.2.2, .object "java/lang/Object")] U ∧
  (∀ q ∈ zCast, va_Nw (.castable q.1 q.2) U) ∧ (∀ q ∈ zNcst, va_Nc q.1 q.2 U) ∧ va_AO "java/lang/Object" U ∧ (va_Nw (.methodLinkNest RX6 234 yX2_init RX6) U ∧ (∀ y ∈ zDec, va_Nw (.declares y) U) ∧ va_Mi "[Ljava/lang/Object;" X.2.2.2.2.2 U ∧ va_Dc U) ∧
  vx_Zq Bundle.tN "UNASSIGNED_STACK" Bundle.steD (zA X) U (zHs X) ∧ vx_Zq Bundle.tN "SUPPRESSED_SENTINEL" Bundle.listD (zA X) U (zHs X) ∧
  va_Z RJx4a65c "DEFAULTCAPACITY_EMPTY_ELEMENTDATA" "[Ljava/lang/Object;" (.ref X.2.2.2.1) (zA X) U (zHs X) ∧ va_Z RX6 "WEIGHTS" "[I" (.ref X.2.2.2.2.1) (zA X) U (zHs X) ∧
  (∀ q ∈ zStr, ∃ sa : Nat, vk_R RX6 q.1 q.2 sa U)
theorem zS.warm {X : zX} {s U : State} (hW : s.WarmedH U.vm) (h : zS X s) : zS X U := by
  obtain ⟨h1, h2, h3, h4, h5, h6, h7, h8, h9, h10⟩ := h
  exact ⟨va_K.moved hW.alike h1, fun q hq => va_Nw.warmC hW (h2 q hq), fun q hq => va_Nc.moved hW.alike (h3 q hq), va_AO.moved hW.alike h4, ⟨va_Nw.warmM hW h5.1, fun y hy => va_Nw.warmD hW (h5.2.1 y hy), va_Mi.moved hW.alike h5.2.2.1, va_Dc.moved hW.alike h5.2.2.2⟩, vx_Zq.moved hW.alike h6, vx_Zq.moved hW.alike h7, va_Z.moved hW.alike h8, va_Z.moved hW.alike h9,
    fun q hq => by obtain ⟨sa, hs⟩ := h10 q hq; exact ⟨sa, vk_R.warm hW hs⟩⟩
theorem zS.same {X : zX} {s U : State} (hv : U.vm = s.vm) (h : zS X s) : zS X U := by
  have hA : s.vm.Alike U.vm := by rw [hv]; exact Vm.Alike.refl _
  obtain ⟨h1, h2, h3, h4, h5, h6, h7, h8, h9, h10⟩ := h
  exact ⟨va_K.moved hA h1, fun q hq => va_Nw.same rfl hv.symm (h2 q hq), fun q hq => va_Nc.moved hA (h3 q hq), va_AO.moved hA h4, ⟨va_Nw.same rfl hv.symm h5.1, fun y hy => va_Nw.same rfl hv.symm (h5.2.1 y hy), va_Mi.moved hA h5.2.2.1, va_Dc.moved hA h5.2.2.2⟩, vx_Zq.moved hA h6, vx_Zq.moved hA h7, va_Z.moved hA h8, va_Z.moved hA h9,
    fun q hq => by obtain ⟨sa, hs⟩ := h10 q hq; exact ⟨sa, vk_R.same hv hs⟩⟩
-- frames
def zcat : zV → Prop
  | .inl v => v.category = 1
  | .inr _ => True
def zl : List (Nat × zV) → Nat → Option zV
  | [], _ => none
  | q :: r, i => cond (Nat.beq q.1 i) (some q.2) (zl r i)
def zst (L : List (Nat × zV)) (i : Nat) (v : zV) : List (Nat × zV) := (i, v) :: L.filter (fun q => !(Nat.beq q.1 i))
theorem zl_mem {L : List (Nat × zV)} {i : Nat} {v : zV} (h : zl L i = some v) : (i, v) ∈ L := by
  induction L with
  | nil => cases h
  | cons q r ih =>
    by_cases e : q.1 = i
    · have h1 : zl (q :: r) i = some q.2 := by simp [zl, e]
      rw [h1] at h
      cases h
      subst e
      exact List.mem_cons_self
    · have h1 : zl (q :: r) i = zl r i := by show cond (Nat.beq q.1 i) (some q.2) (zl r i) = _; rw [znb e, cond_false]
      rw [h1] at h
      exact List.mem_cons_of_mem _ (ih h)
def zLe (σ0 : zHp) (loc0 : zK → Nat) (σ : zHp) (loc : zK → Nat) : Prop := ∀ k i, σ0 k i ≠ none → σ k i ≠ none ∧ loc (k, i) = loc0 (k, i)
theorem zLe.rf {σ : zHp} {loc : zK → Nat} : zLe σ loc σ loc := fun _ _ h => ⟨h, rfl⟩
theorem zLe.trans {σ0 σ1 σ2 : zHp} {l0 l1 l2 : zK → Nat} (h : zLe σ0 l0 σ1 l1) (h' : zLe σ1 l1 σ2 l2) : zLe σ0 l0 σ2 l2 := fun k i hl => ⟨(h' k i (h k i hl).1).1, (h' k i (h k i hl).1).2.trans (h k i hl).2⟩
def zcL (loc : zK → Nat) (L : List (Nat × zV)) : List (Nat × Value) := L.map (fun q => (q.1, zcv loc q.2))
def zI (X : zX) (s : State) (nL : Nat) (σ0 : zHp) (loc0 : zK → Nat) (σ : zHp) (L : List (Nat × zV)) (st : List zV) (loc : zK → Nat) (H : Heap) (locs : List Loc) (ls : Array Slot) : Prop :=
  zW X σ loc H ∧ zLe σ0 loc0 σ loc ∧ (∀ q ∈ L, zlv σ q.2 ∧ zcat q.2) ∧ (∀ v ∈ st, zlv σ v) ∧ va_S (zA X) s.heap H locs ∧ lv_has ls nL (zcL loc L)
theorem zcat_cv {loc : zK → Nat} {v : zV} (h : zcat v) : (zcv loc v).category = 1 := by
  cases v with
  | inl w => exact h
  | inr q => rfl
theorem zcL_st (loc : zK → Nat) {L : List (Nat × zV)} (hc : ∀ q ∈ L, zcat q.2) (i : Nat) (v : zV) : (i, zcv loc v) :: (zcL loc L).filter (fun q => !(q.1 == i) && !(q.1 + 1 == i && q.2.category == 2)) = zcL loc (zst L i v) := by
  unfold zst zcL
  rw [List.map_cons]
  congr 1
  induction L with
  | nil => rfl
  | cons q r ih =>
    have h1 : (zcv loc q.2).category = 1 := zcat_cv (hc q List.mem_cons_self)
    have ih := ih (fun x hx => hc x (List.mem_cons_of_mem _ hx))
    rw [List.map_cons, List.filter_cons, List.filter_cons]
    by_cases e : q.1 = i
    · simp only [e, beq_self_eq_true, Bool.not_true, Bool.false_and, Nat.beq_refl]
      exact ih
    · have e1 : (q.1 == i) = false := beq_eq_false_iff_ne.mpr e
      have e2 : Nat.beq q.1 i = false := znb e
      simp only [e1, e2, h1, Bool.not_false, Bool.true_and]
      simp only [show ((1 : Nat) == 2) = false from rfl, Bool.and_false, Bool.not_false, if_true]
      rw [List.map_cons]
      exact congrArg _ ih
theorem zst_ok {σ : zHp} {L : List (Nat × zV)} {i : Nat} {v : zV} (h : ∀ q ∈ L, zlv σ q.2 ∧ zcat q.2) (hv : zlv σ v ∧ zcat v) : ∀ q ∈ zst L i v, zlv σ q.2 ∧ zcat q.2 := by
  intro q hq
  rcases List.mem_cons.mp hq with e | hq
  · rw [e]; exact hv
  · exact h q (List.mem_filter.mp hq).1
def zC (X : zX) (p : Program) (l : Launch) (s : State) (m : MethodId) (args : Array Value) (meth : Method) (c : Code) (cc : ByteArray) (nL : Nat) (own : String) : Prop :=
  p.tables.exec = Jvm.exec ∧ c.code = cc ∧ c.maxLocals = nL ∧ s.vm.findClass own = some m.cls ∧ (∀ w ∈ zT, w.before args s = true) ∧ zS X s ∧ l.stackTraces = false ∧ meth.locks = false ∧ zsz X ≤ s.heap.size ∧ (∀ q : Nat, q < zsz X → s.heap[q]? = (zHs X)[q]?)
def zG (X : zX) (p : Program) (l : Launch) (e : Env) (R : Room) (s : State) (m : MethodId) (args : Array Value) (below : List Frame) (meth : Method) (c : Code) (nL : Nat) (σ0 : zHp) (loc0 : zK → Nat) (Q : State → Prop) (cells slots : Nat) (σ : zHp) (pc : Nat) (L : List (Nat × zV)) (st : List zV) : Prop :=
  ∀ (loc : zK → Nat) (H : Heap) (locs : List Loc) (ls : Array Slot), zI X s nL σ0 loc0 σ L st loc H locs ls → W p l e R s m args below meth c H locs cells slots Q (F0 m pc ls (st.map (zcv loc)))
section ZR
variable {X : zX} {p : Program} {l : Launch} {e : Env} {R : Room} {s : State} {m : MethodId} {args : Array Value} {below : List Frame} {meth : Method} {c : Code} {nL : Nat} {σ0 σ : zHp} {loc0 : zK → Nat} {Q : State → Prop} {cells slots pc : Nat} {L : List (Nat × zV)} {st : List zV} {cc : ByteArray} {own : String}
theorem zC.x (C : zC X p l s m args meth c cc nL own) : p.tables.exec = Jvm.exec := C.1
theorem zC.b (C : zC X p l s m args meth c cc nL own) : c.code = cc := C.2.1
theorem zC.ml (C : zC X p l s m args meth c cc nL own) : c.maxLocals = nL := C.2.2.1
theorem zC.ow (C : zC X p l s m args meth c cc nL own) : s.vm.findClass own = some m.cls := C.2.2.2.1
theorem zC.ts (C : zC X p l s m args meth c cc nL own) : ∀ w ∈ zT, w.before args s = true := C.2.2.2.2.1
theorem zC.S (C : zC X p l s m args meth c cc nL own) : zS X s := C.2.2.2.2.2.1
theorem zC.K (C : zC X p l s m args meth c cc nL own) : va_K X.1 vwCl [(X.2.1.1, .int), (X.2.1.2.1, .long), (X.2.1.2.2, .object "java/lang/Object")] s := C.2.2.2.2.2.1.1
theorem zC.fix (C : zC X p l s m args meth c cc nL own) : CallFix p m c cc nL s args zT own := ⟨C.1, C.2.1, C.2.2.1, C.2.2.2.1, C.2.2.2.2.1⟩
-- the invariant moved along
variable {loc : zK → Nat} {H : Heap} {locs : List Loc} {ls : Array Slot} {st' : List zV}
theorem zI.sk (h : zI X s nL σ0 loc0 σ L st loc H locs ls) (hs : (∀ v ∈ st, zlv σ v) → ∀ v ∈ st', zlv σ v) : zI X s nL σ0 loc0 σ L st' loc H locs ls := ⟨h.1, h.2.1, h.2.2.1, hs h.2.2.2.1, h.2.2.2.2⟩
theorem zI.gt (h : zI X s nL σ0 loc0 σ L st loc H locs ls) {i : Nat} {v : zV} (hl : zl L i = some v) : ls[i]? = some (.val (zcv loc v)) :=
  h.2.2.2.2.2.2.2 (i, zcv loc v) (List.mem_map.mpr ⟨(i, v), zl_mem hl, rfl⟩)
theorem zI.lat (h : zI X s nL σ0 loc0 σ L st loc H locs ls) {i : Nat} {v : zV} (hl : zl L i = some v) : zlv σ v ∧ zcat v := h.2.2.1 (i, v) (zl_mem hl)
theorem zI.sub (h : zI X s nL σ0 loc0 σ L st loc H locs ls) {L' : List (Nat × zV)} (hs : ∀ q ∈ L', zl L q.1 = some q.2) : zI X s nL σ0 loc0 σ L' st loc H locs ls :=
  ⟨h.1, h.2.1, fun q hq => h.lat (hs q hq), h.2.2.2.1, h.2.2.2.2.1, h.2.2.2.2.2.1, h.2.2.2.2.2.2.1, fun x hx => by
    obtain ⟨q, hq, rfl⟩ := List.mem_map.mp hx
    exact h.gt (hs q hq)⟩
theorem zI.sto (h : zI X s nL σ0 loc0 σ L (st) loc H locs ls) {i : Nat} {v : zV} (hv : zlv σ v ∧ zcat v) {ls' : Array Slot} (h' : lv_has ls' nL (zcL loc (zst L i v))) : zI X s nL σ0 loc0 σ (zst L i v) st loc H locs ls' :=
  ⟨h.1, h.2.1, zst_ok h.2.2.1 hv, h.2.2.2.1, h.2.2.2.2.1, h'⟩
theorem zl_tl {a : zV} (h : ∀ v ∈ a :: st, zlv σ v) : ∀ v ∈ st, zlv σ v := fun v hv => h v (List.mem_cons_of_mem _ hv)
theorem zl_tl2 {a b : zV} (h : ∀ v ∈ a :: b :: st, zlv σ v) : ∀ v ∈ st, zlv σ v := zl_tl (zl_tl h)
theorem zl_tl3 {a b d : zV} (h : ∀ v ∈ a :: b :: d :: st, zlv σ v) : ∀ v ∈ st, zlv σ v := zl_tl (zl_tl2 h)
theorem zl_cn {a : zV} (ha : zlv σ a) (h : ∀ v ∈ st, zlv σ v) : ∀ v ∈ a :: st, zlv σ v := fun v hv => (List.mem_cons.mp hv).elim (fun e => by rw [e]; exact ha) (h v)
theorem zl_cp {w : Value} (h : ∀ v ∈ st, zlv σ v) : ∀ v ∈ (Sum.inl w : zV) :: st, zlv σ v := zl_cn (a := .inl w) trivial h
theorem zl_hd {a : zV} (h : ∀ v ∈ a :: st, zlv σ v) : zlv σ a := h a List.mem_cons_self
theorem z_go {pc' : Nat} (hlv : (∀ v ∈ st, zlv σ v) → ∀ v ∈ st', zlv σ v) (hw : ∀ (loc : zK → Nat) (H : Heap) (locs : List Loc) (ls : Array Slot), W p l e R s m args below meth c H locs cells slots Q (F0 m pc' ls (st'.map (zcv loc))) → W p l e R s m args below meth c H locs cells slots Q (F0 m pc ls (st.map (zcv loc))))
    (kk : zG X p l e R s m args below meth c nL σ0 loc0 Q cells slots σ pc' L st') : zG X p l e R s m args below meth c nL σ0 loc0 Q cells slots σ pc L st := fun loc H locs ls hI => hw loc H locs ls (kk loc H locs ls (hI.sk hlv))
/-- fewer locals -/
theorem z_sub {L' : List (Nat × zV)} (hs : ∀ q ∈ L', zl L q.1 = some q.2) (kk : zG X p l e R s m args below meth c nL σ0 loc0 Q cells slots σ pc L' st) : zG X p l e R s m args below meth c nL σ0 loc0 Q cells slots σ pc L st := fun loc H locs ls hI => kk loc H locs ls (hI.sub hs)
theorem zs0 : ∀ q ∈ ([] : List (Nat × zV)), zl L q.1 = some q.2 := fun _ h => by cases h
theorem zs1 {q : Nat × zV} {L' : List (Nat × zV)} (h : zl L q.1 = some q.2) (t : ∀ q ∈ L', zl L q.1 = some q.2) : ∀ x ∈ q :: L', zl L x.1 = some x.2 := fun x hx => (List.mem_cons.mp hx).elim (fun e => by rw [e]; exact h) (t x)
-- constants, locals
theorem z_iconst (C : zC X p l s m args meth c cc nL own) {n : Int} (hd : decode cc pc = .ok (.iconst n, 1)) {v : Int32} (hv : Int32.ofInt n = v) (kk : zG X p l e R s m args below meth c nL σ0 loc0 Q cells slots σ (pc + 1) L (aI v :: st)) : zG X p l e R s m args below meth c nL σ0 loc0 Q cells slots σ pc L st := z_go (fun h => zl_cp h) (fun _ _ _ _ k => lv_iconst C.x C.b hd hv k) kk
theorem z_bipush (C : zC X p l s m args meth c cc nL own) {n : Int} (hd : decode cc pc = .ok (.bipush n, 2)) {v : Int32} (hv : (Int8.ofInt n).toInt32 = v) (kk : zG X p l e R s m args below meth c nL σ0 loc0 Q cells slots σ (pc + 2) L (aI v :: st)) : zG X p l e R s m args below meth c nL σ0 loc0 Q cells slots σ pc L st := z_go (fun h => zl_cp h) (fun _ _ _ _ k => lv_bipush C.x C.b hd hv k) kk
theorem z_sipush (C : zC X p l s m args meth c cc nL own) {n : Int} (hd : decode cc pc = .ok (.sipush n, 3)) {v : Int32} (hv : (Int16.ofInt n).toInt32 = v) (kk : zG X p l e R s m args below meth c nL σ0 loc0 Q cells slots σ (pc + 3) L (aI v :: st)) : zG X p l e R s m args below meth c nL σ0 loc0 Q cells slots σ pc L st := z_go (fun h => zl_cp h) (fun _ _ _ _ k => lv_sipush C.x C.b hd hv k) kk
theorem z_ldc (C : zC X p l s m args meth c cc nL own) {i : Nat} {v : Int32} (hd : decode cc pc = .ok (.ldc i, 2)) (hw : Cond.constant own i v ∈ zT) (kk : zG X p l e R s m args below meth c nL σ0 loc0 Q cells slots σ (pc + 2) L (aI v :: st)) : zG X p l e R s m args below meth c nL σ0 loc0 Q cells slots σ pc L st := z_go (fun h => zl_cp h) (fun _ _ _ _ k => lv_ldc C.x C.b C.ow (C.ts _ hw) hd k) kk
theorem z_null (C : zC X p l s m args meth c cc nL own) (hd : decode cc pc = .ok (.aconst_null, 1)) (kk : zG X p l e R s m args below meth c nL σ0 loc0 Q cells slots σ (pc + 1) L (aN :: st)) : zG X p l e R s m args below meth c nL σ0 loc0 Q cells slots σ pc L st := z_go (fun h => zl_cp h) (fun _ _ _ _ k => lv_null C.x C.b hd k) kk
theorem z_iload_n (C : zC X p l s m args meth c cc nL own) {k : Fin 4} {i : Nat} {x : Int32} (hd : decode cc pc = .ok (.iload_n k, 1)) (hi : (k : Nat) = i) (hl : zl L i = some (aI x)) (kk : zG X p l e R s m args below meth c nL σ0 loc0 Q cells slots σ (pc + 1) L (aI x :: st)) : zG X p l e R s m args below meth c nL σ0 loc0 Q cells slots σ pc L st := fun loc H locs ls hI => lv_iload_n C.x C.b hd hi (hI.gt hl) (kk loc H locs ls (hI.sk (fun h => zl_cp h)))
theorem z_iload (C : zC X p l s m args meth c cc nL own) {i : Nat} {x : Int32} (hd : decode cc pc = .ok (.iload i, 2)) (hl : zl L i = some (aI x)) (kk : zG X p l e R s m args below meth c nL σ0 loc0 Q cells slots σ (pc + 2) L (aI x :: st)) : zG X p l e R s m args below meth c nL σ0 loc0 Q cells slots σ pc L st := fun loc H locs ls hI => lv_iload C.x C.b hd (hI.gt hl) (kk loc H locs ls (hI.sk (fun h => zl_cp h)))
theorem z_aload_n (C : zC X p l s m args meth c cc nL own) {k : Fin 4} {i : Nat} {q : zK} (hd : decode cc pc = .ok (.aload_n k, 1)) (hi : (k : Nat) = i) (hl : zl L i = some (.inr q)) (kk : zG X p l e R s m args below meth c nL σ0 loc0 Q cells slots σ (pc + 1) L (.inr q :: st)) : zG X p l e R s m args below meth c nL σ0 loc0 Q cells slots σ pc L st := fun loc H locs ls hI => lv_aload_n C.x C.b hd hi (hI.gt hl) (kk loc H locs ls (hI.sk (fun h => zl_cn (hI.lat hl).1 h)))
theorem z_aload (C : zC X p l s m args meth c cc nL own) {i : Nat} {q : zK} (hd : decode cc pc = .ok (.aload i, 2)) (hl : zl L i = some (.inr q)) (kk : zG X p l e R s m args below meth c nL σ0 loc0 Q cells slots σ (pc + 2) L (.inr q :: st)) : zG X p l e R s m args below meth c nL σ0 loc0 Q cells slots σ pc L st := fun loc H locs ls hI => lv_aload C.x C.b hd (hI.gt hl) (kk loc H locs ls (hI.sk (fun h => zl_cn (hI.lat hl).1 h)))
theorem z_aload_nN (C : zC X p l s m args meth c cc nL own) {k : Fin 4} {i : Nat} (hd : decode cc pc = .ok (.aload_n k, 1)) (hi : (k : Nat) = i) (hl : zl L i = some aN) (kk : zG X p l e R s m args below meth c nL σ0 loc0 Q cells slots σ (pc + 1) L (aN :: st)) : zG X p l e R s m args below meth c nL σ0 loc0 Q cells slots σ pc L st := fun loc H locs ls hI => lv_aload_nN C.x C.b hd hi (hI.gt hl) (kk loc H locs ls (hI.sk (fun h => zl_cp h)))
theorem z_aloadN (C : zC X p l s m args meth c cc nL own) {i : Nat} (hd : decode cc pc = .ok (.aload i, 2)) (hl : zl L i = some aN) (kk : zG X p l e R s m args below meth c nL σ0 loc0 Q cells slots σ (pc + 2) L (aN :: st)) : zG X p l e R s m args below meth c nL σ0 loc0 Q cells slots σ pc L st := fun loc H locs ls hI => lv_aloadN C.x C.b hd (hI.gt hl) (kk loc H locs ls (hI.sk (fun h => zl_cp h)))
theorem z_aload_nO (C : zC X p l s m args meth c cc nL own) {k : Fin 4} {i : Nat} {o : Option zK} (hd : decode cc pc = .ok (.aload_n k, 1)) (hi : (k : Nat) = i) (hl : zl L i = some (aO o)) (kk : zG X p l e R s m args below meth c nL σ0 loc0 Q cells slots σ (pc + 1) L (aO o :: st)) : zG X p l e R s m args below meth c nL σ0 loc0 Q cells slots σ pc L st := by
  cases o with
  | none => exact z_aload_nN C hd hi hl kk
  | some q => exact z_aload_n C hd hi hl kk
theorem z_aloadO (C : zC X p l s m args meth c cc nL own) {i : Nat} {o : Option zK} (hd : decode cc pc = .ok (.aload i, 2)) (hl : zl L i = some (aO o)) (kk : zG X p l e R s m args below meth c nL σ0 loc0 Q cells slots σ (pc + 2) L (aO o :: st)) : zG X p l e R s m args below meth c nL σ0 loc0 Q cells slots σ pc L st := by
  cases o with
  | none => exact z_aloadN C hd hl kk
  | some q => exact z_aload C hd hl kk
theorem z_istore_n (C : zC X p l s m args meth c cc nL own) {k : Fin 4} {i : Nat} {x : Int32} (hd : decode cc pc = .ok (.istore_n k, 1)) (hi : (k : Nat) = i) (hn : i < nL) (kk : zG X p l e R s m args below meth c nL σ0 loc0 Q cells slots σ (pc + 1) (zst L i (aI x)) st) : zG X p l e R s m args below meth c nL σ0 loc0 Q cells slots σ pc L (aI x :: st) := fun loc H locs ls hI => lv_istore_n C.x C.b hd hi hI.2.2.2.2.2 hn (zcL_st loc (fun q hq => (hI.2.2.1 q hq).2) i (aI x)) (fun ls' h' => kk loc H locs ls' ((hI.sk zl_tl).sto (v := aI x) ⟨trivial, rfl⟩ h'))
theorem z_istore (C : zC X p l s m args meth c cc nL own) {i : Nat} {x : Int32} (hd : decode cc pc = .ok (.istore i, 2)) (hn : i < nL) (kk : zG X p l e R s m args below meth c nL σ0 loc0 Q cells slots σ (pc + 2) (zst L i (aI x)) st) : zG X p l e R s m args below meth c nL σ0 loc0 Q cells slots σ pc L (aI x :: st) := fun loc H locs ls hI => lv_istore C.x C.b hd hI.2.2.2.2.2 hn (zcL_st loc (fun q hq => (hI.2.2.1 q hq).2) i (aI x)) (fun ls' h' => kk loc H locs ls' ((hI.sk zl_tl).sto (v := aI x) ⟨trivial, rfl⟩ h'))
theorem z_astore_n (C : zC X p l s m args meth c cc nL own) {k : Fin 4} {i : Nat} {q : zK} (hd : decode cc pc = .ok (.astore_n k, 1)) (hi : (k : Nat) = i) (hn : i < nL) (kk : zG X p l e R s m args below meth c nL σ0 loc0 Q cells slots σ (pc + 1) (zst L i (.inr q)) st) : zG X p l e R s m args below meth c nL σ0 loc0 Q cells slots σ pc L (.inr q :: st) := fun loc H locs ls hI => lv_astore_n C.x C.b hd hi hI.2.2.2.2.2 hn (zcL_st loc (fun q hq => (hI.2.2.1 q hq).2) i (.inr q)) (fun ls' h' => kk loc H locs ls' ((hI.sk zl_tl).sto ⟨zl_hd hI.2.2.2.1, trivial⟩ h'))
theorem z_astore (C : zC X p l s m args meth c cc nL own) {i : Nat} {q : zK} (hd : decode cc pc = .ok (.astore i, 2)) (hn : i < nL) (kk : zG X p l e R s m args below meth c nL σ0 loc0 Q cells slots σ (pc + 2) (zst L i (.inr q)) st) : zG X p l e R s m args below meth c nL σ0 loc0 Q cells slots σ pc L (.inr q :: st) := fun loc H locs ls hI => lv_astore C.x C.b hd hI.2.2.2.2.2 hn (zcL_st loc (fun q hq => (hI.2.2.1 q hq).2) i (.inr q)) (fun ls' h' => kk loc H locs ls' ((hI.sk zl_tl).sto ⟨zl_hd hI.2.2.2.1, trivial⟩ h'))
theorem z_astore_nN (C : zC X p l s m args meth c cc nL own) {k : Fin 4} {i : Nat} (hd : decode cc pc = .ok (.astore_n k, 1)) (hi : (k : Nat) = i) (hn : i < nL) (kk : zG X p l e R s m args below meth c nL σ0 loc0 Q cells slots σ (pc + 1) (zst L i aN) st) : zG X p l e R s m args below meth c nL σ0 loc0 Q cells slots σ pc L (aN :: st) := fun loc H locs ls hI => lv_astore_nN C.x C.b hd hi hI.2.2.2.2.2 hn (zcL_st loc (fun q hq => (hI.2.2.1 q hq).2) i aN) (fun ls' h' => kk loc H locs ls' ((hI.sk zl_tl).sto (v := aN) ⟨trivial, rfl⟩ h'))
theorem z_astoreN (C : zC X p l s m args meth c cc nL own) {i : Nat} (hd : decode cc pc = .ok (.astore i, 2)) (hn : i < nL) (kk : zG X p l e R s m args below meth c nL σ0 loc0 Q cells slots σ (pc + 2) (zst L i aN) st) : zG X p l e R s m args below meth c nL σ0 loc0 Q cells slots σ pc L (aN :: st) := fun loc H locs ls hI => lv_astoreN C.x C.b hd hI.2.2.2.2.2 hn (zcL_st loc (fun q hq => (hI.2.2.1 q hq).2) i aN) (fun ls' h' => kk loc H locs ls' ((hI.sk zl_tl).sto (v := aN) ⟨trivial, rfl⟩ h'))
theorem z_astore_nO (C : zC X p l s m args meth c cc nL own) {k : Fin 4} {i : Nat} {o : Option zK} (hd : decode cc pc = .ok (.astore_n k, 1)) (hi : (k : Nat) = i) (hn : i < nL) (kk : zG X p l e R s m args below meth c nL σ0 loc0 Q cells slots σ (pc + 1) (zst L i (aO o)) st) : zG X p l e R s m args below meth c nL σ0 loc0 Q cells slots σ pc L (aO o :: st) := by
  cases o with
  | none => exact z_astore_nN C hd hi hn kk
  | some q => exact z_astore_n C hd hi hn kk
theorem z_astoreO (C : zC X p l s m args meth c cc nL own) {i : Nat} {o : Option zK} (hd : decode cc pc = .ok (.astore i, 2)) (hn : i < nL) (kk : zG X p l e R s m args below meth c nL σ0 loc0 Q cells slots σ (pc + 2) (zst L i (aO o)) st) : zG X p l e R s m args below meth c nL σ0 loc0 Q cells slots σ pc L (aO o :: st) := by
  cases o with
  | none => exact z_astoreN C hd hn kk
  | some q => exact z_astore C hd hn kk
theorem z_iinc (C : zC X p l s m args meth c cc nL own) {i : Nat} {n : Int} {x : Int32} (hd : decode cc pc = .ok (.iinc i n, 3)) (hn : i < nL) (hl : zl L i = some (aI x)) {v : Int32} (hv : x + Int32.ofInt n = v) (kk : zG X p l e R s m args below meth c nL σ0 loc0 Q cells slots σ (pc + 3) (zst L i (aI v)) st) : zG X p l e R s m args below meth c nL σ0 loc0 Q cells slots σ pc L st := fun loc H locs ls hI => by
  obtain ⟨k, hk⟩ := List.getElem?_of_mem (show (i, Value.int x) ∈ zcL loc L from List.mem_map.mpr ⟨(i, aI x), zl_mem hl, rfl⟩)
  exact lv_iinc C.x C.b hd hI.2.2.2.2.2 hk hv hn (zcL_st loc (fun q hq => (hI.2.2.1 q hq).2) i (aI v)) (fun ls' h' => kk loc H locs ls' (hI.sto (v := aI v) ⟨trivial, rfl⟩ h'))
-- the stack, numbers
theorem z_dup (C : zC X p l s m args meth c cc nL own) {a : zV} (ha : zcat a) (hd : decode cc pc = .ok (.dup, 1)) (kk : zG X p l e R s m args below meth c nL σ0 loc0 Q cells slots σ (pc + 1) L (a :: a :: st)) : zG X p l e R s m args below meth c nL σ0 loc0 Q cells slots σ pc L (a :: st) := z_go (fun h => zl_cn (zl_hd h) h) (fun _ _ _ _ k => lv_dup C.x C.b hd (zcat_cv ha) k) kk
theorem z_dup2 (C : zC X p l s m args meth c cc nL own) {a b : zV} (ha : zcat a) (hb : zcat b) (hd : decode cc pc = .ok (.dup2, 1)) (kk : zG X p l e R s m args below meth c nL σ0 loc0 Q cells slots σ (pc + 1) L (a :: b :: a :: b :: st)) : zG X p l e R s m args below meth c nL σ0 loc0 Q cells slots σ pc L (a :: b :: st) := z_go (fun h => zl_cn (zl_hd h) (zl_cn (zl_hd (zl_tl h)) h)) (fun _ _ _ _ k => lv_dup2_11 C.x C.b hd (zcat_cv ha) (zcat_cv hb) k) kk
theorem z_dup_x1 (C : zC X p l s m args meth c cc nL own) {a b : zV} (ha : zcat a) (hb : zcat b) (hd : decode cc pc = .ok (.dup_x1, 1)) (kk : zG X p l e R s m args below meth c nL σ0 loc0 Q cells slots σ (pc + 1) L (a :: b :: a :: st)) : zG X p l e R s m args below meth c nL σ0 loc0 Q cells slots σ pc L (a :: b :: st) := z_go (fun h => zl_cn (zl_hd h) (zl_cn (zl_hd (zl_tl h)) (zl_cn (zl_hd h) (zl_tl2 h)))) (fun _ _ _ _ k => lv_dup_x1 C.x C.b hd (zcat_cv ha) (zcat_cv hb) k) kk
theorem z_pop (C : zC X p l s m args meth c cc nL own) {a : zV} (ha : zcat a) (hd : decode cc pc = .ok (.pop, 1)) (kk : zG X p l e R s m args below meth c nL σ0 loc0 Q cells slots σ (pc + 1) L st) : zG X p l e R s m args below meth c nL σ0 loc0 Q cells slots σ pc L (a :: st) := z_go zl_tl (fun _ _ _ _ k => lv_pop C.x C.b hd (zcat_cv ha) k) kk
theorem z_iadd (C : zC X p l s m args meth c cc nL own) {x y : Int32} (hd : decode cc pc = .ok (.iadd, 1)) (kk : zG X p l e R s m args below meth c nL σ0 loc0 Q cells slots σ (pc + 1) L (aI (x + y) :: st)) : zG X p l e R s m args below meth c nL σ0 loc0 Q cells slots σ pc L (aI y :: aI x :: st) := z_go (fun h => zl_cp (zl_tl2 h)) (fun _ _ _ _ k => lv_iadd C.x C.b hd k) kk
theorem z_isub (C : zC X p l s m args meth c cc nL own) {x y : Int32} (hd : decode cc pc = .ok (.isub, 1)) (kk : zG X p l e R s m args below meth c nL σ0 loc0 Q cells slots σ (pc + 1) L (aI (x - y) :: st)) : zG X p l e R s m args below meth c nL σ0 loc0 Q cells slots σ pc L (aI y :: aI x :: st) := z_go (fun h => zl_cp (zl_tl2 h)) (fun _ _ _ _ k => lv_isub C.x C.b hd k) kk
theorem z_imul (C : zC X p l s m args meth c cc nL own) {x y : Int32} (hd : decode cc pc = .ok (.imul, 1)) (kk : zG X p l e R s m args below meth c nL σ0 loc0 Q cells slots σ (pc + 1) L (aI (x * y) :: st)) : zG X p l e R s m args below meth c nL σ0 loc0 Q cells slots σ pc L (aI y :: aI x :: st) := z_go (fun h => zl_cp (zl_tl2 h)) (fun _ _ _ _ k => lv_imul C.x C.b hd k) kk
theorem z_idiv (C : zC X p l s m args meth c cc nL own) {x y : Int32} (hd : decode cc pc = .ok (.idiv, 1)) (hne : ¬ y = 0) (kk : zG X p l e R s m args below meth c nL σ0 loc0 Q cells slots σ (pc + 1) L (aI (x / y) :: st)) : zG X p l e R s m args below meth c nL σ0 loc0 Q cells slots σ pc L (aI y :: aI x :: st) := z_go (fun h => zl_cp (zl_tl2 h)) (fun _ _ _ _ k => lv_idiv C.x C.b hd hne k) kk
theorem z_ineg (C : zC X p l s m args meth c cc nL own) {x : Int32} (hd : decode cc pc = .ok (.ineg, 1)) (kk : zG X p l e R s m args below meth c nL σ0 loc0 Q cells slots σ (pc + 1) L (aI (-x) :: st)) : zG X p l e R s m args below meth c nL σ0 loc0 Q cells slots σ pc L (aI x :: st) := z_go (fun h => zl_cp (zl_tl h)) (fun _ _ _ _ k => lv_ineg C.x C.b hd k) kk
theorem z_iand (C : zC X p l s m args meth c cc nL own) {x y : Int32} (hd : decode cc pc = .ok (.iand, 1)) (kk : zG X p l e R s m args below meth c nL σ0 loc0 Q cells slots σ (pc + 1) L (aI (x &&& y) :: st)) : zG X p l e R s m args below meth c nL σ0 loc0 Q cells slots σ pc L (aI y :: aI x :: st) := z_go (fun h => zl_cp (zl_tl2 h)) (fun _ _ _ _ k => lv_iand C.x C.b hd k) kk
theorem z_ior (C : zC X p l s m args meth c cc nL own) {x y : Int32} (hd : decode cc pc = .ok (.ior, 1)) (kk : zG X p l e R s m args below meth c nL σ0 loc0 Q cells slots σ (pc + 1) L (aI (x ||| y) :: st)) : zG X p l e R s m args below meth c nL σ0 loc0 Q cells slots σ pc L (aI y :: aI x :: st) := z_go (fun h => zl_cp (zl_tl2 h)) (fun _ _ _ _ k => lv_ior C.x C.b hd k) kk
theorem z_ishr (C : zC X p l s m args meth c cc nL own) {x y : Int32} (hd : decode cc pc = .ok (.ishr, 1)) (kk : zG X p l e R s m args below meth c nL σ0 loc0 Q cells slots σ (pc + 1) L (aI (x >>> (y &&& 31)) :: st)) : zG X p l e R s m args below meth c nL σ0 loc0 Q cells slots σ pc L (aI y :: aI x :: st) := z_go (fun h => zl_cp (zl_tl2 h)) (fun _ _ _ _ k => lv_ishr C.x C.b hd k) kk
theorem z_i2l (C : zC X p l s m args meth c cc nL own) {x : Int32} (hd : decode cc pc = .ok (.i2l, 1)) (kk : zG X p l e R s m args below meth c nL σ0 loc0 Q cells slots σ (pc + 1) L (aL x.toInt64 :: st)) : zG X p l e R s m args below meth c nL σ0 loc0 Q cells slots σ pc L (aI x :: st) := z_go (fun h => zl_cp (zl_tl h)) (fun _ _ _ _ k => lv_i2l C.x C.b hd rfl k) kk
-- branches
theorem z_if_eq (C : zC X p l s m args meth c cc nL own) {x : Int32} {off : Int} {tgt : Nat} (hd : decode cc pc = .ok (.ifCond .eq off, 3)) (ht : (pc : Int) + off = (tgt : Int)) (kt : x = 0 → zG X p l e R s m args below meth c nL σ0 loc0 Q cells slots σ tgt L st) (kf : ¬ x = 0 → zG X p l e R s m args below meth c nL σ0 loc0 Q cells slots σ (pc + 3) L st) : zG X p l e R s m args below meth c nL σ0 loc0 Q cells slots σ pc L (aI x :: st) := fun loc H locs ls hI => lv_if_eq C.x C.b hd ht (fun h => kt h loc H locs ls (hI.sk zl_tl)) (fun h => kf h loc H locs ls (hI.sk zl_tl))
theorem z_if_ne (C : zC X p l s m args meth c cc nL own) {x : Int32} {off : Int} {tgt : Nat} (hd : decode cc pc = .ok (.ifCond .ne off, 3)) (ht : (pc : Int) + off = (tgt : Int)) (kt : ¬ x = 0 → zG X p l e R s m args below meth c nL σ0 loc0 Q cells slots σ tgt L st) (kf : x = 0 → zG X p l e R s m args below meth c nL σ0 loc0 Q cells slots σ (pc + 3) L st) : zG X p l e R s m args below meth c nL σ0 loc0 Q cells slots σ pc L (aI x :: st) := fun loc H locs ls hI => lv_if_ne C.x C.b hd ht (fun h => kt h loc H locs ls (hI.sk zl_tl)) (fun h => kf h loc H locs ls (hI.sk zl_tl))
theorem z_if_lt (C : zC X p l s m args meth c cc nL own) {x : Int32} {off : Int} {tgt : Nat} (hd : decode cc pc = .ok (.ifCond .lt off, 3)) (ht : (pc : Int) + off = (tgt : Int)) (kt : x < 0 → zG X p l e R s m args below meth c nL σ0 loc0 Q cells slots σ tgt L st) (kf : ¬ x < 0 → zG X p l e R s m args below meth c nL σ0 loc0 Q cells slots σ (pc + 3) L st) : zG X p l e R s m args below meth c nL σ0 loc0 Q cells slots σ pc L (aI x :: st) := fun loc H locs ls hI => lv_if_lt C.x C.b hd ht (fun h => kt h loc H locs ls (hI.sk zl_tl)) (fun h => kf h loc H locs ls (hI.sk zl_tl))
theorem z_if_ge (C : zC X p l s m args meth c cc nL own) {x : Int32} {off : Int} {tgt : Nat} (hd : decode cc pc = .ok (.ifCond .ge off, 3)) (ht : (pc : Int) + off = (tgt : Int)) (kt : 0 ≤ x → zG X p l e R s m args below meth c nL σ0 loc0 Q cells slots σ tgt L st) (kf : ¬ 0 ≤ x → zG X p l e R s m args below meth c nL σ0 loc0 Q cells slots σ (pc + 3) L st) : zG X p l e R s m args below meth c nL σ0 loc0 Q cells slots σ pc L (aI x :: st) := fun loc H locs ls hI => lv_if_ge C.x C.b hd ht (fun h => kt h loc H locs ls (hI.sk zl_tl)) (fun h => kf h loc H locs ls (hI.sk zl_tl))
theorem z_if_gt (C : zC X p l s m args meth c cc nL own) {x : Int32} {off : Int} {tgt : Nat} (hd : decode cc pc = .ok (.ifCond .gt off, 3)) (ht : (pc : Int) + off = (tgt : Int)) (kt : 0 < x → zG X p l e R s m args below meth c nL σ0 loc0 Q cells slots σ tgt L st) (kf : ¬ 0 < x → zG X p l e R s m args below meth c nL σ0 loc0 Q cells slots σ (pc + 3) L st) : zG X p l e R s m args below meth c nL σ0 loc0 Q cells slots σ pc L (aI x :: st) := fun loc H locs ls hI => lv_if_gt C.x C.b hd ht (fun h => kt h loc H locs ls (hI.sk zl_tl)) (fun h => kf h loc H locs ls (hI.sk zl_tl))
theorem z_if_le (C : zC X p l s m args meth c cc nL own) {x : Int32} {off : Int} {tgt : Nat} (hd : decode cc pc = .ok (.ifCond .le off, 3)) (ht : (pc : Int) + off = (tgt : Int)) (kt : x ≤ 0 → zG X p l e R s m args below meth c nL σ0 loc0 Q cells slots σ tgt L st) (kf : ¬ x ≤ 0 → zG X p l e R s m args below meth c nL σ0 loc0 Q cells slots σ (pc + 3) L st) : zG X p l e R s m args below meth c nL σ0 loc0 Q cells slots σ pc L (aI x :: st) := fun loc H locs ls hI => lv_if_le C.x C.b hd ht (fun h => kt h loc H locs ls (hI.sk zl_tl)) (fun h => kf h loc H locs ls (hI.sk zl_tl))
theorem z_icmp_eq (C : zC X p l s m args meth c cc nL own) {x y : Int32} {off : Int} {tgt : Nat} (hd : decode cc pc = .ok (.if_icmp .eq off, 3)) (ht : (pc : Int) + off = (tgt : Int)) (kt : x = y → zG X p l e R s m args below meth c nL σ0 loc0 Q cells slots σ tgt L st) (kf : ¬ x = y → zG X p l e R s m args below meth c nL σ0 loc0 Q cells slots σ (pc + 3) L st) : zG X p l e R s m args below meth c nL σ0 loc0 Q cells slots σ pc L (aI y :: aI x :: st) := fun loc H locs ls hI => lv_icmp_eq C.x C.b hd ht (fun h => kt h loc H locs ls (hI.sk zl_tl2)) (fun h => kf h loc H locs ls (hI.sk zl_tl2))
theorem z_icmp_ne (C : zC X p l s m args meth c cc nL own) {x y : Int32} {off : Int} {tgt : Nat} (hd : decode cc pc = .ok (.if_icmp .ne off, 3)) (ht : (pc : Int) + off = (tgt : Int)) (kt : ¬ x = y → zG X p l e R s m args below meth c nL σ0 loc0 Q cells slots σ tgt L st) (kf : x = y → zG X p l e R s m args below meth c nL σ0 loc0 Q cells slots σ (pc + 3) L st) : zG X p l e R s m args below meth c nL σ0 loc0 Q cells slots σ pc L (aI y :: aI x :: st) := fun loc H locs ls hI => lv_icmp_ne C.x C.b hd ht (fun h => kt h loc H locs ls (hI.sk zl_tl2)) (fun h => kf h loc H locs ls (hI.sk zl_tl2))
theorem z_icmp_lt (C : zC X p l s m args meth c cc nL own) {x y : Int32} {off : Int} {tgt : Nat} (hd : decode cc pc = .ok (.if_icmp .lt off, 3)) (ht : (pc : Int) + off = (tgt : Int)) (kt : x < y → zG X p l e R s m args below meth c nL σ0 loc0 Q cells slots σ tgt L st) (kf : ¬ x < y → zG X p l e R s m args below meth c nL σ0 loc0 Q cells slots σ (pc + 3) L st) : zG X p l e R s m args below meth c nL σ0 loc0 Q cells slots σ pc L (aI y :: aI x :: st) := fun loc H locs ls hI => lv_icmp_lt C.x C.b hd ht (fun h => kt h loc H locs ls (hI.sk zl_tl2)) (fun h => kf h loc H locs ls (hI.sk zl_tl2))
theorem z_icmp_ge (C : zC X p l s m args meth c cc nL own) {x y : Int32} {off : Int} {tgt : Nat} (hd : decode cc pc = .ok (.if_icmp .ge off, 3)) (ht : (pc : Int) + off = (tgt : Int)) (kt : y ≤ x → zG X p l e R s m args below meth c nL σ0 loc0 Q cells slots σ tgt L st) (kf : ¬ y ≤ x → zG X p l e R s m args below meth c nL σ0 loc0 Q cells slots σ (pc + 3) L st) : zG X p l e R s m args below meth c nL σ0 loc0 Q cells slots σ pc L (aI y :: aI x :: st) := fun loc H locs ls hI => lv_icmp_ge C.x C.b hd ht (fun h => kt h loc H locs ls (hI.sk zl_tl2)) (fun h => kf h loc H locs ls (hI.sk zl_tl2))
theorem z_icmp_gt (C : zC X p l s m args meth c cc nL own) {x y : Int32} {off : Int} {tgt : Nat} (hd : decode cc pc = .ok (.if_icmp .gt off, 3)) (ht : (pc : Int) + off = (tgt : Int)) (kt : y < x → zG X p l e R s m args below meth c nL σ0 loc0 Q cells slots σ tgt L st) (kf : ¬ y < x → zG X p l e R s m args below meth c nL σ0 loc0 Q cells slots σ (pc + 3) L st) : zG X p l e R s m args below meth c nL σ0 loc0 Q cells slots σ pc L (aI y :: aI x :: st) := fun loc H locs ls hI => lv_icmp_gt C.x C.b hd ht (fun h => kt h loc H locs ls (hI.sk zl_tl2)) (fun h => kf h loc H locs ls (hI.sk zl_tl2))
theorem z_icmp_le (C : zC X p l s m args meth c cc nL own) {x y : Int32} {off : Int} {tgt : Nat} (hd : decode cc pc = .ok (.if_icmp .le off, 3)) (ht : (pc : Int) + off = (tgt : Int)) (kt : x ≤ y → zG X p l e R s m args below meth c nL σ0 loc0 Q cells slots σ tgt L st) (kf : ¬ x ≤ y → zG X p l e R s m args below meth c nL σ0 loc0 Q cells slots σ (pc + 3) L st) : zG X p l e R s m args below meth c nL σ0 loc0 Q cells slots σ pc L (aI y :: aI x :: st) := fun loc H locs ls hI => lv_icmp_le C.x C.b hd ht (fun h => kt h loc H locs ls (hI.sk zl_tl2)) (fun h => kf h loc H locs ls (hI.sk zl_tl2))
/-- truth values -/
def zb (b : Bool) : Int32 := cond b 1 0
theorem zb_t : ¬ zb true = 0 := by decide
theorem zb_eq0 {b : Bool} : zb b = 0 ↔ b = false := by cases b <;> decide
theorem zb_cv {b : Bool} : ¬ zb b = 0 ↔ b = true := by cases b <;> decide
theorem z_if_eqB (C : zC X p l s m args meth c cc nL own) {b : Bool} {off : Int} {tgt : Nat} (hd : decode cc pc = .ok (.ifCond .eq off, 3)) (ht : (pc : Int) + off = (tgt : Int)) (kt : b = false → zG X p l e R s m args below meth c nL σ0 loc0 Q cells slots σ tgt L st) (kf : b = true → zG X p l e R s m args below meth c nL σ0 loc0 Q cells slots σ (pc + 3) L st) : zG X p l e R s m args below meth c nL σ0 loc0 Q cells slots σ pc L (aI (zb b) :: st) := z_if_eq C hd ht (fun h => kt (zb_eq0.mp h)) (fun h => kf (zb_cv.mp h))
theorem z_if_neB (C : zC X p l s m args meth c cc nL own) {b : Bool} {off : Int} {tgt : Nat} (hd : decode cc pc = .ok (.ifCond .ne off, 3)) (ht : (pc : Int) + off = (tgt : Int)) (kt : b = true → zG X p l e R s m args below meth c nL σ0 loc0 Q cells slots σ tgt L st) (kf : b = false → zG X p l e R s m args below meth c nL σ0 loc0 Q cells slots σ (pc + 3) L st) : zG X p l e R s m args below meth c nL σ0 loc0 Q cells slots σ pc L (aI (zb b) :: st) := z_if_ne C hd ht (fun h => kt (zb_cv.mp h)) (fun h => kf (zb_eq0.mp h))
theorem z_goto (C : zC X p l s m args meth c cc nL own) {off : Int} {tgt : Nat} (hd : decode cc pc = .ok (.goto off, 3)) (ht : (pc : Int) + off = (tgt : Int)) (kk : zG X p l e R s m args below meth c nL σ0 loc0 Q cells slots σ tgt L st) : zG X p l e R s m args below meth c nL σ0 loc0 Q cells slots σ pc L st := z_go (fun h => h) (fun _ _ _ _ k => lv_goto C.x C.b hd ht k) kk
theorem z_ifnull (C : zC X p l s m args meth c cc nL own) {o : Option zK} {off : Int} {tgt : Nat} (hd : decode cc pc = .ok (.ifnull off, 3)) (ht : (pc : Int) + off = (tgt : Int)) (kt : o = none → zG X p l e R s m args below meth c nL σ0 loc0 Q cells slots σ tgt L st) (kf : ∀ q, o = some q → zG X p l e R s m args below meth c nL σ0 loc0 Q cells slots σ (pc + 3) L st) : zG X p l e R s m args below meth c nL σ0 loc0 Q cells slots σ pc L (aO o :: st) := fun loc H locs ls hI => by
  cases o with
  | none => exact lv_ifnullN C.x C.b hd ht (kt rfl loc H locs ls (hI.sk zl_tl))
  | some q => exact lv_ifnull C.x C.b hd (kf q rfl loc H locs ls (hI.sk zl_tl))
theorem z_ifnonnull (C : zC X p l s m args meth c cc nL own) {o : Option zK} {off : Int} {tgt : Nat} (hd : decode cc pc = .ok (.ifnonnull off, 3)) (ht : (pc : Int) + off = (tgt : Int)) (kt : ∀ q, o = some q → zG X p l e R s m args below meth c nL σ0 loc0 Q cells slots σ tgt L st) (kf : o = none → zG X p l e R s m args below meth c nL σ0 loc0 Q cells slots σ (pc + 3) L st) : zG X p l e R s m args below meth c nL σ0 loc0 Q cells slots σ pc L (aO o :: st) := fun loc H locs ls hI => by
  cases o with
  | none => exact lv_ifnonnullN C.x C.b hd (kf rfl loc H locs ls (hI.sk zl_tl))
  | some q => exact lv_ifnonnull C.x C.b hd ht (kt q rfl loc H locs ls (hI.sk zl_tl))
theorem zI.eq (h : zI X s nL σ0 loc0 σ L st loc H locs ls) {q r : zK} (hq : σ q.1 q.2 ≠ none) (hr : σ r.1 r.2 ≠ none) : loc q = loc r ↔ q = r := by
  refine ⟨fun e => ?_, fun e => by rw [e]⟩
  cases h1 : σ q.1 q.2 with
  | none => exact absurd h1 hq
  | some c1 =>
    cases h2 : σ r.1 r.2 with
    | none => exact absurd h2 hr
    | some c2 =>
      obtain ⟨e1, e2⟩ := h.1.2.2.2.1 q.1 q.2 r.1 r.2 c1 c2 h1 h2 e
      exact Prod.ext e1 e2
theorem z_rf {a : zV} {o : Option zK} (h : a = aO o) (loc : zK → Nat) : zcv loc a = va_rf (o.map loc) := by
  subst h
  cases o <;> rfl
theorem z_acmp_eq (C : zC X p l s m args meth c cc nL own) {o o' : Option zK} {off : Int} {tgt : Nat} (hd : decode cc pc = .ok (.if_acmp .eq off, 3)) (ht : (pc : Int) + off = (tgt : Int)) (kt : o = o' → zG X p l e R s m args below meth c nL σ0 loc0 Q cells slots σ tgt L st) (kf : ¬ o = o' → zG X p l e R s m args below meth c nL σ0 loc0 Q cells slots σ (pc + 3) L st) : zG X p l e R s m args below meth c nL σ0 loc0 Q cells slots σ pc L (aO o' :: aO o :: st) := fun loc H locs ls hI => by
  have k : W p l e R s m args below meth c H locs cells slots Q (F0 m pc ls (va_rf (o'.map loc) :: va_rf (o.map loc) :: st.map (zcv loc))) := by
    refine lv_acmp_eq C.x C.b hd ht (fun h => kt ?_ loc H locs ls (hI.sk zl_tl2)) (fun h => kf (fun e => h (by rw [e])) loc H locs ls (hI.sk zl_tl2))
    cases o with
    | none => cases o' with
      | none => rfl
      | some q => cases h
    | some q => cases o' with
      | none => cases h
      | some r => rw [(hI.eq (zl_hd (zl_tl hI.2.2.2.1)) (zl_hd hI.2.2.2.1)).mp (Option.some.inj h)]
  rw [← z_rf rfl loc, ← z_rf rfl loc] at k
  exact k
theorem z_acmp_ne (C : zC X p l s m args meth c cc nL own) {o o' : Option zK} {off : Int} {tgt : Nat} (hd : decode cc pc = .ok (.if_acmp .ne off, 3)) (ht : (pc : Int) + off = (tgt : Int)) (kt : ¬ o = o' → zG X p l e R s m args below meth c nL σ0 loc0 Q cells slots σ tgt L st) (kf : o = o' → zG X p l e R s m args below meth c nL σ0 loc0 Q cells slots σ (pc + 3) L st) : zG X p l e R s m args below meth c nL σ0 loc0 Q cells slots σ pc L (aO o' :: aO o :: st) := fun loc H locs ls hI => by
  have k : W p l e R s m args below meth c H locs cells slots Q (F0 m pc ls (va_rf (o'.map loc) :: va_rf (o.map loc) :: st.map (zcv loc))) := by
    refine lv_acmp_ne C.x C.b hd ht (fun h => kt (fun e => h (by rw [e])) loc H locs ls (hI.sk zl_tl2)) (fun h => kf ?_ loc H locs ls (hI.sk zl_tl2))
    cases o with
    | none => cases o' with
      | none => rfl
      | some q => cases h
    | some q => cases o' with
      | none => cases h
      | some r => rw [(hI.eq (zl_hd (zl_tl hI.2.2.2.1)) (zl_hd hI.2.2.2.1)).mp (Option.some.inj h)]
  rw [← z_rf rfl loc, ← z_rf rfl loc] at k
  exact k
theorem z_lcmp (C : zC X p l s m args meth c cc nL own) {x y : Int64} (hd : decode cc pc = .ok (.lcmp, 1)) (kk : zG X p l e R s m args below meth c nL σ0 loc0 Q cells slots σ (pc + 1) L (aI (lg_cmp x y) :: st)) : zG X p l e R s m args below meth c nL σ0 loc0 Q cells slots σ pc L (aL y :: aL x :: st) := z_go (fun h => zl_cp (zl_tl2 h)) (fun _ _ _ _ k => W.lcmp C.x C.b hd k) kk
theorem z_tableIn (C : zC X p l s m args meth c cc nL own) {dflt lo hi : Int} {offs : Array Int} {len : Nat} {x : Int32} {off : Int} {tgt : Nat} (hd : decode cc pc = .ok (.tableswitch dflt lo hi offs, len)) (h1 : ¬ x.toInt < lo) (h2 : ¬ hi < x.toInt) (ho : offs[(x.toInt - lo).toNat]? = some off) (ht : (pc : Int) + off = (tgt : Int)) (kk : zG X p l e R s m args below meth c nL σ0 loc0 Q cells slots σ tgt L st) : zG X p l e R s m args below meth c nL σ0 loc0 Q cells slots σ pc L (aI x :: st) := z_go zl_tl (fun _ _ _ _ k => lv_tableIn C.x C.b hd h1 h2 ho ht k) kk
theorem z_tableOut (C : zC X p l s m args meth c cc nL own) {dflt lo hi : Int} {offs : Array Int} {len : Nat} {x : Int32} {tgt : Nat} (hd : decode cc pc = .ok (.tableswitch dflt lo hi offs, len)) (h : x.toInt < lo ∨ hi < x.toInt) (ht : (pc : Int) + dflt = (tgt : Int)) (kk : zG X p l e R s m args below meth c nL σ0 loc0 Q cells slots σ tgt L st) : zG X p l e R s m args below meth c nL σ0 loc0 Q cells slots σ pc L (aI x :: st) := z_go zl_tl (fun _ _ _ _ k => lv_tableOut C.x C.b hd h ht k) kk
theorem z_wd {k n : Nat} (h1 : cells ≤ k) (h2 : slots ≤ n) (kk : zG X p l e R s m args below meth c nL σ0 loc0 Q k n σ pc L st) : zG X p l e R s m args below meth c nL σ0 loc0 Q cells slots σ pc L st := fun loc H locs ls hI => W.widen h1 h2 (kk loc H locs ls hI)
-- fields: the link at 'index' of class own is the field j of the class ci of the table
def zFl (own : String) (index ci j : Nat) : Prop := ∃ (C ref : String) (T : u_T) (N : Nat), vwCl[ci]? = some (C, T, N) ∧ j < N ∧ Cond.fieldLink own index ref (T j).2.1 (T j).2.2.1 ∈ zT ∧ (∀ w ∈ u_ws C T N, w ∈ zT) ∧ (ref = (T j).1 ∨ Cond.sameField ref (T j).1 (T j).2.1 (T j).2.2.1 ∈ zT)
theorem zP1 {D : va_G} {cl : List vw_C} {q : Nat × va_E} {H : Heap} (h : va_at D cl q H) : va_P D cl [q] H := by
  intro k x hx
  cases k with
  | zero => cases hx; exact h
  | succ k => cases hx
theorem zC.same (C : zC X p l s m args meth c cc nL own) {ref o n d : String} (h : ref = o ∨ Cond.sameField ref o n d ∈ zT) : ∀ x, s.fieldFound? o n d = some x → s.fieldFound? ref n d = some x := by
  rcases h with h | h
  · intro x hx
    rw [h]; exact hx
  · exact fun x hx => u_same (C.ts _ h) x hx
theorem zI.cell (h : zI X s nL σ0 loc0 σ L st loc H locs ls) {k i : Nat} {x : zCell} (hσ : σ k i = some x) : va_at X.1 vwCl (loc (k, i), zcc X loc x) H := (h.1.2.2.1 k i x hσ).1
theorem zI.clo (h : zI X s nL σ0 loc0 σ L st loc H locs ls) {k i : Nat} {x : zCell} (hσ : σ k i = some x) : zcl σ x := (h.1.2.2.1 k i x hσ).2.2
theorem z_getf (C : zC X p l s m args meth c cc nL own) {k i ci j idx : Nat} {fs : List zV} {v : zV} (hf : zFl own idx ci j) (hd : decode cc pc = .ok (.getfield idx, 3)) (hσ : σ k i = some (oC ci fs)) (hv : fs[j]? = some v) (kk : zG X p l e R s m args below meth c nL σ0 loc0 Q cells slots σ (pc + 3) L (v :: st)) : zG X p l e R s m args below meth c nL σ0 loc0 Q cells slots σ pc L (aR k i :: st) := fun loc H locs ls hI => by
  obtain ⟨Cn, ref, T, N, hc, hj, hlk, hin, hsm⟩ := hf
  have hv' : (fs.map (zcv loc))[j]? = some (zcv loc v) := by rw [List.getElem?_map, hv]; rfl
  exact va_get C.x C.b C.ts hin C.ow C.K (zP1 (hI.cell hσ)) 0 rfl hc j hj (C.ts _ hlk) (C.same hsm) hv' hd (kk loc H locs ls (hI.sk (fun h => zl_cn (hI.clo hσ v (List.mem_of_getElem? hv)) (zl_tl h))))
theorem z_iald (C : zC X p l s m args meth c cc nL own) {k i n : Nat} {f : Nat → Int32} {x : Int32} (hd : decode cc pc = .ok (.iaload, 1)) (hσ : σ k i = some (iC n f)) (hin : vp_in x n) (kk : zG X p l e R s m args below meth c nL σ0 loc0 Q cells slots σ (pc + 1) L (aI (f x.toNatClampNeg) :: st)) : zG X p l e R s m args below meth c nL σ0 loc0 Q cells slots σ pc L (aI x :: aR k i :: st) := fun loc H locs ls hI =>
  va_iald C.x C.b C.K (zP1 (hI.cell hσ)) 0 0 rfl rfl hin hd (kk loc H locs ls (hI.sk (fun h => zl_cp (zl_tl2 h))))
theorem z_lald (C : zC X p l s m args meth c cc nL own) {k i n : Nat} {f : Nat → Int64} {x : Int32} (hd : decode cc pc = .ok (.laload, 1)) (hσ : σ k i = some (lC n f)) (hin : vp_in x n) (kk : zG X p l e R s m args below meth c nL σ0 loc0 Q cells slots σ (pc + 1) L (aL (f x.toNatClampNeg) :: st)) : zG X p l e R s m args below meth c nL σ0 loc0 Q cells slots σ pc L (aI x :: aR k i :: st) := fun loc H locs ls hI =>
  va_lald C.x C.b C.K (zP1 (hI.cell hσ)) 0 1 rfl rfl hin hd (kk loc H locs ls (hI.sk (fun h => zl_cp (zl_tl2 h))))
theorem z_aald (C : zC X p l s m args meth c cc nL own) {k i n : Nat} {f : Nat → Option zK} {x : Int32} (hd : decode cc pc = .ok (.aaload, 1)) (hσ : σ k i = some (rC n f)) (hin : vp_in x n) (kk : zG X p l e R s m args below meth c nL σ0 loc0 Q cells slots σ (pc + 1) L (aO (f x.toNatClampNeg) :: st)) : zG X p l e R s m args below meth c nL σ0 loc0 Q cells slots σ pc L (aI x :: aR k i :: st) := fun loc H locs ls hI => by
  have ee : va_rf ((f x.toNatClampNeg).map loc) = zcv loc (aO (f x.toNatClampNeg)) := (z_rf rfl loc).symm
  refine va_aldq (f := fun j => (f j).map loc) C.x C.b C.K (zP1 (hI.cell hσ)) 0 2 rfl rfl hin hd ?_
  show W p l e R s m args below meth c H locs cells slots Q (F0 m (pc + 1) ls (va_rf ((f x.toNatClampNeg).map loc) :: st.map (zcv loc)))
  rw [ee]
  refine kk loc H locs ls (hI.sk (fun h => zl_cn ?_ (zl_tl2 h)))
  cases hq : f x.toNatClampNeg with
  | none => trivial
  | some q => exact hI.clo hσ _ q hq
theorem z_alenA (C : zC X p l s m args meth c cc nL own) {k i n : Nat} {f : Nat → Option zK} (hd : decode cc pc = .ok (.arraylength, 1)) (hσ : σ k i = some (rC n f)) (kk : zG X p l e R s m args below meth c nL σ0 loc0 Q cells slots σ (pc + 1) L (aI (nI n) :: st)) : zG X p l e R s m args below meth c nL σ0 loc0 Q cells slots σ pc L (aR k i :: st) := fun loc H locs ls hI =>
  va_alen C.x C.b C.K (zP1 (hI.cell hσ)) 0 2 rfl rfl rfl hd (kk loc H locs ls (hI.sk (fun h => zl_cp (zl_tl h))))
theorem z_alenI (C : zC X p l s m args meth c cc nL own) {k i n : Nat} {f : Nat → Int32} (hd : decode cc pc = .ok (.arraylength, 1)) (hσ : σ k i = some (iC n f)) (kk : zG X p l e R s m args below meth c nL σ0 loc0 Q cells slots σ (pc + 1) L (aI (nI n) :: st)) : zG X p l e R s m args below meth c nL σ0 loc0 Q cells slots σ pc L (aR k i :: st) := fun loc H locs ls hI =>
  va_alen C.x C.b C.K (zP1 (hI.cell hσ)) 0 0 rfl rfl rfl hd (kk loc H locs ls (hI.sk (fun h => zl_cp (zl_tl h))))
theorem z_getsA (C : zC X p l s m args meth c cc nL own) {idx : Nat} (hw : Cond.fieldLink own idx RJx4a65c "DEFAULTCAPACITY_EMPTY_ELEMENTDATA" "[Ljava/lang/Object;" ∈ zT) (hd : decode cc pc = .ok (.getstatic idx, 3)) (kk : zG X p l e R s m args below meth c nL σ0 loc0 Q cells slots σ (pc + 3) L (aR 90 0 :: st)) : zG X p l e R s m args below meth c nL σ0 loc0 Q cells slots σ pc L st := fun loc H locs ls hI => by
  have hZ := (C.S.2.2.2.2.2.2.2.1).kept (H1 := s.heap) (fun a h1 _ => C.2.2.2.2.2.2.2.2.2 a h1)
  refine va_gets C.x C.b hZ hI.2.2.2.2.1 C.ow (C.ts _ hw) (fun _ h => h) hd ?_
  rw [← hI.1.2.2.2.2.1]
  exact kk loc H locs ls (hI.sk (fun h => zl_cn (show σ 90 0 ≠ none by rw [hI.1.2.2.2.2.2.2.1]; exact fun z => by cases z) h))
theorem z_getsW (C : zC X p l s m args meth c cc nL own) {idx : Nat} (hw : Cond.fieldLink own idx RX6 "WEIGHTS" "[I" ∈ zT) (hd : decode cc pc = .ok (.getstatic idx, 3)) (kk : zG X p l e R s m args below meth c nL σ0 loc0 Q cells slots σ (pc + 3) L (aR 91 0 :: st)) : zG X p l e R s m args below meth c nL σ0 loc0 Q cells slots σ pc L st := fun loc H locs ls hI => by
  have hZ := (C.S.2.2.2.2.2.2.2.2.1).kept (H1 := s.heap) (fun a h1 _ => C.2.2.2.2.2.2.2.2.2 a h1)
  refine va_gets C.x C.b hZ hI.2.2.2.2.1 C.ow (C.ts _ hw) (fun _ h => h) hd ?_
  rw [← hI.1.2.2.2.2.2.1]
  exact kk loc H locs ls (hI.sk (fun h => zl_cn (show σ 91 0 ≠ none by rw [hI.1.2.2.2.2.2.2.2]; exact fun z => by cases z) h))
theorem z_w90 (kk : σ 90 0 = some (rC 0 (fun _ => none)) → σ 91 0 = some (iC 6 zWts) → zG X p l e R s m args below meth c nL σ0 loc0 Q cells slots σ pc L st) : zG X p l e R s m args below meth c nL σ0 loc0 Q cells slots σ pc L st := fun loc H locs ls hI => kk hI.1.2.2.2.2.2.2.1 hI.1.2.2.2.2.2.2.2 loc H locs ls hI
end ZR
end
section
/-! the engine, second half: writes, new cells, ends, calls, throws -/
section ZW
variable {X : zX} {p : Program} {l : Launch} {e : Env} {R : Room} {s : State} {m : MethodId} {args : Array Value} {below : List Frame} {meth : Method} {c : Code} {nL : Nat} {σ0 σ : zHp} {loc0 : zK → Nat} {Q : State → Prop} {cells slots pc : Nat} {L : List (Nat × zV)} {st st' : List zV} {cc : ByteArray} {own : String}
variable {loc : zK → Nat} {H H' : Heap} {locs : List Loc} {ls : Array Slot}
theorem zI.put (h : zI X s nL σ0 loc0 σ L st loc H locs ls) {k i j : Nat} {c0 c1 : zCell} (h0 : σ k i = some c0) (hk : k < 90) (hat : va_at X.1 vwCl (loc (k, i), zcc X loc c1) H') (hc : zcl σ c1) (hz : H'.size = H.size) (ho : ∀ q : Nat, q ≠ loc (k, i) → H'[q]? = H[q]?) : zI X s nL σ0 loc0 (zput σ k i c1) L st loc H' (locs ++ [⟨loc (k, i), j⟩]) ls :=
  ⟨h.1.put h0 hk hat hc hz ho, fun a b hl => ⟨zput_live (h.2.1 a b hl).1, (h.2.1 a b hl).2⟩, fun q hq => ⟨zlv_mono (fun _ _ z => zput_live z) (h.2.2.1 q hq).1, (h.2.2.1 q hq).2⟩, fun v hv => zlv_mono (fun _ _ z => zput_live z) (h.2.2.2.1 v hv), h.2.2.2.2.1.put hz ho ((h.1.2.2.1 k i c0 h0).2.1 hk), h.2.2.2.2.2⟩
theorem zup_c {k i : Nat} (h0 : σ k i = none) (q : Nat) : ∀ k' i', σ k' i' ≠ none → zup loc k i q (k', i') = loc (k', i') := fun k' i' hl => zup_n (fun e => hl (by rw [e.1, e.2]; exact h0))
theorem zst_c {k i : Nat} (h0 : σ k i = none) (q : Nat) (hs : ∀ v ∈ st, zlv σ v) : st.map (zcv (zup loc k i q)) = st.map (zcv loc) := List.map_congr_left (fun v hv => zcv_congr (zup_c h0 q) (hs v hv))
theorem zI.new (h : zI X s nL σ0 loc0 σ L st loc H locs ls) {k i : Nat} {c1 : zCell} (h0 : σ k i = none) (hk : k < 90) (hat : va_at X.1 vwCl (H.size, zcc X loc c1) H') (hc : zcl σ c1) (hz : H.size ≤ H'.size) (ho : ∀ q : Nat, q < H.size → H'[q]? = H[q]?) : zI X s nL σ0 loc0 (zput σ k i c1) L (aR k i :: st) (zup loc k i H.size) H' locs ls := by
  refine ⟨h.1.new h0 hk hc hat ho hz, fun a b hl => ⟨zput_live (h.2.1 a b hl).1, ?_⟩, fun q hq => ⟨zlv_mono (fun _ _ z => zput_live z) (h.2.2.1 q hq).1, (h.2.2.1 q hq).2⟩, zl_cn ?_ (fun v hv => zlv_mono (fun _ _ z => zput_live z) (h.2.2.2.1 v hv)), ⟨Nat.le_trans h.2.2.2.2.1.1 hz, fun q h1 h2 => (ho q (Nat.lt_of_lt_of_le h1 h.2.2.2.2.1.1)).trans (h.2.2.2.2.1.2.1 q h1 h2), h.2.2.2.2.1.2.2⟩, ?_⟩
  · rw [zup_c h0 _ a b (h.2.1 a b hl).1]
    exact (h.2.1 a b hl).2
  · show zput σ k i c1 k i ≠ none
    rw [zput_s]
    exact fun z => by cases z
  · have e : zcL (zup loc k i H.size) L = zcL loc L := by
      unfold zcL
      exact List.map_congr_left (fun q hq => by rw [zcv_congr (zup_c h0 H.size) (h.2.2.1 q hq).1])
    rw [e]
    exact h.2.2.2.2.2
theorem z_after {cells' slots' : Nat} {H' : Heap} {locs' : List Loc} {k i : Nat} {c1 : zCell} {n : Nat} (hI : zI X s nL σ0 loc0 σ L st loc H locs ls) (h0 : σ k i = none) (hN : zI X s nL σ0 loc0 (zput σ k i c1) L (aR k i :: st) (zup loc k i H.size) H' locs' ls) (kk : zG X p l e R s m args below meth c nL σ0 loc0 Q cells' slots' (zput σ k i c1) n L (aR k i :: st)) : W p l e R s m args below meth c H' locs' cells' slots' Q (F0 m n ls (.ref H.size :: st.map (zcv loc))) := by
  have k1 := kk _ _ _ _ hN
  rw [List.map_cons, zst_c h0 H.size hI.2.2.2.1, show zcv (zup loc k i H.size) (aR k i) = .ref H.size from congrArg Value.ref (zup_s loc k i H.size)] at k1
  exact k1
def zFp (own : String) (index ci j : Nat) (ty : FieldType) (fin : Bool) : Prop := ∃ (C ref : String) (T : u_T) (N : Nat) (ty0 : Nat → FieldType), vwCl[ci]? = some (C, T, N) ∧ j < N ∧ Cond.fieldLink own index ref (T j).2.1 (T j).2.2.1 ∈ zT ∧ (∀ w ∈ u_ws C T N, w ∈ zT) ∧ (ref = (T j).1 ∨ Cond.sameField ref (T j).1 (T j).2.1 (T j).2.2.1 ∈ zT) ∧
  (∀ k, k < N → parseFieldDescriptor (T k).2.2.1 = some (ty0 k)) ∧ (∀ a, a < N → ∀ b, b < N → a ≠ b → (T a).2.1 ≠ (T b).2.1) ∧ (T j).2.2.2 = fin ∧ parseFieldDescriptor (T j).2.2.1 = some ty ∧ (fin = true → (T j).1 = own)
theorem zcl_set {fs : List zV} {ci j : Nat} {v : zV} (h : ∀ x ∈ fs, zlv σ x) (hv : zlv σ v) : zcl σ (oC ci (fs.set j v)) := fun x hx => by
  rcases List.mem_or_eq_of_mem_set hx with h1 | h1
  · exact h x h1
  · rw [h1]; exact hv
theorem z_putf (C : zC X p l s m args meth c cc nL own) {k i ci j idx : Nat} {fs : List zV} {v : zV} {ty : FieldType} (hf : zFp own idx ci j ty false) (hd : decode cc pc = .ok (.putfield idx, 3)) (hσ : σ k i = some (oC ci fs)) (hk : k < 90) (hj : j < fs.length) (hn : ∀ loc, narrow ty (zcv loc v) = zcv loc v ∧ fits ty (zcv loc v) = true) (kk : zG X p l e R s m args below meth c nL σ0 loc0 Q cells slots (zput σ k i (oC ci (fs.set j v))) (pc + 3) L st) : zG X p l e R s m args below meth c nL σ0 loc0 Q cells slots σ pc L (v :: aR k i :: st) := fun loc H locs ls hI => by
  obtain ⟨Cn, ref, T, N, ty0, hc, hjN, hlk, hin, hsm, hty, hnm, hfin, hd', hdec⟩ := hf
  have hap := va_apart (own := own) C.ts hin ty0 hty hnm C.K hc
  obtain ⟨r, h1, cell, q1, q2, q3, q4⟩ := hI.cell hσ
  have hr : r = (Cn, T, N) := Option.some.inj (h1.symm.trans hc)
  subst hr
  obtain ⟨hS, hfc, kC, hkC, hkind⟩ := C.K.1 ci _ hc
  obtain ⟨cf, kf, fi, f, hi, hsl⟩ := hS j hjN
  have hlay := C.ts _ (hin _ (u_in_lay hjN))
  unfold u_lay at hlay
  rw [if_neg (by rw [hfin]; decide)] at hlay
  have hst := (u_facts hfc hkC (u_lays C.ts hin hjN) hi).1
  have h6 := u_store hfc hkC hkind hlay hi hd' (hn loc).1 (hn loc).2
  refine W.putK C.x C.b (f := f) ⟨C.ow, C.ts _ hlk, ⟨_, _, _, C.same hsm _ hi⟩, hst⟩ (by rw [q2]; exact h6) q1 q3 (by rw [hsl]; exact k2_hasslot (q4 j hjN)) rfl rfl hd fun H' e1 e2 e3 => ?_
  rw [hsl] at e1 ⊢
  refine kk loc H' _ ls ((hI.sk zl_tl2).put hσ hk ⟨_, hc, t_OB.to (V := updV (vp_V (fs.map (zcv loc))) j (zcv loc v)) ⟨_, e1, q2, q3, t_set q4 hap hjN _⟩ (fun a _ => ?_)⟩ (zcl_set (hI.clo hσ) (zl_hd hI.2.2.2.1)) e2 e3)
  rw [vp_updV_set (by rw [List.length_map]; exact hj), ← List.map_set]
theorem z_putF (C : zC X p l s m args meth c cc nL own) {k i ci j idx : Nat} {fs : List zV} {v : zV} {ty : FieldType} (hf : zFp own idx ci j ty true) (hnm0 : meth.name = "<init>") (hd : decode cc pc = .ok (.putfield idx, 3)) (hσ : σ k i = some (oC ci fs)) (hk : k < 90) (hj : j < fs.length) (hn : ∀ loc, narrow ty (zcv loc v) = zcv loc v ∧ fits ty (zcv loc v) = true) (kk : zG X p l e R s m args below meth c nL σ0 loc0 Q cells slots (zput σ k i (oC ci (fs.set j v))) (pc + 3) L st) : zG X p l e R s m args below meth c nL σ0 loc0 Q cells slots σ pc L (v :: aR k i :: st) := fun loc H locs ls hI => by
  obtain ⟨Cn, ref, T, N, ty0, hc, hjN, hlk, hin, hsm, hty, hnm, hfin, hd', hdec⟩ := hf
  have hap := va_apart (own := own) C.ts hin ty0 hty hnm C.K hc
  obtain ⟨r, h1, cell, q1, q2, q3, q4⟩ := hI.cell hσ
  have hr : r = (Cn, T, N) := Option.some.inj (h1.symm.trans hc)
  subst hr
  obtain ⟨hS, hfc, kC, hkC, hkind⟩ := C.K.1 ci _ hc
  obtain ⟨cf, kf, fi, f, hi, hsl⟩ := hS j hjN
  have hlay := C.ts _ (hin _ (u_in_lay hjN))
  unfold u_lay at hlay
  rw [if_pos hfin] at hlay
  have hst := (u_facts hfc hkC (u_lays C.ts hin hjN) hi).1
  have hcf : m.cls = cf := by
    obtain ⟨_, _, c', _, _, _, -, -, hf', -, -, -, hown2, -⟩ := Cond.laysFinal_spec hlay
    have e1 : c' = cf := by have := hi.symm.trans hf'; simp at this; exact this.1.symm
    rw [hdec rfl] at hown2
    rw [← e1]; exact Option.some.inj (C.ow.symm.trans hown2)
  have h6 := u_fits hfc hkC hkind (Or.inr hlay) hi hd' (hn loc).1 (hn loc).2
  refine W.putFinK C.x C.b C.ow (C.ts _ hlk) (C.same hsm _ hi) hst hcf hnm0 (by rw [q2]; exact h6) q1 q3 (by rw [hsl]; exact k2_hasslot (q4 j hjN)) rfl rfl hd fun H' e1 e2 e3 => ?_
  rw [hsl] at e1 ⊢
  refine kk loc H' _ ls ((hI.sk zl_tl2).put hσ hk ⟨_, hc, t_OB.to (V := updV (vp_V (fs.map (zcv loc))) j (zcv loc v)) ⟨_, e1, q2, q3, t_set q4 hap hjN _⟩ (fun a _ => ?_)⟩ (zcl_set (hI.clo hσ) (zl_hd hI.2.2.2.1)) e2 e3)
  rw [vp_updV_set (by rw [List.length_map]; exact hj), ← List.map_set]
theorem z_iast (C : zC X p l s m args meth c cc nL own) {k i n : Nat} {f : Nat → Int32} {x : Int32} {v : Int32} (hd : decode cc pc = .ok (.iastore, 1)) (hσ : σ k i = some (iC n f)) (hk : k < 90) (hin : vp_in x n) (kk : zG X p l e R s m args below meth c nL σ0 loc0 Q cells slots (zput σ k i (iC n (upd f x.toNatClampNeg v))) (pc + 1) L st) : zG X p l e R s m args below meth c nL σ0 loc0 Q cells slots σ pc L (aI v :: aI x :: aR k i :: st) := fun loc H locs ls hI => by
  have hc : H[loc (k, i)]? = some (vp_cell _ _) := hI.cell hσ
  refine W.iast C.x C.b hc ((C.K.2 0 _ rfl).1 n (fun j => .int (f j))) (fun q => by cases q) (by show ¬ (x < 0 ∨ (arrV _ _ _).slots.size ≤ _); rw [arrV_size]; exact hin) rfl rfl hd fun H1 e1 z oq => ?_
  refine kk loc H1 _ ls ((hI.sk zl_tl3).put hσ hk ?_ trivial z oq)
  show H1[loc (k, i)]? = some (vp_cell _ _)
  rw [e1, vp_cell_i, vp_cell_i, arrV_store]
  congr 2
  funext q
  by_cases hq : q = x.toNatClampNeg
  · subst hq
    simp [updV, upd]
  · simp [updV, upd, hq]
theorem z_last (C : zC X p l s m args meth c cc nL own) {k i n : Nat} {f : Nat → Int64} {x : Int32} {v : Int64} (hd : decode cc pc = .ok (.lastore, 1)) (hσ : σ k i = some (lC n f)) (hk : k < 90) (hin : vp_in x n) (kk : zG X p l e R s m args below meth c nL σ0 loc0 Q cells slots (zput σ k i (lC n (vp_updL f x.toNatClampNeg v))) (pc + 1) L st) : zG X p l e R s m args below meth c nL σ0 loc0 Q cells slots σ pc L (aL v :: aI x :: aR k i :: st) := fun loc H locs ls hI => by
  have hc : H[loc (k, i)]? = some (vp_cell _ _) := hI.cell hσ
  refine W.last C.x C.b hc ((C.K.2 1 _ rfl).1 n (fun j => .long (f j))) (fun q => by cases q) (by show ¬ (x < 0 ∨ (arrV _ _ _).slots.size ≤ _); rw [arrV_size]; exact hin) rfl rfl hd fun H1 e1 z oq => ?_
  refine kk loc H1 _ ls ((hI.sk zl_tl3).put hσ hk ?_ trivial z oq)
  show H1[loc (k, i)]? = some (vp_cell _ _)
  rw [e1, vp_cell_l, vp_cell_l, arrV_store]
  congr 2
  funext q
  by_cases hq : q = x.toNatClampNeg
  · subst hq
    simp [updV, vp_updL]
  · simp [updV, vp_updL, hq]
def zElt (ci : Nat) : Prop := ∃ r : vw_C, vwCl[ci]? = some r ∧ (r.1, "java/lang/Object") ∈ zCast
theorem z_aast (C : zC X p l s m args meth c cc nL own) {k i n k' i' ci : Nat} {fs : List zV} {f : Nat → Option zK} {x : Int32} (hd : decode cc pc = .ok (.aastore, 1)) (hσ : σ k i = some (rC n f)) (hk : k < 90) (hin : vp_in x n) (hv : σ k' i' = some (oC ci fs)) (hci : zElt ci) (kk : zG X p l e R s m args below meth c nL σ0 loc0 Q cells slots (zput σ k i (rC n (va_up f x.toNatClampNeg (some (k', i'))))) (pc + 1) L st) : zG X p l e R s m args below meth c nL σ0 loc0 Q cells slots σ pc L (aR k' i' :: aI x :: aR k i :: st) := fun loc H locs ls hI => by
  obtain ⟨r, hc, hcast⟩ := hci
  have hlt : x.toNatClampNeg < n := Nat.not_le.mp fun q => hin (Or.inr q)
  have h0 : ¬ x < 0 := fun q => hin (Or.inl q)
  have hcA : H[loc (k, i)]? = some (vp_cell _ _) := hI.cell hσ
  obtain ⟨r', hr', cellV, g1, g2, g3, -⟩ := hI.cell hv
  have hcls := (C.K.1 ci r hc).2
  obtain ⟨kA, comp, k1, k2, k3, -⟩ := (C.K.2 2 _ rfl).2
  obtain ⟨kE, hkE, -⟩ := Vm.findClass_spec k3
  obtain ⟨c0, t1, f1, f2, f3⟩ := Cond.castable_spec (va_Nw.use (A := args) rfl (C.S.2.1 _ hcast))
  cases hcls.1.symm.trans f1
  cases k3.symm.trans f2
  obtain ⟨kC, hkC, -⟩ := hcls.2
  refine W.aast C.x C.b hcA (fun q h => by cases h) (fun h => by cases h) k1 k2 rfl hkE ⟨h0, by show _ < (arrV _ _ _).slots.size; rw [arrV_size]; exact hlt⟩ g1 (fun q h => by rw [g3] at h; cases h) (by rw [g2]; exact hkC) (by rw [g2]; exact f3) rfl rfl hd fun H1 e1 z oq => ?_
  refine kk loc H1 _ ls ((hI.sk zl_tl3).put hσ hk ?_ (fun j q hj => ?_) z oq)
  · show H1[loc (k, i)]? = some (vp_cell _ _)
    rw [e1, vp_cell_q, vp_cell_q, arrV_store]
    congr 2
    funext q
    by_cases hq : q = x.toNatClampNeg
    · subst hq
      simp [updV, va_up, va_rf]
    · simp [updV, va_up, hq]
  · by_cases hq : j = x.toNatClampNeg
    · simp [va_up, hq] at hj
      rw [← hj]
      show σ k' i' ≠ none
      rw [hv]; exact fun z => by cases z
    · simp [va_up, hq] at hj
      exact hI.clo hσ j q hj
end ZW
end
section
/-! the engine, third part: null in rows, new cells, arraycopy -/
section ZN
variable {X : zX} {p : Program} {l : Launch} {e : Env} {R : Room} {s : State} {m : MethodId} {args : Array Value} {below : List Frame} {meth : Method} {c : Code} {nL : Nat} {σ0 σ : zHp} {loc0 : zK → Nat} {Q : State → Prop} {cells slots pc : Nat} {L : List (Nat × zV)} {st st' : List zV} {cc : ByteArray} {own : String}
variable {loc : zK → Nat} {H H' : Heap} {locs : List Loc} {ls : Array Slot}
theorem z_aastN (C : zC X p l s m args meth c cc nL own) {k i n : Nat} {f : Nat → Option zK} {x : Int32} (hd : decode cc pc = .ok (.aastore, 1)) (hσ : σ k i = some (rC n f)) (hk : k < 90) (hin : vp_in x n) (kk : zG X p l e R s m args below meth c nL σ0 loc0 Q cells slots (zput σ k i (rC n (va_up f x.toNatClampNeg none))) (pc + 1) L st) : zG X p l e R s m args below meth c nL σ0 loc0 Q cells slots σ pc L (aN :: aI x :: aR k i :: st) := fun loc H locs ls hI => by
  have hc : H[loc (k, i)]? = some (vp_cell _ _) := hI.cell hσ
  refine va_WaastN (C := "java/lang/Object") C.x C.b hc ((C.K.2 2 _ rfl).1 n (fun j => va_rf ((f j).map loc))) (fun h => by cases h) (by show ¬ (x < 0 ∨ (arrV _ _ _).slots.size ≤ _); rw [arrV_size]; exact hin) rfl rfl hd fun H1 e1 z oq => ?_
  refine kk loc H1 _ ls ((hI.sk zl_tl3).put hσ hk ?_ (fun j q hj => ?_) z oq)
  · show H1[loc (k, i)]? = some (vp_cell _ _)
    rw [e1, vp_cell_q, vp_cell_q, arrV_store]
    congr 2
    funext q
    by_cases hq : q = x.toNatClampNeg
    · subst hq
      simp [updV, va_up, va_rf]
    · simp [updV, va_up, hq]
  · by_cases hq : j = x.toNatClampNeg
    · simp [va_up, hq] at hj
    · simp [va_up, hq] at hj
      exact hI.clo hσ j q hj
def zNc (own : String) (index ci n : Nat) (fs : List zV) : Prop := ∃ (Cn : String) (T : u_T) (ty : Nat → FieldType), vwCl[ci]? = some (Cn, T, n) ∧ Cond.classLink own index Cn ∈ zT ∧ Cond.instantiable Cn n ∈ zT ∧ Cond.initialized Cn ∈ zT ∧ (∀ w ∈ u_ws Cn T n, w ∈ zT) ∧ (∀ k, k < n → parseFieldDescriptor (T k).2.2.1 = some (ty k)) ∧ (∀ v ∈ fs, ∃ u : Value, v = .inl u) ∧ ∀ j, j < n → ∀ loc : zK → Nat, defaultValue (ty j) = vp_V (fs.map (zcv loc)) j
theorem z_new (C : zC X p l s m args meth c cc nL own) {ci n idx : Nat} {fs : List zV} (k i : Nat) (hf : zNc own idx ci n fs) (hd : decode cc pc = .ok (.new idx, 3)) (hk : k < 90) (h0 : σ k i = none) (hr : cells + 1 ≤ R.cells ∧ slots + n ≤ R.slots) (kk : zG X p l e R s m args below meth c nL σ0 loc0 Q (cells + 1) (slots + n) (zput σ k i (oC ci fs)) (pc + 3) L (aR k i :: st)) : zG X p l e R s m args below meth c nL σ0 loc0 Q cells slots σ pc L st := fun loc H locs ls hI => by
  obtain ⟨Cn, T, ty, hc, hcl, his, hini, hin, hty, hpr, hdef⟩ := hf
  have hKn := C.K.1 ci _ hc
  refine W.newcK C.x C.b C.ow (C.ts _ hcl) (C.ts _ his) (C.ts _ hini) rfl hd hr.1 hr.2 hKn.2.1 rfl fun H1 kC hkC e1 z1 o1 => ?_
  have hN := hI.new (c1 := oC ci fs) (H' := H1) h0 hk ⟨_, hc, (u_born ty C.ts hin hKn hkC e1 hty).to (fun j hj => hdef j hj loc)⟩ (fun v hv => by obtain ⟨u, rfl⟩ := hpr v hv; trivial) (by omega) o1
  exact z_after hI h0 hN kk
theorem z_newI (C : zC X p l s m args meth c cc nL own) {n : Int32} {N : Nat} (k i : Nat) (hd : decode cc pc = .ok (.newarray .int, 2)) (hk : k < 90) (h0 : σ k i = none) (hn : ¬ n < 0) (hN : n.toNatClampNeg = N) (hby : N ≤ 100000) (hr : cells + 1 ≤ R.cells ∧ slots + N ≤ R.slots) (hw : Cond.arrayClass .int ∈ zT) (kk : zG X p l e R s m args below meth c nL σ0 loc0 Q (cells + 1) (slots + N) (zput σ k i (iC N (fun _ => 0))) (pc + 2) L (aR k i :: st)) : zG X p l e R s m args below meth c nL σ0 loc0 Q cells slots σ pc L (aI n :: st) := fun loc H locs ls hI => by
  refine va_newaK (atype := .int) C.x C.b (C.ts _ hw) rfl hd rfl hn hN (by show N * 4 ≤ _; omega) hr.1 hr.2 rfl fun H1 cA e1 z1 o1 hAr hNm => ?_
  have hcA : cA = X.2.1.1 := Option.some.inj (hNm.symm.trans (C.K.2 0 _ rfl).2)
  subst hcA
  have hI' := hI.sk zl_tl
  have hN2 := hI'.new (c1 := iC N (fun _ => 0)) (H' := H1) h0 hk (show H1[H.size]? = some (vp_cell _ _) by rw [vp_cell_i]; exact e1) trivial (by omega) o1
  exact z_after hI' h0 hN2 kk
theorem z_newL (C : zC X p l s m args meth c cc nL own) {n : Int32} {N : Nat} (k i : Nat) (hd : decode cc pc = .ok (.newarray .long, 2)) (hk : k < 90) (h0 : σ k i = none) (hn : ¬ n < 0) (hN : n.toNatClampNeg = N) (hby : N ≤ 100000) (hr : cells + 1 ≤ R.cells ∧ slots + N ≤ R.slots) (hw : Cond.arrayClass .long ∈ zT) (kk : zG X p l e R s m args below meth c nL σ0 loc0 Q (cells + 1) (slots + N) (zput σ k i (lC N (fun _ => 0))) (pc + 2) L (aR k i :: st)) : zG X p l e R s m args below meth c nL σ0 loc0 Q cells slots σ pc L (aI n :: st) := fun loc H locs ls hI => by
  refine va_newaK (atype := .long) C.x C.b (C.ts _ hw) rfl hd rfl hn hN (by show N * 8 ≤ _; omega) hr.1 hr.2 rfl fun H1 cA e1 z1 o1 hAr hNm => ?_
  have hcA : cA = X.2.1.2.1 := Option.some.inj (hNm.symm.trans (C.K.2 1 _ rfl).2)
  subst hcA
  have hI' := hI.sk zl_tl
  have hN2 := hI'.new (c1 := lC N (fun _ => 0)) (H' := H1) h0 hk (show H1[H.size]? = some (vp_cell _ _) by rw [vp_cell_l]; exact e1) trivial (by omega) o1
  exact z_after hI' h0 hN2 kk
theorem z_anew (C : zC X p l s m args meth c cc nL own) {n : Int32} {N idx : Nat} (k i : Nat) (hd : decode cc pc = .ok (.anewarray idx, 3)) (hw : Cond.classLink own idx "java/lang/Object" ∈ zT) (hk : k < 90) (h0 : σ k i = none) (hn : ¬ n < 0) (hN : n.toNatClampNeg = N) (hby : N ≤ 100000) (hr : cells + 1 ≤ R.cells ∧ slots + N ≤ R.slots) (kk : zG X p l e R s m args below meth c nL σ0 loc0 Q (cells + 1) (slots + N) (zput σ k i (rC N (fun _ => none))) (pc + 3) L (aR k i :: st)) : zG X p l e R s m args below meth c nL σ0 loc0 Q cells slots σ pc L (aI n :: st) := fun loc H locs ls hI => by
  subst hN
  refine W.anew C.x C.b C.ow (C.ts _ hw) (va_AO.use C.S.2.2.2.1) rfl hd rfl hn (by omega) hr.1 hr.2 fun cA kA comp f1 f2 f3 f4 => ?_
  have hcA : cA = X.2.1.2.2 := by
    obtain ⟨kA', comp', -, -, -, g4⟩ := (C.K.2 2 _ rfl).2
    exact Option.some.inj (f1.symm.trans g4)
  subst hcA
  generalize hH1 : H.push ({ cls := X.2.1.2.2, slots := Array.replicate n.toNatClampNeg .null, vm := .none } : Cell) = H1
  have z1 : H1.size = H.size + 1 := by rw [← hH1, Array.size_push]
  have e1 : H1[H.size]? = some (arrV X.2.1.2.2 n.toNatClampNeg (fun _ => .null)) := by rw [← hH1, Array.getElem?_push_size, ← arrV_new]
  have o1 : ∀ q : Nat, q < H.size → H1[q]? = H[q]? := fun q hq => by rw [← hH1, Array.getElem?_push, if_neg (Nat.ne_of_lt hq)]
  have hI' := hI.sk zl_tl
  have hN2 := hI'.new (c1 := rC n.toNatClampNeg (fun _ => none)) (H' := H1) h0 hk (show H1[H.size]? = some (vp_cell _ _) by rw [vp_cell_q]; exact e1) (fun j q h => by cases h) (by omega) o1
  exact z_after hI' h0 hN2 kk
theorem z_clamp {z : Int32} (hz : ¬ z < 0) : z.toInt = (z.toNatClampNeg : Int) := by
  have hz0 : (0 : Int) ≤ z.toInt := by
    have := Int32.not_lt.mp hz
    simpa using Int32.le_iff_toInt_le.mp this
  show z.toInt = ((z.toInt.toNat : Nat) : Int)
  omega
/-- System.arraycopy between rows of objects (elements: known classes that fit Object) -/
theorem z_copy (C : zC X p l s m args meth c cc nL own) {k i k' i' n0 n1 idx : Nat} {f g : Nat → Option zK} {sp dp n : Int32} (hd : decode cc pc = .ok (.invokestatic idx, 3)) (hlink : Cond.methodLink own idx arraycopyName ∈ zT) (hnat : Cond.native arraycopyName ∈ zT) (hstat : Cond.static arraycopyName ∈ zT) (hini : Cond.initialized "java/lang/System" ∈ zT) (h0 : σ k i = some (rC n0 f)) (h1 : σ k' i' = some (rC n1 g)) (hk : k' < 90)
    (hsp : ¬ sp < 0) (hdp : ¬ dp < 0) (hn : ¬ n < 0) (hs : sp.toNatClampNeg + n.toNatClampNeg ≤ n0) (hdd : dp.toNatClampNeg + n.toNatClampNeg ≤ n1) (hel : ∀ j, j < n.toNatClampNeg → ∀ y, f (sp.toNatClampNeg + j) = some y → ∃ ci fs, σ y.1 y.2 = some (oC ci fs) ∧ zElt ci) (hfr : 1 ≤ R.frames) (hlo : (∀ loc : zK → Nat, ((st.map (zcv loc)).map fun v => v.category).sum ≤ 8) ∧ 60 ≤ R.locals) (hwd : nativeFrameWords "java/lang/System" "arraycopy" 5 ≤ 40)
    (kk : zG X p l e R s m args below meth c nL σ0 loc0 Q cells slots (zput σ k' i' (rC n1 (va_cpy f g sp.toNatClampNeg dp.toNatClampNeg n.toNatClampNeg))) (pc + 3) L st) : zG X p l e R s m args below meth c nL σ0 loc0 Q cells slots σ pc L (aI n :: aI dp :: aR k' i' :: aI sp :: aR k i :: st) := fun loc H locs ls hI => by
  intro T hT Y
  have hc0 : H[loc (k, i)]? = some (vp_cell X.2.1.2.2 (n0, .inr (.inr (.inr (.inr (fun j => (f j).map loc)))))) := hI.cell h0
  have hc1 : H[loc (k', i')]? = some (vp_cell X.2.1.2.2 (n1, .inr (.inr (.inr (.inr (fun j => (g j).map loc)))))) := hI.cell h1
  obtain ⟨-, k0, hk0, cm0, hkk0⟩ := (C.K.2 2 _ rfl).1 n0 (fun j => va_rf ((f j).map loc))
  obtain ⟨-, k1, hk1, cm1, hkk1⟩ := (C.K.2 2 _ rfl).1 n1 (fun j => va_rf ((g j).map loc))
  obtain ⟨vm', X', step⟩ := Y.arraycopy C.x C.ow (C.ts _ hlink) (C.ts _ hnat) (C.ts _ hstat) (C.ts _ hini) (src := loc (k, i)) (dst := loc (k', i')) (cs := vp_cell X.2.1.2.2 (n0, .inr (.inr (.inr (.inr (fun j => (f j).map loc)))))) (cd := vp_cell X.2.1.2.2 (n1, .inr (.inr (.inr (.inr (fun j => (g j).map loc)))))) (srcPos := sp) (destPos := dp) (n := n) (by rw [hT]; exact hc0) (by rw [hT]; exact hc1)
    (fun _ h => by cases h) (fun _ h => by cases h) (fun h => by cases h) (fun h => by cases h) hk0 hk1 hkk0 hkk1 rfl hsp hdp hn
    (by rw [z_clamp hsp, z_clamp hn]; show ¬ _ > ((arrV X.2.1.2.2 n0 (fun j => va_rf ((f j).map loc))).slots.size : Int); rw [arrV_size]; omega)
    (by rw [z_clamp hdp, z_clamp hn]; show ¬ _ > ((arrV X.2.1.2.2 n1 (fun j => va_rf ((g j).map loc))).slots.size : Int); rw [arrV_size]; omega)
    (fun vm₁ hal j hj => by
      have e9 : (vp_cell X.2.1.2.2 (n0, .inr (.inr (.inr (.inr (fun j => (f j).map loc)))))).slots.getD (sp.toNatClampNeg + j) .null = va_rf ((f (sp.toNatClampNeg + j)).map loc) := by
        show (arrV X.2.1.2.2 n0 (fun j => va_rf ((f j).map loc))).slots.getD _ _ = _
        rw [Array.getD_eq_getD_getElem?, arrV_read _ _ (by omega)]
        rfl
      rw [e9]
      cases hy : f (sp.toNatClampNeg + j) with
      | none => exact ⟨rfl, trivial⟩
      | some y =>
        obtain ⟨ci, fs, hyc, r, hrc, hcast⟩ := hel j hj y hy
        obtain ⟨r', hr', cellV, g1, g2, g3, -⟩ := hI.cell hyc
        have hcls := (C.K.1 ci r hrc).2
        obtain ⟨kA, comp, r1, r2, r3, -⟩ := (C.K.2 2 _ rfl).2
        obtain ⟨c0, t1, f1, f2, f3⟩ := Cond.castable_spec (va_Nw.use (A := args) rfl (C.S.2.1 _ hcast))
        cases hcls.1.symm.trans f1
        cases r3.symm.trans f2
        cases hk1.symm.trans r1
        cases hkk1.symm.trans r2
        obtain ⟨kC, hkC, -⟩ := hcls.2
        obtain ⟨kE, hkE, -⟩ := Vm.findClass_spec r3
        obtain ⟨kC', hkC', -⟩ := hal.2.2 _ _ hkC
        obtain ⟨kE', hkE', -⟩ := hal.2.2 _ _ hkE
        refine ⟨rfl, cellV, (show T.heap[loc y]? = some cellV by rw [hT]; exact g1), (fun q h => by rw [g3] at h; cases h), ⟨kC', by rw [g2]; exact hkC'⟩, ?_, ?_⟩
        · exact ⟨kE', hkE'⟩
        · show vm₁.assignable _ _ = true
          rw [hal.assignable, g2]
          exact f3)
    (g := F0 m pc ls (.int n :: .int dp :: .ref (loc (k', i')) :: .int sp :: .ref (loc (k, i)) :: st.map (zcv loc))) rfl (by rw [C.ml]; exact hI.2.2.2.2.2.1) (rest := st.map (zcv loc)) rfl (by rw [C.b]; exact hd) hfr (by have := hlo.1 loc; have := hlo.2; show 2 * 0 + _ + _ ≤ _; omega)
  have e1 : copied (vp_cell X.2.1.2.2 (n0, .inr (.inr (.inr (.inr (fun j => (f j).map loc)))))) (vp_cell X.2.1.2.2 (n1, .inr (.inr (.inr (.inr (fun j => (g j).map loc)))))) sp dp n = vp_cell X.2.1.2.2 (n1, .inr (.inr (.inr (.inr (fun j => (va_cpy f g sp.toNatClampNeg dp.toNatClampNeg n.toNatClampNeg j).map loc))))) := by
    rw [vp_cell_q, vp_cell_q, vp_cell_q]
    exact va_copied (fun z => va_rf (Option.map loc z)) X.2.1.2.2 X.2.1.2.2 f g hs
  rw [e1] at X' step
  have hl : loc (k', i') < H.size := (Array.getElem?_eq_some_iff.mp hc1).1
  generalize hcd : vp_cell X.2.1.2.2 (n1, .inr (.inr (.inr (.inr (fun j => (va_cpy f g sp.toNatClampNeg dp.toNatClampNeg n.toNatClampNeg j).map loc))))) = cd at X' step
  have hheap : ((T.setVm vm').setCell (loc (k', i')) cd).heap = H.setIfInBounds (loc (k', i')) cd := by rw [← hT]; rfl
  have oq : ∀ q : Nat, q ≠ loc (k', i') → (H.setIfInBounds (loc (k', i')) cd)[q]? = H[q]? := fun q hq => by simp [Array.getElem?_setIfInBounds, Ne.symm hq]
  have hI' := hI.sk (st' := st) (fun h => zl_tl2 (zl_tl3 h))
  have hput := hI'.put (j := 0) (c1 := rC n1 (va_cpy f g sp.toNatClampNeg dp.toNatClampNeg n.toNatClampNeg)) (H' := H.setIfInBounds (loc (k', i')) cd) h1 hk (show (H.setIfInBounds _ _)[loc (k', i')]? = some (vp_cell _ _) by
      rw [← hcd]
      simp [Array.getElem?_setIfInBounds, hl]) (fun j q hj => by
      simp only [va_cpy] at hj
      split at hj
      · exact hI.clo h0 _ q hj
      · exact hI.clo h1 _ q hj) (by simp) oq
  obtain ⟨t, a1, b1⟩ := kk loc _ _ ls ⟨hput.1, hput.2.1, hput.2.2.1, hput.2.2.2.1, ⟨hput.2.2.2.2.1.1, hput.2.2.2.2.1.2.1, fun q hq => by
      rcases List.mem_append.mp hq with h | h
      · exact hI.2.2.2.2.1.2.2 q h
      · obtain ⟨z, -, hz⟩ := List.mem_map.mp h
        rw [← hz]
        exact (hI.1.2.2.1 k' i' _ h1).2.1 hk⟩, hput.2.2.2.2.2⟩ _ hheap X'
  exact ⟨t, step t a1, b1⟩
end ZN
end
section
/-! ===== END ===== -/
/-! ===== BEGIN a constructor that throws (launches without stack traces) ===== -/
section VXIA
variable {p : Program} {l : Launch} {e : Env} {R : Room} {s : State} {m : MethodId} {args : Array Value} {below : List Frame} {meth : Method} {c : Code} {T : State} {locs : List Loc} {cells slots : Nat}
theorem vx_callI (X : Stand p l e R s m args below meth c T locs cells slots) (hexec : p.tables.exec = Jvm.exec) {own : String} {index : Nat} {y : MethodName} {bytes : ByteArray} {maxL : Nat}
    (hown : s.vm.findClass own = some m.cls) (hy1 : y.name = "<init>") (hlink : (Cond.methodLink own index y).before args s = true) (hinst : (Cond.instanceMethod y).before args s = true)
    (hcode : (Cond.code y bytes maxL none).before args s = true) (hy : y.cls ≠ "java/lang/invoke/MethodHandle" ∧ y.cls ≠ "java/lang/invoke/VarHandle")
    {W9 : Nat} {Pre : Pt → Array Value → Prop} {Post : Pt → Array Value → Option Value → Pt → Prop} {PostX : Pt → Array Value → Addr → Pt → Prop} (hK : vx_Back l R p e below s args y 3 W9 Pre Post PostX)
    {g : JFrame} (hg : g.method = m) (hsize : g.locals.size = c.maxLocals) {a : Addr} {argsL rest : List Value} (hlen : ∀ sig, parseMethodDescriptor y.desc = some sig → argsL.length = sig.parameters.length)
    (hstack : g.stack = argsL.reverse ++ .ref a :: rest) (hW : 2 * g.monitorRoom + (rest.map fun v => v.category).sum ≤ W9) (hdg : decode c.code g.pc = .ok (.invokespecial index, 3))
    (hpre : ∀ vm₁, s.WarmedH vm₁ → Pre ⟨T.setVm vm₁, locs, cells, slots⟩ (Value.ref a :: argsL).toArray) :
    (∃ (v : Option Value) (vm₁ : Vm) (B : Pt), s.WarmedH vm₁ ∧ Stand p l e R s m args below meth c B.U B.locs B.cells B.slots ∧ Post ⟨T.setVm vm₁, locs, cells, slots⟩ (Value.ref a :: argsL).toArray v B ∧
      ∀ target, Steps p.tables e below (B.U.setTop { g with pc := g.pc + 3, stack := v.toList ++ rest }) target → Steps p.tables e below (T.setTop g) target) ∨
    (∃ (q : Addr) (vm₁ : Vm) (B : Pt), s.WarmedH vm₁ ∧ Stand p l e R s m args below meth c B.U B.locs B.cells B.slots ∧ PostX ⟨T.setVm vm₁, locs, cells, slots⟩ (Value.ref a :: argsL).toArray q B ∧
      Steps p.tables e below (T.setTop g) ((B.U.setTop { g with stack := rest }).pushFrame (.throwing q))) := by
  subst hg
  have hpl : e.platform.magicAccessors = ({} : Platform).magicAccessors := by rw [X.admits.platform]
  obtain ⟨mk, methM, cM, kP, vm₁, hnamed, hmethM, hcodeM, -, hlocalsM, -, hkP, -, hW₁, hstep₁⟩ := Steps.initColdArgs (e := e) X.here hexec X.warmed hpl hown hy1 hy hlink hinst hcode (f := g) rfl hlen hstack hdg
  have X₁ := X.noted hW₁
  rcases hK g.method meth c ⟨T.setVm vm₁, locs, cells, slots⟩ { g with stack := rest } (.invokespecial index) mk (Value.ref a :: argsL).toArray X₁ rfl hsize hdg hW (X₁.named hnamed) (hpre vm₁ X₁.warmed) with ⟨v, B, X', hpost, hsteps⟩ | ⟨q, B, X', hpost, hsteps⟩
  · exact Or.inl ⟨v, vm₁, B, X₁.warmed, X', hpost, fun target h => hstep₁ _ fun acts => by rw [doInvoke_state]; exact hsteps.trans h⟩
  · exact Or.inr ⟨q, vm₁, B, X₁.warmed, X', hpost, hstep₁ _ fun acts => by rw [doInvoke_state]; exact hsteps⟩
end VXIA
section VXIB
variable {p : Program} {l : Launch} {e : Env} {R : Room} {s : State} {m : MethodId} {args : Array Value} {below : List Frame} {meth : Method} {c : Code} {H : Heap} {locs : List Loc} {cells slots : Nat}
variable {y : MethodName} {bytes cc : ByteArray} {maxL nL mc ms n index : Nat} {ret : Option FieldType} {ws : List Cond} {rm : Room} {Pc : Array Value → State → Prop} {Qc : Array Value → State → Outcome → State → Prop} {XC : String → State → State → Prop} {free : Addr → Prop} {Ts : List Cond} {own C : String} {b : Addr} {As rest : List Value} {g : JFrame}
theorem vx_runI (S : CallFix p m c cc nL s args Ts own) (hM : vx_Met l y ws rm Pc Qc XC mc ms free) (cw : CallB R s args own index y bytes maxL none ws rm mc ms n ∧ y.name = "<init>" ∧ (Cond.instanceMethod y).before args s = true) (hp : PreS s H Pc (.ref b :: As))
    (hg : g.method = m) (hn : As.length = n) (hsize : g.locals.size = nL) (hstack : g.stack = As.reverse ++ .ref b :: rest) (hW : 2 * g.monitorRoom + (rest.map fun v => v.category).sum ≤ 8) (hdg : decode cc g.pc = .ok (.invokespecial index, 3)) (hf : cells + mc ≤ R.cells ∧ slots + ms ≤ R.slots) :
    vx_Run p l e R s m args below meth c H locs cells slots mc ms g rest (Qc (Value.ref b :: As).toArray) XC free := by
  have hK : vx_Back l R p e below s args y 3 8 (PreOf R mc ms Pc) (PostOf Qc mc ms free) (vx_Post XC mc ms free) := vx_callBack cw.1 hM hp.1
  obtain ⟨⟨-, -, -, -, -, -, hcode, -, hy, hlen, hl⟩, hy1, hin⟩ := cw
  obtain ⟨hx, hb, hml, ho, -⟩ := S
  have hPc := hp.2
  intro T hT X
  rcases vx_callI X hx (bytes := bytes) (maxL := maxL) ho hy1 hl hin hcode hy hK hg (hsize.trans hml.symm) (a := b) (argsL := As) (rest := rest) (fun sig h => hn.trans (hlen sig h)) hstack hW (by rw [hb]; exact hdg)
    (fun vm₁ hW₁ => ⟨hf.1, hf.2, hPc (T.setVm vm₁) hT hW₁⟩) with ⟨v, vm₁, ⟨U', l2, c2, s2⟩, hW₁, X', ⟨g', mk, t, L, e1, e2, hq, h1, hL, h2, h3⟩, st⟩ | ⟨q, vm₁, ⟨U', l2, c2, s2⟩, hW₁, X', ⟨g', mk, t, L, E, ce, e1, e2, hq, hce, hcv, hcl, h1, hL, h2, h3⟩, st⟩
  · dsimp only [Pt.U, Pt.locs, Pt.cells, Pt.slots] at X' e1 e2 h1 h2 h3 st
    subst h1; subst h2; subst h3
    exact Or.inl ⟨v, (T.setVm vm₁).calling g' mk (Value.ref b :: As).toArray, t, U', L, hT, X', hL, e1, e2, hq, st⟩
  · dsimp only [Pt.U, Pt.locs, Pt.cells, Pt.slots] at X' e1 e2 h1 h2 h3 st hcl
    subst h1; subst h2; subst h3
    exact Or.inr ⟨q, (T.setVm vm₁).calling g' mk (Value.ref b :: As).toArray, t, U', L, E, ce, hT, X', hL, e1, e2, hq, hce, hcv, vx_cls hW₁ hcl, st⟩
end VXIB
/-! ===== END ===== -/
/-! ===== BEGIN a private constructor of a nest mate that throws ===== -/
section VXIC
variable {p : Program} {l : Launch} {e : Env} {R : Room} {s : State} {m : MethodId} {args : Array Value} {below : List Frame} {meth : Method} {c : Code} {T : State} {locs : List Loc} {cells slots : Nat}
theorem vx_callIN (X : Stand p l e R s m args below meth c T locs cells slots) (hexec : p.tables.exec = Jvm.exec) {own : String} {index : Nat} {host : String} {y : MethodName} {bytes : ByteArray} {maxL : Nat}
    (hown : s.vm.findClass own = some m.cls) (hy1 : y.name = "<init>") (hlink : (Cond.methodLinkNest own index y host).before args s = true) (hinst : (Cond.instanceMethod y).before args s = true)
    (hcode : (Cond.code y bytes maxL none).before args s = true) (hy : y.cls ≠ "java/lang/invoke/MethodHandle" ∧ y.cls ≠ "java/lang/invoke/VarHandle")
    {W9 : Nat} {Pre : Pt → Array Value → Prop} {Post : Pt → Array Value → Option Value → Pt → Prop} {PostX : Pt → Array Value → Addr → Pt → Prop} (hK : vx_Back l R p e below s args y 3 W9 Pre Post PostX)
    {g : JFrame} (hg : g.method = m) (hsize : g.locals.size = c.maxLocals) {a : Addr} {argsL rest : List Value} (hlen : ∀ sig, parseMethodDescriptor y.desc = some sig → argsL.length = sig.parameters.length)
    (hstack : g.stack = argsL.reverse ++ .ref a :: rest) (hW : 2 * g.monitorRoom + (rest.map fun v => v.category).sum ≤ W9) (hdg : decode c.code g.pc = .ok (.invokespecial index, 3))
    (hpre : ∀ vm₁, s.WarmedH vm₁ → Pre ⟨T.setVm vm₁, locs, cells, slots⟩ (Value.ref a :: argsL).toArray) :
    (∃ (v : Option Value) (vm₁ : Vm) (B : Pt), s.WarmedH vm₁ ∧ Stand p l e R s m args below meth c B.U B.locs B.cells B.slots ∧ Post ⟨T.setVm vm₁, locs, cells, slots⟩ (Value.ref a :: argsL).toArray v B ∧
      ∀ target, Steps p.tables e below (B.U.setTop { g with pc := g.pc + 3, stack := v.toList ++ rest }) target → Steps p.tables e below (T.setTop g) target) ∨
    (∃ (q : Addr) (vm₁ : Vm) (B : Pt), s.WarmedH vm₁ ∧ Stand p l e R s m args below meth c B.U B.locs B.cells B.slots ∧ PostX ⟨T.setVm vm₁, locs, cells, slots⟩ (Value.ref a :: argsL).toArray q B ∧
      Steps p.tables e below (T.setTop g) ((B.U.setTop { g with stack := rest }).pushFrame (.throwing q))) := by
  subst hg
  have hpl : e.platform.magicAccessors = ({} : Platform).magicAccessors := by rw [X.admits.platform]
  obtain ⟨mk, methM, cM, kP, vm₁, hnamed, hmethM, hcodeM, -, hlocalsM, -, hkP, -, hW₁, hstep₁⟩ := Steps.initColdArgsNest (e := e) X.here hexec X.warmed hpl hown hy1 hy hlink hinst hcode (f := g) rfl hlen hstack hdg
  have X₁ := X.noted hW₁
  rcases hK g.method meth c ⟨T.setVm vm₁, locs, cells, slots⟩ { g with stack := rest } (.invokespecial index) mk (Value.ref a :: argsL).toArray X₁ rfl hsize hdg hW (X₁.named hnamed) (hpre vm₁ X₁.warmed) with ⟨v, B, X', hpost, hsteps⟩ | ⟨q, B, X', hpost, hsteps⟩
  · exact Or.inl ⟨v, vm₁, B, X₁.warmed, X', hpost, fun target h => hstep₁ _ fun acts => by rw [doInvoke_state]; exact hsteps.trans h⟩
  · exact Or.inr ⟨q, vm₁, B, X₁.warmed, X', hpost, hstep₁ _ fun acts => by rw [doInvoke_state]; exact hsteps⟩
end VXIC
section VXID
variable {p : Program} {l : Launch} {e : Env} {R : Room} {s : State} {m : MethodId} {args : Array Value} {below : List Frame} {meth : Method} {c : Code} {H : Heap} {locs : List Loc} {cells slots : Nat}
theorem vx_runIN {y : MethodName} {bytes cc : ByteArray} {maxL nL mc ms n index : Nat} {ws : List Cond} {rm : Room} {Pc : Array Value → State → Prop} {Qc : Array Value → State → Outcome → State → Prop} {XC : String → State → State → Prop} {free : Addr → Prop} {Ts : List Cond} {own host : String} {b : Addr} {As rest : List Value} {g : JFrame}
    (S : CallFix p m c cc nL s args Ts own) (hM : vx_Met l y ws rm Pc Qc XC mc ms free) (cw : va_CN R s args own index y host bytes maxL none ws rm mc ms n ∧ y.name = "<init>" ∧ (Cond.instanceMethod y).before args s = true) (hp : PreS s H Pc (.ref b :: As))
    (hg : g.method = m) (hn : As.length = n) (hsize : g.locals.size = nL) (hstack : g.stack = As.reverse ++ .ref b :: rest) (hW : 2 * g.monitorRoom + (rest.map fun v => v.category).sum ≤ 8) (hdg : decode cc g.pc = .ok (.invokespecial index, 3)) (hf : cells + mc ≤ R.cells ∧ slots + ms ≤ R.slots) :
    vx_Run p l e R s m args below meth c H locs cells slots mc ms g rest (Qc (Value.ref b :: As).toArray) XC free := by
  obtain ⟨⟨⟨hrc, hrs, hfr, hlo, hws, hcw⟩, hcode, hini, hy, hlen, hl⟩, hx1, hx2⟩ := cw
  have hK : vx_Back l R p e below s args y 3 8 (PreOf R mc ms Pc) (PostOf Qc mc ms free) (vx_Post XC mc ms free) := vx_back (bytes := bytes) (maxL := maxL) (ret := none) hM hp.1 hrc hrs hfr hlo hws hcw (fun a' U hW => word_at hW (Or.inl (by first | rfl | simp [Cond.onTables, Cond.keeps, Cond.steady])) hini)
  obtain ⟨hx, hb, hml, ho, -⟩ := S
  have hPc := hp.2
  intro T hT X
  rcases vx_callIN X hx (bytes := bytes) (maxL := maxL) ho hx1 hl hx2 hcode hy hK hg (hsize.trans hml.symm) (a := b) (argsL := As) (rest := rest) (fun sig h => hn.trans (hlen sig h)) hstack hW (by rw [hb]; exact hdg)
    (fun vm₁ hW₁ => ⟨hf.1, hf.2, hPc (T.setVm vm₁) hT hW₁⟩) with ⟨v, vm₁, ⟨U', l2, c2, s2⟩, hW₁, X', ⟨g', mk, t, L, e1, e2, hq, h1, hL, h2, h3⟩, st⟩ | ⟨q, vm₁, ⟨U', l2, c2, s2⟩, hW₁, X', ⟨g', mk, t, L, E, ce, e1, e2, hq, hce, hcv, hcl, h1, hL, h2, h3⟩, st⟩
  · dsimp only [Pt.U, Pt.locs, Pt.cells, Pt.slots] at X' e1 e2 h1 h2 h3 st
    subst h1; subst h2; subst h3
    exact Or.inl ⟨v, (T.setVm vm₁).calling g' mk (Value.ref b :: As).toArray, t, U', L, hT, X', hL, e1, e2, hq, st⟩
  · dsimp only [Pt.U, Pt.locs, Pt.cells, Pt.slots] at X' e1 e2 h1 h2 h3 st hcl
    subst h1; subst h2; subst h3
    exact Or.inr ⟨q, (T.setVm vm₁).calling g' mk (Value.ref b :: As).toArray, t, U', L, E, ce, hT, X', hL, e1, e2, hq, hce, hcv, vx_cls hW₁ hcl, st⟩
end VXID
/-! ===== END ===== -/
end
section
/-! the engine, fourth part: contracts, ends, calls, throws -/
def zRm (lev mc ms : Nat) : Room := { frames := lev, cells := mc, slots := ms, locals := 40 * lev }
def zPc (X : zX) (as : List zV) (σ0 : zHp) (loc0 : zK → Nat) : Array Value → State → Prop := fun a U => a = (as.map (zcv loc0)).toArray ∧ zS X U ∧ zW X σ0 loc0 U.heap ∧ ∀ v ∈ as, zlv σ0 v
def zQc (X : zX) (σ0 : zHp) (loc0 : zK → Nat) (post : Option zV → zHp → Prop) : Array Value → State → Outcome → State → Prop := fun _ st oc t => (∃ (r : Option zV) (σ : zHp) (loc : zK → Nat), oc = .returned (r.map (zcv loc)) ∧ post r σ ∧ (∀ v, r = some v → zlv σ v) ∧ zW X σ loc t.heap ∧ zLe σ0 loc0 σ loc) ∧ va_F (zA X) st t
def zXc (X : zX) (σ0 : zHp) (loc0 : zK → Nat) (xp : String → zHp → Prop) : String → State → State → Prop := fun E st t => (∃ (σ : zHp) (loc : zK → Nat), xp E σ ∧ zW X σ loc t.heap ∧ zLe σ0 loc0 σ loc) ∧ va_F (zA X) st t
/-- the contract of a method y, by the words ws: from the arguments 'as' and the world σ0 it returns with 'post' or throws with 'xp' -/
def zMw (X : zX) (l : Launch) (y : MethodName) (ws : List Cond) (lev mc ms : Nat) (as : List zV) (σ0 : zHp) (post : Option zV → zHp → Prop) (xp : String → zHp → Prop) : Prop :=
  l.stackTraces = false → ∀ loc0 : zK → Nat, vx_Met l y ws (zRm lev mc ms) (zPc X as σ0 loc0) (zQc X σ0 loc0 post) (zXc X σ0 loc0 xp) mc ms (zA X)
abbrev zM (X : zX) (l : Launch) (y : MethodName) (b : ByteArray) (nL : Nat) (ret : Option FieldType) (lev mc ms : Nat) (as : List zV) (σ0 : zHp) (post : Option zV → zHp → Prop) (xp : String → zHp → Prop) : Prop := zMw X l y (Cond.code y b nL ret :: zT) lev mc ms as σ0 post xp
abbrev zMh (X : zX) (l : Launch) (y : MethodName) (b : ByteArray) (nL : Nat) (ret : Option FieldType) (hh : List (Nat × Nat × Nat × Nat)) (lev mc ms : Nat) (as : List zV) (σ0 : zHp) (post : Option zV → zHp → Prop) (xp : String → zHp → Prop) : Prop := zMw X l y (Cond.codeWith y b nL ret hh :: zT) lev mc ms as σ0 post xp
def zNx : String → zHp → Prop := fun _ _ => False
abbrev zQ (X : zX) (σ0 : zHp) (loc0 : zK → Nat) (below : List Frame) (post : Option zV → zHp → Prop) (xp : String → zHp → Prop) (args : Array Value) (s : State) (mc ms : Nat) : State → Prop := vx_MQ below (zQc X σ0 loc0 post) (zXc X σ0 loc0 xp) args s mc ms (zA X)
def zargs : Nat → List zV → List (Nat × zV)
  | _, [] => []
  | i, v :: r => (i, v) :: zargs (i + 1) r
theorem zargs_eq (loc : zK → Nat) : ∀ (as : List zV) (i : Nat), (∀ v ∈ as, zcat v) → lv_args i (as.map (zcv loc)) = zcL loc (zargs i as)
  | [], _, _ => rfl
  | v :: r, i, h => by
    have h1 : (zcv loc v).category = 1 := zcat_cv (h v List.mem_cons_self)
    show (i, zcv loc v) :: lv_args (if (zcv loc v).category = 2 then i + 2 else i + 1) (r.map (zcv loc)) = _
    rw [h1, if_neg (by decide), zargs_eq loc r (i + 1) (fun x hx => h x (List.mem_cons_of_mem _ hx))]
    rfl
theorem zargs_ok {P : zV → Prop} : ∀ (as : List zV) (i : Nat), (∀ v ∈ as, P v) → ∀ q ∈ zargs i as, P q.2
  | [], _, _, q, hq => by cases hq
  | v :: r, i, h, q, hq => by
    rcases List.mem_cons.mp hq with e | hq
    · rw [e]; exact h v List.mem_cons_self
    · exact zargs_ok r (i + 1) (fun x hx => h x (List.mem_cons_of_mem _ hx)) q hq
theorem zargs_len (loc : zK → Nat) : ∀ (as : List zV), (∀ v ∈ as, zcat v) → (lg_sl (as.map (zcv loc))).length = as.length
  | [], _ => rfl
  | v :: r, h => by
    have h1 : (zcv loc v).category = 1 := zcat_cv (h v List.mem_cons_self)
    have ih := zargs_len loc r (fun x hx => h x (List.mem_cons_of_mem _ hx))
    unfold lg_sl at ih ⊢
    rw [List.map_cons, List.flatMap_cons, h1, if_neg (by decide), List.length_append, ih]
    simp [Nat.add_comm]
theorem zT_good : ∀ w ∈ zT, goodWord w = true := fun w h => (List.mem_filter.mp h).2
theorem zT_gi {w0 : Cond} (h0 : w0 ∈ zT) : GoodIn zT (w0 :: zT) := fun w h => by
  have hm : w ∈ zT := (List.mem_cons.mp h).elim (fun e => by rw [e]; exact h0) id
  exact ⟨hm, good_of_word (zT_good w hm)⟩
section ZM
variable {X : zX} {p : Program} {l : Launch} {e : Env} {R : Room} {s : State} {m : MethodId} {args : Array Value} {below : List Frame} {meth : Method} {c : Code} {nL : Nat} {σ0 σ : zHp} {loc0 : zK → Nat} {Q : State → Prop} {cells slots pc : Nat} {L : List (Nat × zV)} {st st' : List zV} {cc : ByteArray} {own : String}
theorem zM.of {y : MethodName} {b : ByteArray} {ret : Option FieldType} {lev mc ms : Nat} {as : List zV} {post : Option zV → zHp → Prop} {xp : String → zHp → Prop} (hy : plainName y.cls = true) (hlen : as.length ≤ nL) (hcat : ∀ v ∈ as, zcat v) (body : ∀ (p : Program) (e : Env) (s : State) (m : MethodId) (args : Array Value) (below : List Frame) (meth : Method) (c : Code) (loc0 : zK → Nat), zC X p l s m args meth c b nL y.cls → meth.sig.returnType = ret → meth.name = y.name → (∀ x ∈ c.exceptionTable.toList, False) → zG X p l e (zRm lev mc ms) s m args below meth c nL σ0 loc0 (zQ X σ0 loc0 below post xp args s mc ms) 0 0 σ0 0 (zargs 0 as) []) : zM X l y b nL ret lev mc ms as σ0 post xp := by
  intro hl loc0
  refine vx_ofW (cc := b) (maxL := nL) (ret := ret) hy rfl ?_
  intro p e s m args below meth c s₁ B hml hT hP
  obtain ⟨rfl, hS, hW, hlv⟩ := hP
  · have hts := atoms_spec (ws := Cond.code y b nL ret :: zT) B.pre
    have hC : zC X p l s m (as.map (zcv loc0)).toArray meth c b nL y.cls := ⟨B.exec, B.bytes, hml, findClass_of_methodNamed B.named, fun w hw => hts w (List.mem_cons_of_mem _ hw), hS, hl, B.notSynchronized, hW.1, hW.2.1⟩
    rw [lg_entry_eq]
    refine body p e s m _ below meth c loc0 hC B.returns (name_of_methodNamed B.named B.method).1 hT loc0 s.heap [] _ ⟨hW, zLe.rf, fun q hq => ⟨zargs_ok as 0 hlv q hq, zargs_ok as 0 hcat q hq⟩, (fun v h => by cases h), va_S.rf, ?_⟩
    rw [← zargs_eq loc0 as 0 hcat]
    exact lv_entry (as.map (zcv loc0)) (n := nL) (by rw [zargs_len loc0 as hcat]; exact hlen)
theorem zMh.of {y : MethodName} {b : ByteArray} {ret : Option FieldType} {hh : List (Nat × Nat × Nat × Nat)} {lev mc ms : Nat} {as : List zV} {post : Option zV → zHp → Prop} {xp : String → zHp → Prop} (hy : plainName y.cls = true) (hlen : as.length ≤ nL) (hcat : ∀ v ∈ as, zcat v) (body : ∀ (p : Program) (e : Env) (s : State) (m : MethodId) (args : Array Value) (below : List Frame) (meth : Method) (c : Code) (loc0 : zK → Nat), zC X p l s m args meth c b nL y.cls → meth.sig.returnType = ret → meth.name = y.name → c.exceptionTable.toList.map (fun h => (h.startPc, h.endPc, h.handlerPc, h.catchType)) = hh → zG X p l e (zRm lev mc ms) s m args below meth c nL σ0 loc0 (zQ X σ0 loc0 below post xp args s mc ms) 0 0 σ0 0 (zargs 0 as) []) : zMh X l y b nL ret hh lev mc ms as σ0 post xp := by
  intro hl loc0
  refine vx_ofWH (cc := b) (maxL := nL) (ret := ret) (hh := hh) hy rfl ?_
  intro p e s m args below meth c s₁ B hml hP
  obtain ⟨rfl, hS, hW, hlv⟩ := hP
  · have hts := atoms_spec (ws := Cond.codeWith y b nL ret hh :: zT) B.pre
    have hC : zC X p l s m (as.map (zcv loc0)).toArray meth c b nL y.cls := ⟨B.exec, B.bytes, hml, findClass_of_methodNamed B.named, fun w hw => hts w (List.mem_cons_of_mem _ hw), hS, hl, B.notSynchronized, hW.1, hW.2.1⟩
    have hT : c.exceptionTable.toList.map (fun h => (h.startPc, h.endPc, h.handlerPc, h.catchType)) = hh := by
      obtain ⟨m9, meth9, c9, hn9, h1, h2, -, -, h5, -⟩ := Cond.codeWith_spec (hts _ List.mem_cons_self)
      cases B.named.symm.trans hn9
      cases Option.some.inj (h1.symm.trans B.method)
      cases Option.some.inj (h2.symm.trans (Stand.of_body B).code)
      exact h5
    rw [lg_entry_eq]
    refine body p e s m _ below meth c loc0 hC B.returns (name_of_methodNamed B.named B.method).1 hT loc0 s.heap [] _ ⟨hW, zLe.rf, fun q hq => ⟨zargs_ok as 0 hlv q hq, zargs_ok as 0 hcat q hq⟩, (fun v h => by cases h), va_S.rf, ?_⟩
    rw [← zargs_eq loc0 as 0 hcat]
    exact lv_entry (as.map (zcv loc0)) (n := nL) (by rw [zargs_len loc0 as hcat]; exact hlen)
variable {post : Option zV → zHp → Prop} {xp : String → zHp → Prop} {mc ms : Nat} {loc : zK → Nat} {H : Heap} {locs : List Loc} {ls : Array Slot}
theorem zI.q (h : zI X s nL σ0 loc0 σ L st loc H locs ls) {r : Option zV} (hr : ∀ v, r = some v → zlv σ v) (hp : post r σ) {v : Option Value} (hv : v = r.map (zcv loc)) : ∀ t : State, t.heap = H → s.WarmedH t.vm → zQc X σ0 loc0 post args s (.returned v) t := fun t ht _ => ⟨⟨r, σ, loc, by rw [hv], hp, hr, by rw [ht]; exact h.1, h.2.1⟩, h.2.2.2.2.1.F ht⟩
theorem z_iret (C : zC X p l s m args meth c cc nL own) {x : Int32} {ty : FieldType} (hr : meth.sig.returnType = some ty) (hn : narrow ty (.int x) = .int x) (hd : decode cc pc = .ok (.ireturn, 1)) (hc : cells ≤ mc) (hs : slots ≤ ms) (hp : post (some (aI x)) σ) : zG X p l e R s m args below meth c nL σ0 loc0 (zQ X σ0 loc0 below post xp args s mc ms) cells slots σ pc L [aI x] := fun loc H locs ls hI =>
  W.widen hc hs (vx_ret (W.zret C.x C.b hr hn (hI.q (r := some (aI x)) (fun v h => by cases h; trivial) hp rfl) hI.2.2.2.2.1.2.2 hd C.2.2.2.2.2.2.2.1))
theorem z_vret (C : zC X p l s m args meth c cc nL own) (hr : meth.sig.returnType = none) (hd : decode cc pc = .ok (.return_, 1)) (hc : cells ≤ mc) (hs : slots ≤ ms) (hp : post none σ) : zG X p l e R s m args below meth c nL σ0 loc0 (zQ X σ0 loc0 below post xp args s mc ms) cells slots σ pc L [] := fun loc H locs ls hI =>
  W.widen hc hs (vx_ret (W.vret C.x C.b hr (hI.q (r := none) (fun v h => by cases h) hp rfl) hI.2.2.2.2.1.2.2 hd C.2.2.2.2.2.2.2.1))
theorem z_aret (C : zC X p l s m args meth c cc nL own) {v : zV} {rt : FieldType} (hr : meth.sig.returnType = some rt) (hrt : (∃ n, rt = .object n) ∨ ∃ t, rt = .array t) (hv : ∃ o : Option zK, v = aO o) (hd : decode cc pc = .ok (.areturn, 1)) (hc : cells ≤ mc) (hs : slots ≤ ms) (hp : post (some v) σ) : zG X p l e R s m args below meth c nL σ0 loc0 (zQ X σ0 loc0 below post xp args s mc ms) cells slots σ pc L [v] := fun loc H locs ls hI =>
  W.widen hc hs (vx_ret (W.aret C.x C.b hr hrt (by obtain ⟨o, rfl⟩ := hv; cases o with | none => exact Or.inl rfl | some q => exact Or.inr ⟨_, rfl⟩) (hI.q (r := some v) (fun w h => by cases h; exact zl_hd hI.2.2.2.1) hp rfl) hI.2.2.2.2.1.2.2 hd C.2.2.2.2.2.2.2.1))
/-- q is thrown in this frame -/
def zE (X : zX) (p : Program) (l : Launch) (e : Env) (R : Room) (s : State) (m : MethodId) (args : Array Value) (below : List Frame) (meth : Method) (c : Code) (nL : Nat) (σ0 : zHp) (loc0 : zK → Nat) (Q : State → Prop) (cells slots : Nat) (E : String) (σ : zHp) (pc : Nat) (L : List (Nat × zV)) : Prop :=
  ∀ (loc : zK → Nat) (H : Heap) (locs : List Loc) (ls : Array Slot) (rest : List Value) (q : Addr) (ce : Cell), zI X s nL σ0 loc0 σ L [] loc H locs ls → H[q]? = some ce → ce.vm = .none → s.vm.findClass E = some ce.cls → vx_W p l e R s m args below meth c H locs cells slots Q (F0 m pc ls rest) q
theorem z_out {E : String} (hT : ∀ x ∈ c.exceptionTable.toList, False) (hlocks : meth.locks = false) (hc : cells ≤ mc) (hs : slots ≤ ms) (hp : xp E σ) : zE X p l e R s m args below meth c nL σ0 loc0 (zQ X σ0 loc0 below post xp args s mc ms) cells slots E σ pc L := fun loc H locs ls rest q ce hI hq hv hE =>
  vx_out (fun x hx => absurd hx (fun h => hT x h)) hlocks hq hv hE (fun t ht _ => ⟨⟨σ, loc, hp, by rw [ht]; exact hI.1, hI.2.1⟩, hI.2.2.2.2.1.F ht⟩) hI.2.2.2.2.1.2.2 hc hs
theorem z_run {rest : List zV} {aa : (zK → Nat) → Array Value} (hr : ∀ loc H locs ls, zI X s nL σ0 loc0 σ L st loc H locs ls → vx_Run p l e R s m args below meth c H locs cells slots mc ms (F0 m pc ls (st.map (zcv loc))) (rest.map (zcv loc)) (zQc X σ loc post (aa loc)) (zXc X σ loc xp) (zA X)) (hrest : ∀ v ∈ rest, v ∈ st) (kk : ∀ r σ1, post r σ1 → zG X p l e R s m args below meth c nL σ0 loc0 Q (cells + mc) (slots + ms) σ1 (pc + 3) L (r.toList ++ rest)) (kx : ∀ E σ1, xp E σ1 → zE X p l e R s m args below meth c nL σ0 loc0 Q (cells + mc) (slots + ms) E σ1 pc L) : zG X p l e R s m args below meth c nL σ0 loc0 Q cells slots σ pc L st := fun loc H locs ls hI => by
  intro T hT Y
  have hL' : ∀ {σ1 : zHp} {loc1 : zK → Nat}, zLe σ loc σ1 loc1 → zcL loc1 L = zcL loc L := fun hle => by
    unfold zcL
    exact List.map_congr_left (fun q hq => by rw [zcv_congr (fun k i h => (hle k i h).2) (hI.2.2.1 q hq).1])
  rcases hr loc H locs ls hI T hT Y with ⟨v, st₀, t, T', Lc, h0, Y', hLc, e1, e2, ⟨⟨r, σ1, loc1, hv, hp, hlr, hW', hle⟩, hF⟩, st1⟩ | ⟨q, st₀, t, T', Lc, E, ce, h0, Y', hLc, e1, e2, ⟨⟨σ1, loc1, hp, hW', hle⟩, hF⟩, hce, hcv, hcl, st1⟩
  · cases hv
    obtain ⟨-, -, k3⟩ := vx_keep (A0 := zA X) (A1 := zA X) (free := zA X) h0 e1 hI.2.2.2.2.1 (fun _ _ h => h) (fun _ h => h) hLc hF
    have hlrest : ∀ v ∈ rest, zlv σ v := fun v hv => hI.2.2.2.1 v (hrest v hv)
    have hI1 : zI X s nL σ0 loc0 σ1 L (r.toList ++ rest) loc1 T'.heap (locs ++ Lc) ls := by
      refine ⟨by rw [e1]; exact hW', hI.2.1.trans hle, fun q hq => ⟨zlv_mono (fun k i h => (hle k i h).1) (hI.2.2.1 q hq).1, (hI.2.2.1 q hq).2⟩, fun v hv => ?_, k3, by rw [hL' hle]; exact hI.2.2.2.2.2⟩
      rcases List.mem_append.mp hv with h | h
      · exact hlr v (Option.mem_toList.mp h)
      · exact zlv_mono (fun k i h => (hle k i h).1) (hlrest v h)
    obtain ⟨t2, a1, b1⟩ := kk r σ1 hp loc1 T'.heap _ ls hI1 T' rfl Y'
    have es : (r.map (zcv loc1)).toList ++ rest.map (zcv loc) = (r.toList ++ rest).map (zcv loc1) := by
      rw [List.map_append, List.map_congr_left (fun v hv => (zcv_congr (fun k i h => (hle k i h).2) (hlrest v hv)).symm)]
      cases r <;> rfl
    refine ⟨t2, st1 t2 ?_, b1⟩
    rw [← es] at a1
    exact a1
  · obtain ⟨-, -, k3⟩ := vx_keep (A0 := zA X) (A1 := zA X) (free := zA X) h0 e1 hI.2.2.2.2.1 (fun _ _ h => h) (fun _ h => h) hLc hF
    obtain ⟨t2, a1, b1⟩ := kx E σ1 hp loc1 T'.heap _ ls (rest.map (zcv loc)) q ce ⟨by rw [e1]; exact hW', hI.2.1.trans hle, fun q hq => ⟨zlv_mono (fun k i h => (hle k i h).1) (hI.2.2.1 q hq).1, (hI.2.2.1 q hq).2⟩, (fun v h => by cases h), k3, by rw [hL' hle]; exact hI.2.2.2.2.2⟩ (by rw [e1]; exact hce) hcv hcl T' rfl Y'
    exact ⟨t2, st1.trans a1, b1⟩
theorem zPc_blind {as : List zV} {loc : zK → Nat} : FrameBlind (zPc X as σ loc) := fun a U g mk h => ⟨h.1, zS.same rfl h.2.1, h.2.2⟩
theorem zPc_at {as : List zV} (C : zC X p l s m args meth c cc nL own) (hI : zI X s nL σ0 loc0 σ L st loc H locs ls) (hs : ∀ v ∈ as, v ∈ st) : ∀ U : State, U.heap = H → s.WarmedH U.vm → zPc X as σ loc (as.map (zcv loc)).toArray U := fun U hU hW => ⟨rfl, zS.warm hW C.S, by rw [hU]; exact hI.1, fun v hv => hI.2.2.2.1 v (hs v hv)⟩
/-- a method's own words -/
def zY (y : MethodName) (w0 : Cond) (n : Nat) : Prop := w0 ∈ zT ∧ Cond.initialized y.cls ∈ zT ∧ (y.cls ≠ "java/lang/invoke/MethodHandle" ∧ y.cls ≠ "java/lang/invoke/VarHandle" ∧ (parseMethodDescriptor y.desc).map (fun d => d.parameters.length) = some n)
theorem zY.len {y : MethodName} {w0 : Cond} {n : Nat} (h : zY y w0 n) : ∀ sig, parseMethodDescriptor y.desc = some sig → n = sig.parameters.length := fun sig hs => by
  have h2 := h.2.2.2.2
  rw [hs] at h2
  exact (Option.some.inj h2).symm
variable {y : MethodName} {b : ByteArray} {nL' lev n : Nat} {ret : Option FieldType} {as rest : List zV} {idx : Nat}
theorem zB (C : zC X p l s m args meth c cc nL own) (hY : zY y (Cond.code y b nL' ret) n) (hml : Cond.methodLink own idx y ∈ zT) (hR : lev + 1 ≤ R.frames ∧ 8 + (nL' + 11) + 40 * lev ≤ R.locals) : CallB R s args own idx y b nL' ret (Cond.code y b nL' ret :: zT) (zRm lev mc ms) mc ms n :=
  callB_of n C.ts (zT_gi hY.1) rfl rfl rfl (C.ts _ hY.2.1) (C.ts _ hml) hY.2.2 hR
theorem z_rev {as rest : List zV} {loc : zK → Nat} {v : zV} : ((as.reverse ++ v :: rest).map (zcv loc)) = (as.map (zcv loc)).reverse ++ zcv loc v :: rest.map (zcv loc) := by
  rw [List.map_append, List.map_reverse, List.map_cons]
theorem z_revS {as rest : List zV} {loc : zK → Nat} : ((as.reverse ++ rest).map (zcv loc)) = (as.map (zcv loc)).reverse ++ rest.map (zcv loc) := by
  rw [List.map_append, List.map_reverse]
theorem z_callV (C : zC X p l s m args meth c cc nL own) {k i ci : Nat} {fs : List zV} (hY : zY y (Cond.code y b nL' ret) n) (hV : Cond.instanceMethod y ∈ zT ∧ Cond.selects y.cls y y ∈ zT) (hml : Cond.methodLink own idx y ∈ zT) (hM : zM X l y b nL' ret lev mc ms (aR k i :: as) σ post xp) (hd : decode cc pc = .ok (.invokevirtual idx, 3)) (hst : st = as.reverse ++ aR k i :: rest) (hn : as.length = n) (hσ : σ k i = some (oC ci fs)) (hci : ∃ T N, vwCl[ci]? = some (y.cls, T, N)) (hcat : ∀ loc : zK → Nat, ((rest.map (zcv loc)).map fun v => v.category).sum ≤ 8) (hR : lev + 1 ≤ R.frames ∧ 8 + (nL' + 11) + 40 * lev ≤ R.locals) (hf : cells + mc ≤ R.cells ∧ slots + ms ≤ R.slots)
    (kk : ∀ r σ1, post r σ1 → zG X p l e R s m args below meth c nL σ0 loc0 Q (cells + mc) (slots + ms) σ1 (pc + 3) L (r.toList ++ rest)) (kx : ∀ E σ1, xp E σ1 → zE X p l e R s m args below meth c nL σ0 loc0 Q (cells + mc) (slots + ms) E σ1 pc L) : zG X p l e R s m args below meth c nL σ0 loc0 Q cells slots σ pc L st := by
  subst hst
  refine z_run (post := post) (xp := xp) (aa := fun loc => (Value.ref (loc (k, i)) :: as.map (zcv loc)).toArray) (fun loc H locs ls hI => ?_) (fun v hv => List.mem_append_right _ (List.mem_cons_of_mem _ hv)) kk kx
  obtain ⟨T9, N9, hc9⟩ := hci
  obtain ⟨r9, hr9, cell, g1, g2, g3, -⟩ := hI.cell hσ
  refine vx_runV (C := y.cls) (b := loc (k, i)) (As := as.map (zcv loc)) C.fix (hM C.2.2.2.2.2.2.1 loc) ⟨zB C hY hml hR, C.ts _ hV.1, C.ts _ hV.2⟩ ⟨zPc_blind, ⟨cell, g1, by rw [g3]; rfl, by rw [g2]; exact (C.K.1 ci _ hc9).2.1⟩, zPc_at (as := aR k i :: as) C hI (fun v hv => ?_)⟩ rfl (by rw [List.length_map]; exact hn) hI.2.2.2.2.2.1 z_rev (lv_room (hcat loc)) hd hf
  rcases List.mem_cons.mp hv with e | h
  · rw [e]; exact List.mem_append_right _ List.mem_cons_self
  · exact List.mem_append_left _ (List.mem_reverse.mpr h)
theorem z_callS (C : zC X p l s m args meth c cc nL own) (hY : zY y (Cond.code y b nL' ret) n) (hV : Cond.static y ∈ zT) (hml : Cond.methodLink own idx y ∈ zT) (hM : zM X l y b nL' ret lev mc ms as σ post xp) (hd : decode cc pc = .ok (.invokestatic idx, 3)) (hst : st = as.reverse ++ rest) (hn : as.length = n) (hcat : ∀ loc : zK → Nat, ((rest.map (zcv loc)).map fun v => v.category).sum ≤ 8) (hR : lev + 1 ≤ R.frames ∧ 8 + (nL' + 11) + 40 * lev ≤ R.locals) (hf : cells + mc ≤ R.cells ∧ slots + ms ≤ R.slots)
    (kk : ∀ r σ1, post r σ1 → zG X p l e R s m args below meth c nL σ0 loc0 Q (cells + mc) (slots + ms) σ1 (pc + 3) L (r.toList ++ rest)) (kx : ∀ E σ1, xp E σ1 → zE X p l e R s m args below meth c nL σ0 loc0 Q (cells + mc) (slots + ms) E σ1 pc L) : zG X p l e R s m args below meth c nL σ0 loc0 Q cells slots σ pc L st := by
  subst hst
  refine z_run (post := post) (xp := xp) (aa := fun loc => (as.map (zcv loc)).toArray) (fun loc H locs ls hI => ?_) (fun v hv => List.mem_append_right _ hv) kk kx
  exact vx_runS (As := as.map (zcv loc)) C.fix (hM C.2.2.2.2.2.2.1 loc) ⟨zB C hY hml hR, C.ts _ hV⟩ ⟨zPc_blind, zPc_at (as := as) C hI (fun v hv => List.mem_append_left _ (List.mem_reverse.mpr hv))⟩ rfl (by rw [List.length_map]; exact hn) hI.2.2.2.2.2.1 z_revS (lv_room (hcat loc)) hd hf
theorem z_callI (C : zC X p l s m args meth c cc nL own) {k i : Nat} (hY : zY y (Cond.code y b nL' none) n) (hV : Cond.instanceMethod y ∈ zT) (hnm : y.name = "<init>") (hml : Cond.methodLink own idx y ∈ zT) (hM : zM X l y b nL' none lev mc ms (aR k i :: as) σ post xp) (hd : decode cc pc = .ok (.invokespecial idx, 3)) (hst : st = as.reverse ++ aR k i :: rest) (hn : as.length = n) (hcat : ∀ loc : zK → Nat, ((rest.map (zcv loc)).map fun v => v.category).sum ≤ 8) (hR : lev + 1 ≤ R.frames ∧ 8 + (nL' + 11) + 40 * lev ≤ R.locals) (hf : cells + mc ≤ R.cells ∧ slots + ms ≤ R.slots)
    (kk : ∀ r σ1, post r σ1 → zG X p l e R s m args below meth c nL σ0 loc0 Q (cells + mc) (slots + ms) σ1 (pc + 3) L (r.toList ++ rest)) (kx : ∀ E σ1, xp E σ1 → zE X p l e R s m args below meth c nL σ0 loc0 Q (cells + mc) (slots + ms) E σ1 pc L) : zG X p l e R s m args below meth c nL σ0 loc0 Q cells slots σ pc L st := by
  subst hst
  refine z_run (post := post) (xp := xp) (aa := fun loc => (Value.ref (loc (k, i)) :: as.map (zcv loc)).toArray) (fun loc H locs ls hI => ?_) (fun v hv => List.mem_append_right _ (List.mem_cons_of_mem _ hv)) kk kx
  refine vx_runI (b := loc (k, i)) (As := as.map (zcv loc)) C.fix (hM C.2.2.2.2.2.2.1 loc) ⟨zB C hY hml hR, hnm, C.ts _ hV⟩ ⟨zPc_blind, zPc_at (as := aR k i :: as) C hI (fun v hv => ?_)⟩ rfl (by rw [List.length_map]; exact hn) hI.2.2.2.2.2.1 z_rev (lv_room (hcat loc)) hd hf
  rcases List.mem_cons.mp hv with e | h
  · rw [e]; exact List.mem_append_right _ List.mem_cons_self
  · exact List.mem_append_left _ (List.mem_reverse.mpr h)
theorem z_callIN (C : zC X p l s m args meth c cc nL own) {k i : Nat} {host : String} (hY : zY y (Cond.code y b nL' none) n) (hV : Cond.instanceMethod y ∈ zT) (hnm : y.name = "<init>") (hml : va_Nw (.methodLinkNest own idx y host) s) (hM : zM X l y b nL' none lev mc ms (aR k i :: as) σ post xp) (hd : decode cc pc = .ok (.invokespecial idx, 3)) (hst : st = as.reverse ++ aR k i :: rest) (hn : as.length = n) (hcat : ∀ loc : zK → Nat, ((rest.map (zcv loc)).map fun v => v.category).sum ≤ 8) (hR : lev + 1 ≤ R.frames ∧ 8 + (nL' + 11) + 40 * lev ≤ R.locals) (hf : cells + mc ≤ R.cells ∧ slots + ms ≤ R.slots)
    (kk : ∀ r σ1, post r σ1 → zG X p l e R s m args below meth c nL σ0 loc0 Q (cells + mc) (slots + ms) σ1 (pc + 3) L (r.toList ++ rest)) (kx : ∀ E σ1, xp E σ1 → zE X p l e R s m args below meth c nL σ0 loc0 Q (cells + mc) (slots + ms) E σ1 pc L) : zG X p l e R s m args below meth c nL σ0 loc0 Q cells slots σ pc L st := by
  subst hst
  refine z_run (post := post) (xp := xp) (aa := fun loc => (Value.ref (loc (k, i)) :: as.map (zcv loc)).toArray) (fun loc H locs ls hI => ?_) (fun v hv => List.mem_append_right _ (List.mem_cons_of_mem _ hv)) kk kx
  refine vx_runIN (b := loc (k, i)) (As := as.map (zcv loc)) C.fix (hM C.2.2.2.2.2.2.1 loc) ⟨va_cnB n C.ts (zT_gi hY.1) rfl rfl rfl hml (C.ts _ hY.2.1) hY.2.2 hR, hnm, C.ts _ hV⟩ ⟨zPc_blind, zPc_at (as := aR k i :: as) C hI (fun v hv => ?_)⟩ rfl (by rw [List.length_map]; exact hn) hI.2.2.2.2.2.1 z_rev (lv_room (hcat loc)) hd hf
  rcases List.mem_cons.mp hv with e | h
  · rw [e]; exact List.mem_append_right _ List.mem_cons_self
  · exact List.mem_append_left _ (List.mem_reverse.mpr h)
theorem z_callSX (C : zC X p l s m args meth c cc nL own) {hh : List (Nat × Nat × Nat × Nat)} (hY : zY y (Cond.codeWith y b nL' ret hh) n) (hV : Cond.static y ∈ zT) (hml : Cond.methodLink own idx y ∈ zT) (hM : zMh X l y b nL' ret hh lev mc ms as σ post xp) (hd : decode cc pc = .ok (.invokestatic idx, 3)) (hst : st = as.reverse ++ rest) (hn : as.length = n) (hcat : ∀ loc : zK → Nat, ((rest.map (zcv loc)).map fun v => v.category).sum ≤ 8) (hR : lev + 1 ≤ R.frames ∧ 8 + (nL' + 11) + 40 * lev ≤ R.locals) (hf : cells + mc ≤ R.cells ∧ slots + ms ≤ R.slots)
    (kk : ∀ r σ1, post r σ1 → zG X p l e R s m args below meth c nL σ0 loc0 Q (cells + mc) (slots + ms) σ1 (pc + 3) L (r.toList ++ rest)) (kx : ∀ E σ1, xp E σ1 → zE X p l e R s m args below meth c nL σ0 loc0 Q (cells + mc) (slots + ms) E σ1 pc L) : zG X p l e R s m args below meth c nL σ0 loc0 Q cells slots σ pc L st := by
  subst hst
  refine z_run (post := post) (xp := xp) (aa := fun loc => (as.map (zcv loc)).toArray) (fun loc H locs ls hI => ?_) (fun v hv => List.mem_append_right _ hv) kk kx
  exact vx_runSX (As := as.map (zcv loc)) C.fix (hM C.2.2.2.2.2.2.1 loc) (vx_cwSW n C.ts (fun w h => by
      rcases List.mem_append.mp h with h | h
      · simp only [List.mem_cons, List.not_mem_nil, or_false] at h
        rcases h with e | e | e <;> rw [e]
        · exact ⟨hml, good_of_word (zT_good _ hml)⟩
        · exact ⟨hV, good_of_word (zT_good _ hV)⟩
        · exact ⟨hY.2.1, good_of_word (zT_good _ hY.2.1)⟩
      · exact zT_gi hY.1 w h) rfl rfl rfl hY.2.2 hR) ⟨zPc_blind, zPc_at (as := as) C hI (fun v hv => List.mem_append_left _ (List.mem_reverse.mpr hv))⟩ rfl (by rw [List.length_map]; exact hn) hI.2.2.2.2.2.1 z_revS (lv_room (hcat loc)) hd hf
-- answers by their kinds
def zPi (P : Int32 → zHp → Prop) : Option zV → zHp → Prop := fun r σ => ∃ x, r = some (aI x) ∧ P x σ
def zPv (P : zHp → Prop) : Option zV → zHp → Prop := fun r σ => r = none ∧ P σ
def zPo (P : Option zK → zHp → Prop) : Option zV → zHp → Prop := fun r σ => ∃ o, r = some (aO o) ∧ P o σ
def zPr (P : zK → zHp → Prop) : Option zV → zHp → Prop := fun r σ => ∃ q, r = some (.inr q) ∧ P q σ
theorem z_ri {P : Int32 → zHp → Prop} {K : zHp → List zV → Prop} (h : ∀ x σ1, P x σ1 → K σ1 (aI x :: rest)) : ∀ r σ1, zPi P r σ1 → K σ1 (r.toList ++ rest) := fun r σ1 ⟨x, e, hp⟩ => by subst e; exact h x σ1 hp
theorem z_rv {P : zHp → Prop} {K : zHp → List zV → Prop} (h : ∀ σ1, P σ1 → K σ1 rest) : ∀ r σ1, zPv P r σ1 → K σ1 (r.toList ++ rest) := fun r σ1 ⟨e, hp⟩ => by subst e; exact h σ1 hp
theorem z_ro {P : Option zK → zHp → Prop} {K : zHp → List zV → Prop} (h : ∀ x σ1, P x σ1 → K σ1 (aO x :: rest)) : ∀ r σ1, zPo P r σ1 → K σ1 (r.toList ++ rest) := fun r σ1 ⟨x, e, hp⟩ => by subst e; exact h x σ1 hp
theorem z_rr {P : zK → zHp → Prop} {K : zHp → List zV → Prop} (h : ∀ x σ1, P x σ1 → K σ1 (.inr x :: rest)) : ∀ r σ1, zPr P r σ1 → K σ1 (r.toList ++ rest) := fun r σ1 ⟨x, e, hp⟩ => by subst e; exact h x σ1 hp
theorem z_nx {K : String → zHp → Prop} : ∀ E σ1, zNx E σ1 → K E σ1 := fun _ _ h => h.elim
end ZM
end
section
/-! the engine, fifth part: throw and catch; Math -/
section ZT
variable {X : zX} {p : Program} {l : Launch} {e : Env} {R : Room} {s : State} {m : MethodId} {args : Array Value} {below : List Frame} {meth : Method} {c : Code} {nL : Nat} {σ0 σ : zHp} {loc0 : zK → Nat} {Q : State → Prop} {cells slots pc : Nat} {L : List (Nat × zV)} {st st' : List zV} {cc : ByteArray} {own : String}
variable {post : Option zV → zHp → Prop} {xp : String → zHp → Prop} {mc ms : Nat}
def zNm : List String := ["java/lang/RuntimeException", "java/lang/Exception"]
theorem zNm_fit : ∀ n ∈ zNm, Bundle.fit n = true := by decide +kernel
def zBad (cls : String) : List Cond := .castable cls cls :: zDec.map Cond.declares
def zTh (own cls : String) (ik ic : Nat) : Prop := Bundle.fit cls = true ∧ Cond.classLink own ik cls ∈ zT ∧ Cond.initialized cls ∈ zT ∧ (∀ w ∈ (vx_atS own ic cls zNm).filter goodWord, w ∈ zT) ∧ (∀ w ∈ (vx_atS own ic cls zNm).filter (fun w => !goodWord w), w ∈ zBad cls) ∧ (cls, cls) ∈ zCast ∧ (∀ w ∈ Cond.classLink own ik cls :: Cond.initialized cls :: vx_atS own ic cls zNm, vx_ot w = true)
theorem z_throwS (C : zC X p l s m args meth c cc nL own) (hT : ∀ x ∈ c.exceptionTable.toList, False) {cls text : String} {ik is ic : Nat} (hth : zTh own cls ik ic) (hown : own = RX6) (hstr : (is, text) ∈ zStr) (d0 : decode cc pc = .ok (.new ik, 3)) (d3 : decode cc (pc + 3) = .ok (.dup, 1)) (d4 : decode cc (pc + 4) = .ok (.ldc is, 2)) (d6 : decode cc (pc + 6) = .ok (.invokespecial ic, 3)) (d9 : decode cc (pc + 9) = .ok (.athrow, 1)) (hRf : 5 < R.frames ∧ 82 ≤ R.locals) (hR : cells + 1 ≤ R.cells ∧ slots + 6 ≤ R.slots) (hc : cells + 1 ≤ mc) (hs : slots + 6 ≤ ms) (hp : xp cls σ) : zG X p l e R s m args below meth c nL σ0 loc0 (zQ X σ0 loc0 below post xp args s mc ms) cells slots σ pc L [] := fun loc H locs ls hI => by
  obtain ⟨h1, h2, h3, h4, h5, h6, h7⟩ := hth
  obtain ⟨sa, hsa⟩ := C.S.2.2.2.2.2.2.2.2.2 _ hstr
  have hU := (C.S.2.2.2.2.2.1).kept (H1 := s.heap) (fun a h1 _ => C.2.2.2.2.2.2.2.2.2 a h1)
  have hN := (C.S.2.2.2.2.2.2.1).kept (H1 := s.heap) (fun a h1 _ => C.2.2.2.2.2.2.2.2.2 a h1)
  refine vx_throwS (names := zNm) (sa := sa) (A := zA X) C.x C.b C.2.2.2.2.2.2.1 C.ow h1 zNm_fit (C.ts _ h2) (C.ts _ h3) (by rw [hown]; exact hsa) (vx_hat (B := zBad cls) (fun w hw => C.ts w (h4 w hw)) h5 (fun w hw => by
    rcases List.mem_cons.mp hw with e9 | hw
    · rw [e9]; exact va_Nw.use rfl (C.S.2.1 _ h6)
    · obtain ⟨y, hy, rfl⟩ := List.mem_map.mp hw
      exact va_Nw.use rfl (C.S.2.2.2.2.1.2.1 y hy))) h7 hU hN hI.2.2.2.2.1 (by rw [C.ml]; exact hI.2.2.2.2.2.1) d0 d3 d4 d6 d9 (fun x hx => absurd hx (fun h => hT x h)) hRf.1 (by show 0 + 82 ≤ _; have := hRf.2; omega) hR.1 hR.2 C.2.2.2.2.2.2.2.1 (fun t _ hz ho => ?_) hI.2.2.2.2.1.2.2 hc hs
  exact ⟨⟨σ, loc, hp, hI.1.grow hz ho, hI.2.1⟩, Nat.le_trans hI.2.2.2.2.1.1 hz, fun q g1 g2 => (ho q (Nat.lt_of_lt_of_le g1 hI.2.2.2.2.1.1)).trans (hI.2.2.2.2.1.2.1 q g1 g2)⟩
theorem z_throwSW (C : zC X p l s m args meth c cc nL own) (hT : ∀ x ∈ c.exceptionTable.toList, False) {cls text : String} {ik is ic : Nat} (hth : zTh own cls ik ic) (hown : own = RX6) (hstr : (is, text) ∈ zStr) (d0 : decode cc pc = .ok (.new ik, 3)) (d3 : decode cc (pc + 3) = .ok (.dup, 1)) (d4 : decode cc (pc + 4) = .ok (.ldc_w is, 3)) (d6 : decode cc (pc + 7) = .ok (.invokespecial ic, 3)) (d9 : decode cc (pc + 10) = .ok (.athrow, 1)) (hRf : 5 < R.frames ∧ 82 ≤ R.locals) (hR : cells + 1 ≤ R.cells ∧ slots + 6 ≤ R.slots) (hc : cells + 1 ≤ mc) (hs : slots + 6 ≤ ms) (hp : xp cls σ) : zG X p l e R s m args below meth c nL σ0 loc0 (zQ X σ0 loc0 below post xp args s mc ms) cells slots σ pc L [] := fun loc H locs ls hI => by
  obtain ⟨h1, h2, h3, h4, h5, h6, h7⟩ := hth
  obtain ⟨sa, hsa⟩ := C.S.2.2.2.2.2.2.2.2.2 _ hstr
  have hU := (C.S.2.2.2.2.2.1).kept (H1 := s.heap) (fun a h1 _ => C.2.2.2.2.2.2.2.2.2 a h1)
  have hN := (C.S.2.2.2.2.2.2.1).kept (H1 := s.heap) (fun a h1 _ => C.2.2.2.2.2.2.2.2.2 a h1)
  refine vx_throwSW (names := zNm) (sa := sa) (A := zA X) C.x C.b C.2.2.2.2.2.2.1 C.ow h1 zNm_fit (C.ts _ h2) (C.ts _ h3) (by rw [hown]; exact hsa) (vx_hat (B := zBad cls) (fun w hw => C.ts w (h4 w hw)) h5 (fun w hw => by
    rcases List.mem_cons.mp hw with e9 | hw
    · rw [e9]; exact va_Nw.use rfl (C.S.2.1 _ h6)
    · obtain ⟨y, hy, rfl⟩ := List.mem_map.mp hw
      exact va_Nw.use rfl (C.S.2.2.2.2.1.2.1 y hy))) h7 hU hN hI.2.2.2.2.1 (by rw [C.ml]; exact hI.2.2.2.2.2.1) d0 d3 d4 d6 d9 (fun x hx => absurd hx (fun h => hT x h)) hRf.1 (by show 0 + 82 ≤ _; have := hRf.2; omega) hR.1 hR.2 C.2.2.2.2.2.2.2.1 (fun t _ hz ho => ?_) hI.2.2.2.2.1.2.2 hc hs
  exact ⟨⟨σ, loc, hp, hI.1.grow hz ho, hI.2.1⟩, Nat.le_trans hI.2.2.2.2.1.1 hz, fun q g1 g2 => (ho q (Nat.lt_of_lt_of_le g1 hI.2.2.2.2.1.1)).trans (hI.2.2.2.2.1.2.1 q g1 g2)⟩
theorem z_catch (C : zC X p l s m args meth c cc nL own) {hh : List (Nat × Nat × Nat × Nat)} {E : String} (hT : c.exceptionTable.toList.map (fun h => (h.startPc, h.endPc, h.handlerPc, h.catchType)) = hh) (pre suf : List (Nat × Nat × Nat × Nat)) {sp ep hp ct : Nat} (hj : hh = pre ++ (sp, ep, hp, ct) :: suf) (hcov : sp ≤ pc ∧ pc < ep) (hpass : ∀ z ∈ pre, z.2.2.2 ≠ 0 ∧ ∃ nm, Cond.classLink own z.2.2.2 nm ∈ zT ∧ (E, nm) ∈ zNcst) (h0 : ct ≠ 0) (hlink : Cond.classLink own ct E ∈ zT) (hcast : (E, E) ∈ zCast) (kk : ∀ q : Nat, zG X p l e R s m args below meth c nL σ0 loc0 Q cells slots σ hp L [.inl (.ref q)]) : zE X p l e R s m args below meth c nL σ0 loc0 Q cells slots E σ pc L := fun loc H locs ls rest q ce hI hq hv hE => by
  subst hj
  obtain ⟨l1, l2, e1, e2, e3⟩ := List.map_eq_append_iff.mp hT
  obtain ⟨x, l3, e4, e5, e6⟩ := List.map_eq_cons_iff.mp e3
  have ex := Prod.mk.inj e5
  have ex2 := Prod.mk.inj ex.2
  have ex3 := Prod.mk.inj ex2.2
  refine vx_catch (name := E) C.ow l1 x l3 (by rw [e1, e4]) (fun z hz => Or.inr ?_) (by unfold covers; rw [ex.1, ex2.1]; simp [hcov]) (by rw [ex3.2]; exact h0) (by rw [ex3.2]; exact C.ts _ hlink) (va_Nw.use rfl (C.S.2.1 _ hcast)) hq hv hE ?_
  · obtain ⟨g1, nm, g2, g3⟩ := hpass (z.startPc, z.endPc, z.handlerPc, z.catchType) (by rw [← e2]; exact List.mem_map.mpr ⟨z, hz, rfl⟩)
    exact ⟨g1, nm, C.ts _ g2, C.S.2.2.1 _ g3⟩
  · rw [ex3.1]
    exact kk q loc H locs ls (hI.sk (fun _ => zl_cp (fun v h => by cases h)))
theorem z_astoreQ (C : zC X p l s m args meth c cc nL own) {i q : Nat} (hd : decode cc pc = .ok (.astore i, 2)) (hn : i < nL) (kk : zG X p l e R s m args below meth c nL σ0 loc0 Q cells slots σ (pc + 2) (zst L i (.inl (.ref q))) st) : zG X p l e R s m args below meth c nL σ0 loc0 Q cells slots σ pc L (.inl (.ref q) :: st) := fun loc H locs ls hI => lv_astore C.x C.b hd hI.2.2.2.2.2 hn (zcL_st loc (fun q hq => (hI.2.2.1 q hq).2) i (.inl (.ref q))) (fun ls' h' => kk loc H locs ls' ((hI.sk zl_tl).sto (v := .inl (.ref q)) ⟨trivial, rfl⟩ h'))
theorem z_astore_nQ (C : zC X p l s m args meth c cc nL own) {k : Fin 4} {i q : Nat} (hd : decode cc pc = .ok (.astore_n k, 1)) (hi : (k : Nat) = i) (hn : i < nL) (kk : zG X p l e R s m args below meth c nL σ0 loc0 Q cells slots σ (pc + 1) (zst L i (.inl (.ref q))) st) : zG X p l e R s m args below meth c nL σ0 loc0 Q cells slots σ pc L (.inl (.ref q) :: st) := fun loc H locs ls hI => lv_astore_n C.x C.b hd hi hI.2.2.2.2.2 hn (zcL_st loc (fun q hq => (hI.2.2.1 q hq).2) i (.inl (.ref q))) (fun ls' h' => kk loc H locs ls' ((hI.sk zl_tl).sto (v := .inl (.ref q)) ⟨trivial, rfl⟩ h'))
theorem z_mmax (C : zC X p l s m args meth c cc nL own) {idx : Nat} {x y : Int32} (hd : decode cc pc = .ok (.invokestatic idx, 3)) (hw : Cond.methodLink own idx Lib.Math.max.name ∈ zT ∧ Cond.static Lib.Math.max.name ∈ zT ∧ Cond.initialized "java/lang/Math" ∈ zT ∧ Cond.code Lib.Math.max.name Lib.Math.max.code 2 (some .int) ∈ zT) (hR : 1 ≤ R.frames ∧ 21 ≤ R.locals ∧ cells ≤ R.cells ∧ slots ≤ R.slots) (hcat : ∀ loc : zK → Nat, ((st.map (zcv loc)).map fun v => v.category).sum ≤ 8) (kk : zG X p l e R s m args below meth c nL σ0 loc0 Q cells slots σ (pc + 3) L (aI (if x < y then y else x) :: st)) : zG X p l e R s m args below meth c nL σ0 loc0 Q cells slots σ pc L (aI y :: aI x :: st) := fun loc H locs ls hI =>
  va_mmax C.x C.b (by rw [C.ml]; exact hI.2.2.2.2.2.1.symm) C.ow (C.ts _ hw.1) (C.ts _ hw.2.1) (C.ts _ hw.2.2.1) (C.ts _ hw.2.2.2) hR.1 (by have := hcat loc; have := hR.2.1; omega) hR.2.2.1 hR.2.2.2 hd (kk loc H locs ls (hI.sk (fun h => zl_cp (zl_tl2 h))))
theorem z_mmin (C : zC X p l s m args meth c cc nL own) {idx : Nat} {x y : Int32} (hd : decode cc pc = .ok (.invokestatic idx, 3)) (hw : Cond.methodLink own idx Lib.Math.min.name ∈ zT ∧ Cond.static Lib.Math.min.name ∈ zT ∧ Cond.initialized "java/lang/Math" ∈ zT ∧ Cond.code Lib.Math.min.name Lib.Math.min.code 2 (some .int) ∈ zT) (hR : 1 ≤ R.frames ∧ 21 ≤ R.locals ∧ cells ≤ R.cells ∧ slots ≤ R.slots) (hcat : ∀ loc : zK → Nat, ((st.map (zcv loc)).map fun v => v.category).sum ≤ 8) (kk : zG X p l e R s m args below meth c nL σ0 loc0 Q cells slots σ (pc + 3) L (aI (if y < x then y else x) :: st)) : zG X p l e R s m args below meth c nL σ0 loc0 Q cells slots σ pc L (aI y :: aI x :: st) := fun loc H locs ls hI =>
  va_mmin C.x C.b (by rw [C.ml]; exact hI.2.2.2.2.2.1.symm) C.ow (C.ts _ hw.1) (C.ts _ hw.2.1) (C.ts _ hw.2.2.1) (C.ts _ hw.2.2.2) hR.1 (by have := hcat loc; have := hR.2.1; omega) hR.2.2.1 hR.2.2.2 hd (kk loc H locs ls (hI.sk (fun h => zl_cp (zl_tl2 h))))
theorem z_castR (C : zC X p l s m args meth c cc nL own) {k i ci idx : Nat} {fs : List zV} (hd : decode cc pc = .ok (.checkcast idx, 3)) (hσ : σ k i = some (oC ci fs)) (hci : ∃ Cn T N, vwCl[ci]? = some (Cn, T, N) ∧ Cond.classLink own idx Cn ∈ zT) (kk : zG X p l e R s m args below meth c nL σ0 loc0 Q cells slots σ (pc + 3) L (aR k i :: st)) : zG X p l e R s m args below meth c nL σ0 loc0 Q cells slots σ pc L (aR k i :: st) := fun loc H locs ls hI => by
  obtain ⟨Cn, T, N, hc, hlk⟩ := hci
  obtain ⟨r9, hr9, cell, g1, g2, g3, -⟩ := hI.cell hσ
  have hcls := (C.K.1 ci _ hc).2
  exact va_castS (cC := X.1.1 ci) C.x C.b C.ow (C.ts _ hlk) hcls ⟨cell, g1, by rw [g3]; rfl, by rw [g2]; exact hcls.1⟩ hd (kk loc H locs ls hI)
theorem z_castA (C : zC X p l s m args meth c cc nL own) {k i n : Nat} {f : Nat → Option zK} (kk : zG X p l e R s m args below meth c nL σ0 loc0 Q cells slots σ pc L (aR k i :: st)) (hσ : σ k i = some (rC n f)) : zG X p l e R s m args below meth c nL σ0 loc0 Q cells slots σ pc L (aR k i :: st) := kk
theorem z_objI (C : zC X p l s m args meth c cc nL own) {q : zK} {idx : Nat} (hlink : Cond.methodLink own idx objectInit ∈ zT) (him : Cond.instanceMethod objectInit ∈ zT) (hco : Cond.code objectInit ⟨#[0xb1]⟩ 1 none ∈ zT) (hR : 1 ≤ R.frames ∧ 30 ≤ R.locals) (hcat : ∀ loc : zK → Nat, ((st.map (zcv loc)).map fun v => v.category).sum ≤ 8) (hd : decode cc pc = .ok (.invokespecial idx, 3)) (kk : zG X p l e R s m args below meth c nL σ0 loc0 Q cells slots σ (pc + 3) L st) : zG X p l e R s m args below meth c nL σ0 loc0 Q cells slots σ pc L (.inr q :: st) := fun loc H locs ls hI =>
  W.objInit C.x C.b C.ow (C.ts _ hlink) (C.ts _ him) (C.ts _ hco) rfl (by rw [C.ml]; exact hI.2.2.2.2.2.1) rfl hd hR.1 (by have := hcat loc; have := hR.2; show 2 * 0 + _ + 12 ≤ _; omega) (kk loc H locs ls (hI.sk zl_tl))
theorem z_aload_nQ (C : zC X p l s m args meth c cc nL own) {k : Fin 4} {i q : Nat} (hd : decode cc pc = .ok (.aload_n k, 1)) (hi : (k : Nat) = i) (hl : zl L i = some (.inl (.ref q))) (kk : zG X p l e R s m args below meth c nL σ0 loc0 Q cells slots σ (pc + 1) L (.inl (.ref q) :: st)) : zG X p l e R s m args below meth c nL σ0 loc0 Q cells slots σ pc L st := fun loc H locs ls hI => lv_aload_n C.x C.b hd hi (hI.gt hl) (kk loc H locs ls (hI.sk (fun h => zl_cp h)))
theorem z_ldcM (C : zC X p l s m args meth c cc nL own) {idx : Nat} (hd : decode cc pc = .ok (.ldc idx, 2)) (hw : Cond.classLink own idx "[Ljava/lang/Object;" ∈ zT) (kk : zG X p l e R s m args below meth c nL σ0 loc0 Q cells slots σ (pc + 2) L (.inl (.ref X.2.2.2.2.2) :: st)) : zG X p l e R s m args below meth c nL σ0 loc0 Q cells slots σ pc L st := fun loc H locs ls hI => va_ldcM C.x C.b C.ow (C.ts _ hw) C.S.2.2.2.2.1.2.2.1 hd (kk loc H locs ls (hI.sk (fun h => zl_cp h)))
theorem z_getC (C : zC X p l s m args meth c cc nL own) {idx k i n : Nat} {f : Nat → Option zK} (hd : decode cc pc = .ok (.invokevirtual idx, 3)) (hw : Cond.methodLink own idx ⟨"java/lang/Object", "getClass", "()Ljava/lang/Class;"⟩ ∈ zT ∧ Cond.selects "[Ljava/lang/Object;" ⟨"java/lang/Object", "getClass", "()Ljava/lang/Class;"⟩ ⟨"java/lang/Object", "getClass", "()Ljava/lang/Class;"⟩ ∈ zT ∧ Cond.instanceMethod ⟨"java/lang/Object", "getClass", "()Ljava/lang/Class;"⟩ ∈ zT ∧ Cond.native ⟨"java/lang/Object", "getClass", "()Ljava/lang/Class;"⟩ ∈ zT) (hσ : σ k i = some (rC n f)) (hR : 1 ≤ R.frames ∧ 22 ≤ R.locals) (hcat : ∀ loc : zK → Nat, ((st.map (zcv loc)).map fun v => v.category).sum ≤ 8) (kk : zG X p l e R s m args below meth c nL σ0 loc0 Q cells slots σ (pc + 3) L (.inl (.ref X.2.2.2.2.2) :: st)) : zG X p l e R s m args below meth c nL σ0 loc0 Q cells slots σ pc L (aR k i :: st) := fun loc H locs ls hI => by
  have hc : H[loc (k, i)]? = some (vp_cell _ _) := hI.cell hσ
  exact va_getC C.x C.b (by rw [C.ml]; exact hI.2.2.2.2.2.1.symm) C.ow (C.ts _ hw.1) (va_Dc.use C.S.2.2.2.2.1.2.2.2) (C.ts _ hw.2.1) (C.ts _ hw.2.2.1) (C.ts _ hw.2.2.2) C.S.2.2.2.2.1.2.2.1 ⟨_, hc, rfl, va_nmO (C.K.2 2 _ rfl).2 rfl⟩ hR.1 (by have := hcat loc; have := hR.2; omega) hd (kk loc H locs ls (hI.sk (fun h => zl_cp (zl_tl h))))
theorem z_acmp_neM (C : zC X p l s m args meth c cc nL own) {a : Nat} {off : Int} (hd : decode cc pc = .ok (.if_acmp .ne off, 3)) {tgt : Nat} (ht : (pc : Int) + off = (tgt : Int)) (kk : zG X p l e R s m args below meth c nL σ0 loc0 Q cells slots σ (pc + 3) L st) : zG X p l e R s m args below meth c nL σ0 loc0 Q cells slots σ pc L (.inl (.ref a) :: .inl (.ref a) :: st) := fun loc H locs ls hI => lv_acmp_ne (rx := some a) (ry := some a) C.x C.b hd ht (fun h => absurd rfl h) (fun _ => kk loc H locs ls (hI.sk zl_tl2))
end ZT
end
section
theorem zpr {fs : List zV} (h : fs.all (fun v => v.isLeft) = true) : ∀ v ∈ fs, ∃ u : Value, v = .inl u := fun v hv => by
  have h1 := List.all_eq_true.mp h v hv
  cases v with
  | inl u => exact ⟨u, rfl⟩
  | inr q => cases h1
/-! facts of the classes: fields by their links, new objects, methods, throws -/
theorem f_RX6_10 : zFl RX6 10 9 0 := ⟨_, "SalesDesk", TX6, 7, rfl, by decide, fl_RX6_10, wn_X6, Or.inl rfl⟩
theorem fp_RX6_10 : zFp RX6 10 9 0 (.object "java/util/ArrayList") true := ⟨_, "SalesDesk", TX6, 7, tyX6, rfl, by decide, fl_RX6_10, wn_X6, Or.inl rfl, tyX6_ok, nmX6, rfl, tyX6_ok 0 (by decide), (fun _ => rfl)⟩
theorem f_RX6_16 : zFl RX6 16 9 1 := ⟨_, "SalesDesk", TX6, 7, rfl, by decide, fl_RX6_16, wn_X6, Or.inl rfl⟩
theorem fp_RX6_16 : zFp RX6 16 9 1 (.object "java/util/ArrayList") true := ⟨_, "SalesDesk", TX6, 7, tyX6, rfl, by decide, fl_RX6_16, wn_X6, Or.inl rfl, tyX6_ok, nmX6, rfl, tyX6_ok 1 (by decide), (fun _ => rfl)⟩
theorem f_RX6_19 : zFl RX6 19 9 2 := ⟨_, "SalesDesk", TX6, 7, rfl, by decide, fl_RX6_19, wn_X6, Or.inl rfl⟩
theorem fp_RX6_19 : zFp RX6 19 9 2 (.object "java/util/ArrayList") true := ⟨_, "SalesDesk", TX6, 7, tyX6, rfl, by decide, fl_RX6_19, wn_X6, Or.inl rfl, tyX6_ok, nmX6, rfl, tyX6_ok 2 (by decide), (fun _ => rfl)⟩
theorem f_RX6_22 : zFl RX6 22 9 3 := ⟨_, "SalesDesk", TX6, 7, rfl, by decide, fl_RX6_22, wn_X6, Or.inl rfl⟩
theorem fp_RX6_22 : zFp RX6 22 9 3 (.object "java/util/ArrayList") true := ⟨_, "SalesDesk", TX6, 7, tyX6, rfl, by decide, fl_RX6_22, wn_X6, Or.inl rfl, tyX6_ok, nmX6, rfl, tyX6_ok 3 (by decide), (fun _ => rfl)⟩
theorem f_RX6_25 : zFl RX6 25 9 4 := ⟨_, "SalesDesk", TX6, 7, rfl, by decide, fl_RX6_25, wn_X6, Or.inl rfl⟩
theorem fp_RX6_25 : zFp RX6 25 9 4 (.object "java/util/ArrayList") true := ⟨_, "SalesDesk", TX6, 7, tyX6, rfl, by decide, fl_RX6_25, wn_X6, Or.inl rfl, tyX6_ok, nmX6, rfl, tyX6_ok 4 (by decide), (fun _ => rfl)⟩
theorem f_RX6_28 : zFl RX6 28 9 5 := ⟨_, "SalesDesk", TX6, 7, rfl, by decide, fl_RX6_28, wn_X6, Or.inl rfl⟩
theorem fp_RX6_28 : zFp RX6 28 9 5 (.object "java/util/ArrayList") true := ⟨_, "SalesDesk", TX6, 7, tyX6, rfl, by decide, fl_RX6_28, wn_X6, Or.inl rfl, tyX6_ok, nmX6, rfl, tyX6_ok 5 (by decide), (fun _ => rfl)⟩
theorem f_RX6_31 : zFl RX6 31 9 6 := ⟨_, "SalesDesk", TX6, 7, rfl, by decide, fl_RX6_31, wn_X6, Or.inl rfl⟩
theorem fp_RX6_31 : zFp RX6 31 9 6 (.int) false := ⟨_, "SalesDesk", TX6, 7, tyX6, rfl, by decide, fl_RX6_31, wn_X6, Or.inl rfl, tyX6_ok, nmX6, rfl, tyX6_ok 6 (by decide), (fun h => by cases h)⟩
theorem f_RJx4a65c_9 : zFl RJx4a65c 9 2 1 := ⟨_, "java/util/ArrayList", TJx4a65c, 3, rfl, by decide, fl_RJx4a65c_9, wn_Jx4a65c, Or.inl rfl⟩
theorem fp_RJx4a65c_9 : zFp RJx4a65c 9 2 1 (.array (.object "java/lang/Object")) false := ⟨_, "java/util/ArrayList", TJx4a65c, 3, tyJx4a65c, rfl, by decide, fl_RJx4a65c_9, wn_Jx4a65c, Or.inl rfl, tyJx4a65c_ok, nmJx4a65c, rfl, tyJx4a65c_ok 1 (by decide), (fun h => by cases h)⟩
theorem f_RJxc12de_7 : zFl RJxc12de 7 2 0 := ⟨_, "java/util/AbstractList", TJx4a65c, 3, rfl, by decide, fl_RJxc12de_7, wn_Jx4a65c, Or.inl rfl⟩
theorem fp_RJxc12de_7 : zFp RJxc12de 7 2 0 (.int) false := ⟨_, "java/util/AbstractList", TJx4a65c, 3, tyJx4a65c, rfl, by decide, fl_RJxc12de_7, wn_Jx4a65c, Or.inl rfl, tyJx4a65c_ok, nmJx4a65c, rfl, tyJx4a65c_ok 0 (by decide), (fun h => by cases h)⟩
theorem f_RX7_7 : zFl RX7 7 10 2 := ⟨_, "SalesDeskModel", TX7, 32, rfl, by decide, fl_RX7_7, wn_X7, Or.inl rfl⟩
theorem fp_RX7_7 : zFp RX7 7 10 2 (.array .int) true := ⟨_, "SalesDeskModel", TX7, 32, tyX7, rfl, by decide, fl_RX7_7, wn_X7, Or.inl rfl, tyX7_ok, nmX7, rfl, tyX7_ok 2 (by decide), (fun _ => rfl)⟩
theorem f_RX7_13 : zFl RX7 13 10 3 := ⟨_, "SalesDeskModel", TX7, 32, rfl, by decide, fl_RX7_13, wn_X7, Or.inl rfl⟩
theorem fp_RX7_13 : zFp RX7 13 10 3 (.array .int) true := ⟨_, "SalesDeskModel", TX7, 32, tyX7, rfl, by decide, fl_RX7_13, wn_X7, Or.inl rfl, tyX7_ok, nmX7, rfl, tyX7_ok 3 (by decide), (fun _ => rfl)⟩
theorem f_RX7_16 : zFl RX7 16 10 4 := ⟨_, "SalesDeskModel", TX7, 32, rfl, by decide, fl_RX7_16, wn_X7, Or.inl rfl⟩
theorem fp_RX7_16 : zFp RX7 16 10 4 (.array .int) true := ⟨_, "SalesDeskModel", TX7, 32, tyX7, rfl, by decide, fl_RX7_16, wn_X7, Or.inl rfl, tyX7_ok, nmX7, rfl, tyX7_ok 4 (by decide), (fun _ => rfl)⟩
theorem f_RX7_19 : zFl RX7 19 10 5 := ⟨_, "SalesDeskModel", TX7, 32, rfl, by decide, fl_RX7_19, wn_X7, Or.inl rfl⟩
theorem fp_RX7_19 : zFp RX7 19 10 5 (.array .int) true := ⟨_, "SalesDeskModel", TX7, 32, tyX7, rfl, by decide, fl_RX7_19, wn_X7, Or.inl rfl, tyX7_ok, nmX7, rfl, tyX7_ok 5 (by decide), (fun _ => rfl)⟩
theorem f_RX7_22 : zFl RX7 22 10 7 := ⟨_, "SalesDeskModel", TX7, 32, rfl, by decide, fl_RX7_22, wn_X7, Or.inl rfl⟩
theorem fp_RX7_22 : zFp RX7 22 10 7 (.array .int) true := ⟨_, "SalesDeskModel", TX7, 32, tyX7, rfl, by decide, fl_RX7_22, wn_X7, Or.inl rfl, tyX7_ok, nmX7, rfl, tyX7_ok 7 (by decide), (fun _ => rfl)⟩
theorem f_RX7_25 : zFl RX7 25 10 8 := ⟨_, "SalesDeskModel", TX7, 32, rfl, by decide, fl_RX7_25, wn_X7, Or.inl rfl⟩
theorem fp_RX7_25 : zFp RX7 25 10 8 (.array .int) true := ⟨_, "SalesDeskModel", TX7, 32, tyX7, rfl, by decide, fl_RX7_25, wn_X7, Or.inl rfl, tyX7_ok, nmX7, rfl, tyX7_ok 8 (by decide), (fun _ => rfl)⟩
theorem f_RX7_28 : zFl RX7 28 10 9 := ⟨_, "SalesDeskModel", TX7, 32, rfl, by decide, fl_RX7_28, wn_X7, Or.inl rfl⟩
theorem fp_RX7_28 : zFp RX7 28 10 9 (.array .int) true := ⟨_, "SalesDeskModel", TX7, 32, tyX7, rfl, by decide, fl_RX7_28, wn_X7, Or.inl rfl, tyX7_ok, nmX7, rfl, tyX7_ok 9 (by decide), (fun _ => rfl)⟩
theorem f_RX7_31 : zFl RX7 31 10 10 := ⟨_, "SalesDeskModel", TX7, 32, rfl, by decide, fl_RX7_31, wn_X7, Or.inl rfl⟩
theorem fp_RX7_31 : zFp RX7 31 10 10 (.array .int) true := ⟨_, "SalesDeskModel", TX7, 32, tyX7, rfl, by decide, fl_RX7_31, wn_X7, Or.inl rfl, tyX7_ok, nmX7, rfl, tyX7_ok 10 (by decide), (fun _ => rfl)⟩
theorem f_RX7_34 : zFl RX7 34 10 12 := ⟨_, "SalesDeskModel", TX7, 32, rfl, by decide, fl_RX7_34, wn_X7, Or.inl rfl⟩
theorem fp_RX7_34 : zFp RX7 34 10 12 (.array .int) true := ⟨_, "SalesDeskModel", TX7, 32, tyX7, rfl, by decide, fl_RX7_34, wn_X7, Or.inl rfl, tyX7_ok, nmX7, rfl, tyX7_ok 12 (by decide), (fun _ => rfl)⟩
theorem f_RX7_37 : zFl RX7 37 10 13 := ⟨_, "SalesDeskModel", TX7, 32, rfl, by decide, fl_RX7_37, wn_X7, Or.inl rfl⟩
theorem fp_RX7_37 : zFp RX7 37 10 13 (.array .int) true := ⟨_, "SalesDeskModel", TX7, 32, tyX7, rfl, by decide, fl_RX7_37, wn_X7, Or.inl rfl, tyX7_ok, nmX7, rfl, tyX7_ok 13 (by decide), (fun _ => rfl)⟩
theorem f_RX7_40 : zFl RX7 40 10 14 := ⟨_, "SalesDeskModel", TX7, 32, rfl, by decide, fl_RX7_40, wn_X7, Or.inl rfl⟩
theorem fp_RX7_40 : zFp RX7 40 10 14 (.array .int) true := ⟨_, "SalesDeskModel", TX7, 32, tyX7, rfl, by decide, fl_RX7_40, wn_X7, Or.inl rfl, tyX7_ok, nmX7, rfl, tyX7_ok 14 (by decide), (fun _ => rfl)⟩
theorem f_RX7_43 : zFl RX7 43 10 16 := ⟨_, "SalesDeskModel", TX7, 32, rfl, by decide, fl_RX7_43, wn_X7, Or.inl rfl⟩
theorem fp_RX7_43 : zFp RX7 43 10 16 (.array .int) true := ⟨_, "SalesDeskModel", TX7, 32, tyX7, rfl, by decide, fl_RX7_43, wn_X7, Or.inl rfl, tyX7_ok, nmX7, rfl, tyX7_ok 16 (by decide), (fun _ => rfl)⟩
theorem f_RX7_46 : zFl RX7 46 10 17 := ⟨_, "SalesDeskModel", TX7, 32, rfl, by decide, fl_RX7_46, wn_X7, Or.inl rfl⟩
theorem fp_RX7_46 : zFp RX7 46 10 17 (.array .int) true := ⟨_, "SalesDeskModel", TX7, 32, tyX7, rfl, by decide, fl_RX7_46, wn_X7, Or.inl rfl, tyX7_ok, nmX7, rfl, tyX7_ok 17 (by decide), (fun _ => rfl)⟩
theorem f_RX7_49 : zFl RX7 49 10 18 := ⟨_, "SalesDeskModel", TX7, 32, rfl, by decide, fl_RX7_49, wn_X7, Or.inl rfl⟩
theorem fp_RX7_49 : zFp RX7 49 10 18 (.array .int) true := ⟨_, "SalesDeskModel", TX7, 32, tyX7, rfl, by decide, fl_RX7_49, wn_X7, Or.inl rfl, tyX7_ok, nmX7, rfl, tyX7_ok 18 (by decide), (fun _ => rfl)⟩
theorem f_RX7_52 : zFl RX7 52 10 19 := ⟨_, "SalesDeskModel", TX7, 32, rfl, by decide, fl_RX7_52, wn_X7, Or.inl rfl⟩
theorem fp_RX7_52 : zFp RX7 52 10 19 (.array .int) true := ⟨_, "SalesDeskModel", TX7, 32, tyX7, rfl, by decide, fl_RX7_52, wn_X7, Or.inl rfl, tyX7_ok, nmX7, rfl, tyX7_ok 19 (by decide), (fun _ => rfl)⟩
theorem f_RX7_55 : zFl RX7 55 10 20 := ⟨_, "SalesDeskModel", TX7, 32, rfl, by decide, fl_RX7_55, wn_X7, Or.inl rfl⟩
theorem fp_RX7_55 : zFp RX7 55 10 20 (.array .int) true := ⟨_, "SalesDeskModel", TX7, 32, tyX7, rfl, by decide, fl_RX7_55, wn_X7, Or.inl rfl, tyX7_ok, nmX7, rfl, tyX7_ok 20 (by decide), (fun _ => rfl)⟩
theorem f_RX7_58 : zFl RX7 58 10 21 := ⟨_, "SalesDeskModel", TX7, 32, rfl, by decide, fl_RX7_58, wn_X7, Or.inl rfl⟩
theorem fp_RX7_58 : zFp RX7 58 10 21 (.array .int) true := ⟨_, "SalesDeskModel", TX7, 32, tyX7, rfl, by decide, fl_RX7_58, wn_X7, Or.inl rfl, tyX7_ok, nmX7, rfl, tyX7_ok 21 (by decide), (fun _ => rfl)⟩
theorem f_RX7_61 : zFl RX7 61 10 22 := ⟨_, "SalesDeskModel", TX7, 32, rfl, by decide, fl_RX7_61, wn_X7, Or.inl rfl⟩
theorem fp_RX7_61 : zFp RX7 61 10 22 (.array .int) true := ⟨_, "SalesDeskModel", TX7, 32, tyX7, rfl, by decide, fl_RX7_61, wn_X7, Or.inl rfl, tyX7_ok, nmX7, rfl, tyX7_ok 22 (by decide), (fun _ => rfl)⟩
theorem f_RX7_64 : zFl RX7 64 10 25 := ⟨_, "SalesDeskModel", TX7, 32, rfl, by decide, fl_RX7_64, wn_X7, Or.inl rfl⟩
theorem fp_RX7_64 : zFp RX7 64 10 25 (.array .int) true := ⟨_, "SalesDeskModel", TX7, 32, tyX7, rfl, by decide, fl_RX7_64, wn_X7, Or.inl rfl, tyX7_ok, nmX7, rfl, tyX7_ok 25 (by decide), (fun _ => rfl)⟩
theorem f_RX7_67 : zFl RX7 67 10 26 := ⟨_, "SalesDeskModel", TX7, 32, rfl, by decide, fl_RX7_67, wn_X7, Or.inl rfl⟩
theorem fp_RX7_67 : zFp RX7 67 10 26 (.array .int) true := ⟨_, "SalesDeskModel", TX7, 32, tyX7, rfl, by decide, fl_RX7_67, wn_X7, Or.inl rfl, tyX7_ok, nmX7, rfl, tyX7_ok 26 (by decide), (fun _ => rfl)⟩
theorem f_RX7_70 : zFl RX7 70 10 27 := ⟨_, "SalesDeskModel", TX7, 32, rfl, by decide, fl_RX7_70, wn_X7, Or.inl rfl⟩
theorem fp_RX7_70 : zFp RX7 70 10 27 (.array .int) true := ⟨_, "SalesDeskModel", TX7, 32, tyX7, rfl, by decide, fl_RX7_70, wn_X7, Or.inl rfl, tyX7_ok, nmX7, rfl, tyX7_ok 27 (by decide), (fun _ => rfl)⟩
theorem f_RX7_73 : zFl RX7 73 10 28 := ⟨_, "SalesDeskModel", TX7, 32, rfl, by decide, fl_RX7_73, wn_X7, Or.inl rfl⟩
theorem fp_RX7_73 : zFp RX7 73 10 28 (.array .int) true := ⟨_, "SalesDeskModel", TX7, 32, tyX7, rfl, by decide, fl_RX7_73, wn_X7, Or.inl rfl, tyX7_ok, nmX7, rfl, tyX7_ok 28 (by decide), (fun _ => rfl)⟩
theorem f_RX7_76 : zFl RX7 76 10 30 := ⟨_, "SalesDeskModel", TX7, 32, rfl, by decide, fl_RX7_76, wn_X7, Or.inl rfl⟩
theorem fp_RX7_76 : zFp RX7 76 10 30 (.array .int) true := ⟨_, "SalesDeskModel", TX7, 32, tyX7, rfl, by decide, fl_RX7_76, wn_X7, Or.inl rfl, tyX7_ok, nmX7, rfl, tyX7_ok 30 (by decide), (fun _ => rfl)⟩
theorem f_RX7_96 : zFl RX7 96 10 0 := ⟨_, "SalesDeskModel", TX7, 32, rfl, by decide, fl_RX7_96, wn_X7, Or.inl rfl⟩
theorem fp_RX7_96 : zFp RX7 96 10 0 (.int) false := ⟨_, "SalesDeskModel", TX7, 32, tyX7, rfl, by decide, fl_RX7_96, wn_X7, Or.inl rfl, tyX7_ok, nmX7, rfl, tyX7_ok 0 (by decide), (fun h => by cases h)⟩
theorem f_RX7_79 : zFl RX7 79 10 31 := ⟨_, "SalesDeskModel", TX7, 32, rfl, by decide, fl_RX7_79, wn_X7, Or.inl rfl⟩
theorem fp_RX7_79 : zFp RX7 79 10 31 (.int) false := ⟨_, "SalesDeskModel", TX7, 32, tyX7, rfl, by decide, fl_RX7_79, wn_X7, Or.inl rfl, tyX7_ok, nmX7, rfl, tyX7_ok 31 (by decide), (fun h => by cases h)⟩
theorem f_RJx4a65c_48 : zFl RJx4a65c 48 2 2 := ⟨_, "java/util/ArrayList", TJx4a65c, 3, rfl, by decide, fl_RJx4a65c_48, wn_Jx4a65c, Or.inl rfl⟩
theorem fp_RJx4a65c_48 : zFp RJx4a65c 48 2 2 (.int) false := ⟨_, "java/util/ArrayList", TJx4a65c, 3, tyJx4a65c, rfl, by decide, fl_RJx4a65c_48, wn_Jx4a65c, Or.inl rfl, tyJx4a65c_ok, nmJx4a65c, rfl, tyJx4a65c_ok 2 (by decide), (fun h => by cases h)⟩
theorem f_RX0_9 : zFl RX0 9 3 3 := ⟨_, "SalesDesk$Account", TX0, 4, rfl, by decide, fl_RX0_9, wn_X0, Or.inl rfl⟩
theorem fp_RX0_9 : zFp RX0 9 3 3 (.int) false := ⟨_, "SalesDesk$Account", TX0, 4, tyX0, rfl, by decide, fl_RX0_9, wn_X0, Or.inl rfl, tyX0_ok, nmX0, rfl, tyX0_ok 3 (by decide), (fun h => by cases h)⟩
theorem f_RX0_15 : zFl RX0 15 3 0 := ⟨_, "SalesDesk$Account", TX0, 4, rfl, by decide, fl_RX0_15, wn_X0, Or.inl rfl⟩
theorem fp_RX0_15 : zFp RX0 15 3 0 (.object "SalesDesk$Account") true := ⟨_, "SalesDesk$Account", TX0, 4, tyX0, rfl, by decide, fl_RX0_15, wn_X0, Or.inl rfl, tyX0_ok, nmX0, rfl, tyX0_ok 0 (by decide), (fun _ => rfl)⟩
theorem f_RX0_19 : zFl RX0 19 3 1 := ⟨_, "SalesDesk$Account", TX0, 4, rfl, by decide, fl_RX0_19, wn_X0, Or.inl rfl⟩
theorem fp_RX0_19 : zFp RX0 19 3 1 (.int) true := ⟨_, "SalesDesk$Account", TX0, 4, tyX0, rfl, by decide, fl_RX0_19, wn_X0, Or.inl rfl, tyX0_ok, nmX0, rfl, tyX0_ok 1 (by decide), (fun _ => rfl)⟩
theorem f_RX0_22 : zFl RX0 22 3 2 := ⟨_, "SalesDesk$Account", TX0, 4, rfl, by decide, fl_RX0_22, wn_X0, Or.inl rfl⟩
theorem fp_RX0_22 : zFp RX0 22 3 2 (.int) true := ⟨_, "SalesDesk$Account", TX0, 4, tyX0, rfl, by decide, fl_RX0_22, wn_X0, Or.inl rfl, tyX0_ok, nmX0, rfl, tyX0_ok 2 (by decide), (fun _ => rfl)⟩
theorem f_RJx4a65c_63 : zFl RJx4a65c 63 2 0 := ⟨_, "java/util/ArrayList", TJx4a65c, 3, rfl, by decide, fl_RJx4a65c_63, wn_Jx4a65c, Or.inr sf_modCount⟩
theorem fp_RJx4a65c_63 : zFp RJx4a65c 63 2 0 (.int) false := ⟨_, "java/util/ArrayList", TJx4a65c, 3, tyJx4a65c, rfl, by decide, fl_RJx4a65c_63, wn_Jx4a65c, Or.inr sf_modCount, tyJx4a65c_ok, nmJx4a65c, rfl, tyJx4a65c_ok 0 (by decide), (fun h => by cases h)⟩
theorem f_RX7_83 : zFl RX7 83 10 1 := ⟨_, "SalesDeskModel", TX7, 32, rfl, by decide, fl_RX7_83, wn_X7, Or.inl rfl⟩
theorem fp_RX7_83 : zFp RX7 83 10 1 (.int) false := ⟨_, "SalesDeskModel", TX7, 32, tyX7, rfl, by decide, fl_RX7_83, wn_X7, Or.inl rfl, tyX7_ok, nmX7, rfl, tyX7_ok 1 (by decide), (fun h => by cases h)⟩
theorem f_RX4_7 : zFl RX4 7 7 0 := ⟨_, "SalesDesk$Rule", TX4, 4, rfl, by decide, fl_RX4_7, wn_X4, Or.inl rfl⟩
theorem fp_RX4_7 : zFp RX4 7 7 0 (.int) true := ⟨_, "SalesDesk$Rule", TX4, 4, tyX4, rfl, by decide, fl_RX4_7, wn_X4, Or.inl rfl, tyX4_ok, nmX4, rfl, tyX4_ok 0 (by decide), (fun _ => rfl)⟩
theorem f_RX4_13 : zFl RX4 13 7 1 := ⟨_, "SalesDesk$Rule", TX4, 4, rfl, by decide, fl_RX4_13, wn_X4, Or.inl rfl⟩
theorem fp_RX4_13 : zFp RX4 13 7 1 (.int) true := ⟨_, "SalesDesk$Rule", TX4, 4, tyX4, rfl, by decide, fl_RX4_13, wn_X4, Or.inl rfl, tyX4_ok, nmX4, rfl, tyX4_ok 1 (by decide), (fun _ => rfl)⟩
theorem f_RX4_16 : zFl RX4 16 7 2 := ⟨_, "SalesDesk$Rule", TX4, 4, rfl, by decide, fl_RX4_16, wn_X4, Or.inl rfl⟩
theorem fp_RX4_16 : zFp RX4 16 7 2 (.int) true := ⟨_, "SalesDesk$Rule", TX4, 4, tyX4, rfl, by decide, fl_RX4_16, wn_X4, Or.inl rfl, tyX4_ok, nmX4, rfl, tyX4_ok 2 (by decide), (fun _ => rfl)⟩
theorem f_RX4_19 : zFl RX4 19 7 3 := ⟨_, "SalesDesk$Rule", TX4, 4, rfl, by decide, fl_RX4_19, wn_X4, Or.inl rfl⟩
theorem fp_RX4_19 : zFp RX4 19 7 3 (.int) true := ⟨_, "SalesDesk$Rule", TX4, 4, tyX4, rfl, by decide, fl_RX4_19, wn_X4, Or.inl rfl, tyX4_ok, nmX4, rfl, tyX4_ok 3 (by decide), (fun _ => rfl)⟩
theorem f_RX7_108 : zFl RX7 108 10 6 := ⟨_, "SalesDeskModel", TX7, 32, rfl, by decide, fl_RX7_108, wn_X7, Or.inl rfl⟩
theorem fp_RX7_108 : zFp RX7 108 10 6 (.int) false := ⟨_, "SalesDeskModel", TX7, 32, tyX7, rfl, by decide, fl_RX7_108, wn_X7, Or.inl rfl, tyX7_ok, nmX7, rfl, tyX7_ok 6 (by decide), (fun h => by cases h)⟩
theorem f_RX6_87 : zFl RX6 87 3 3 := ⟨_, "SalesDesk$Account", TX0, 4, rfl, by decide, fl_RX6_87, wn_X0, Or.inl rfl⟩
theorem fp_RX6_87 : zFp RX6 87 3 3 (.int) false := ⟨_, "SalesDesk$Account", TX0, 4, tyX0, rfl, by decide, fl_RX6_87, wn_X0, Or.inl rfl, tyX0_ok, nmX0, rfl, tyX0_ok 3 (by decide), (fun h => by cases h)⟩
theorem f_RX6_257 : zFl RX6 257 3 0 := ⟨_, "SalesDesk$Account", TX0, 4, rfl, by decide, fl_RX6_257, wn_X0, Or.inl rfl⟩
theorem f_RX6_260 : zFl RX6 260 7 0 := ⟨_, "SalesDesk$Rule", TX4, 4, rfl, by decide, fl_RX6_260, wn_X4, Or.inl rfl⟩
theorem f_RX6_263 : zFl RX6 263 3 1 := ⟨_, "SalesDesk$Account", TX0, 4, rfl, by decide, fl_RX6_263, wn_X0, Or.inl rfl⟩
theorem f_RX6_266 : zFl RX6 266 7 1 := ⟨_, "SalesDesk$Rule", TX4, 4, rfl, by decide, fl_RX6_266, wn_X4, Or.inl rfl⟩
theorem f_RX6_269 : zFl RX6 269 7 2 := ⟨_, "SalesDesk$Rule", TX4, 4, rfl, by decide, fl_RX6_269, wn_X4, Or.inl rfl⟩
theorem f_RX6_271 : zFl RX6 271 3 2 := ⟨_, "SalesDesk$Account", TX0, 4, rfl, by decide, fl_RX6_271, wn_X0, Or.inl rfl⟩
theorem f_RX6_272 : zFl RX6 272 7 3 := ⟨_, "SalesDesk$Rule", TX4, 4, rfl, by decide, fl_RX6_272, wn_X4, Or.inl rfl⟩
theorem f_RX5_7 : zFl RX5 7 8 3 := ⟨_, "SalesDesk$Seller", TX5, 4, rfl, by decide, fl_RX5_7, wn_X5, Or.inl rfl⟩
theorem fp_RX5_7 : zFp RX5 7 8 3 (.int) false := ⟨_, "SalesDesk$Seller", TX5, 4, tyX5, rfl, by decide, fl_RX5_7, wn_X5, Or.inl rfl, tyX5_ok, nmX5, rfl, tyX5_ok 3 (by decide), (fun h => by cases h)⟩
theorem f_RX5_13 : zFl RX5 13 8 0 := ⟨_, "SalesDesk$Seller", TX5, 4, rfl, by decide, fl_RX5_13, wn_X5, Or.inl rfl⟩
theorem fp_RX5_13 : zFp RX5 13 8 0 (.int) true := ⟨_, "SalesDesk$Seller", TX5, 4, tyX5, rfl, by decide, fl_RX5_13, wn_X5, Or.inl rfl, tyX5_ok, nmX5, rfl, tyX5_ok 0 (by decide), (fun _ => rfl)⟩
theorem f_RX5_16 : zFl RX5 16 8 1 := ⟨_, "SalesDesk$Seller", TX5, 4, rfl, by decide, fl_RX5_16, wn_X5, Or.inl rfl⟩
theorem fp_RX5_16 : zFp RX5 16 8 1 (.object "SalesDesk$Seller") true := ⟨_, "SalesDesk$Seller", TX5, 4, tyX5, rfl, by decide, fl_RX5_16, wn_X5, Or.inl rfl, tyX5_ok, nmX5, rfl, tyX5_ok 1 (by decide), (fun _ => rfl)⟩
theorem f_RX5_20 : zFl RX5 20 8 2 := ⟨_, "SalesDesk$Seller", TX5, 4, rfl, by decide, fl_RX5_20, wn_X5, Or.inl rfl⟩
theorem fp_RX5_20 : zFp RX5 20 8 2 (.int) true := ⟨_, "SalesDesk$Seller", TX5, 4, tyX5, rfl, by decide, fl_RX5_20, wn_X5, Or.inl rfl, tyX5_ok, nmX5, rfl, tyX5_ok 2 (by decide), (fun _ => rfl)⟩
theorem f_RX7_90 : zFl RX7 90 10 11 := ⟨_, "SalesDeskModel", TX7, 32, rfl, by decide, fl_RX7_90, wn_X7, Or.inl rfl⟩
theorem fp_RX7_90 : zFp RX7 90 10 11 (.int) false := ⟨_, "SalesDeskModel", TX7, 32, tyX7, rfl, by decide, fl_RX7_90, wn_X7, Or.inl rfl, tyX7_ok, nmX7, rfl, tyX7_ok 11 (by decide), (fun h => by cases h)⟩
theorem f_RX6_105 : zFl RX6 105 8 3 := ⟨_, "SalesDesk$Seller", TX5, 4, rfl, by decide, fl_RX6_105, wn_X5, Or.inl rfl⟩
theorem fp_RX6_105 : zFp RX6 105 8 3 (.int) false := ⟨_, "SalesDesk$Seller", TX5, 4, tyX5, rfl, by decide, fl_RX6_105, wn_X5, Or.inl rfl, tyX5_ok, nmX5, rfl, tyX5_ok 3 (by decide), (fun h => by cases h)⟩
theorem f_RX6_111 : zFl RX6 111 4 2 := ⟨_, "SalesDesk$Chance", TX1, 8, rfl, by decide, fl_RX6_111, wn_X1, Or.inl rfl⟩
theorem f_RX6_115 : zFl RX6 115 8 0 := ⟨_, "SalesDesk$Seller", TX5, 4, rfl, by decide, fl_RX6_115, wn_X5, Or.inl rfl⟩
theorem f_RX1_9 : zFl RX1 9 4 2 := ⟨_, "SalesDesk$Chance", TX1, 8, rfl, by decide, fl_RX1_9, wn_X1, Or.inl rfl⟩
theorem fp_RX1_9 : zFp RX1 9 4 2 (.array .int) true := ⟨_, "SalesDesk$Chance", TX1, 8, tyX1, rfl, by decide, fl_RX1_9, wn_X1, Or.inl rfl, tyX1_ok, nmX1, rfl, tyX1_ok 2 (by decide), (fun _ => rfl)⟩
theorem f_RX1_15 : zFl RX1 15 4 3 := ⟨_, "SalesDesk$Chance", TX1, 8, rfl, by decide, fl_RX1_15, wn_X1, Or.inl rfl⟩
theorem fp_RX1_15 : zFp RX1 15 4 3 (.array .int) true := ⟨_, "SalesDesk$Chance", TX1, 8, tyX1, rfl, by decide, fl_RX1_15, wn_X1, Or.inl rfl, tyX1_ok, nmX1, rfl, tyX1_ok 3 (by decide), (fun _ => rfl)⟩
theorem f_RX1_18 : zFl RX1 18 4 4 := ⟨_, "SalesDesk$Chance", TX1, 8, rfl, by decide, fl_RX1_18, wn_X1, Or.inl rfl⟩
theorem fp_RX1_18 : zFp RX1 18 4 4 (.int) false := ⟨_, "SalesDesk$Chance", TX1, 8, tyX1, rfl, by decide, fl_RX1_18, wn_X1, Or.inl rfl, tyX1_ok, nmX1, rfl, tyX1_ok 4 (by decide), (fun h => by cases h)⟩
theorem f_RX1_22 : zFl RX1 22 4 6 := ⟨_, "SalesDesk$Chance", TX1, 8, rfl, by decide, fl_RX1_22, wn_X1, Or.inl rfl⟩
theorem fp_RX1_22 : zFp RX1 22 4 6 (.int) false := ⟨_, "SalesDesk$Chance", TX1, 8, tyX1, rfl, by decide, fl_RX1_22, wn_X1, Or.inl rfl, tyX1_ok, nmX1, rfl, tyX1_ok 6 (by decide), (fun h => by cases h)⟩
theorem f_RX1_25 : zFl RX1 25 4 7 := ⟨_, "SalesDesk$Chance", TX1, 8, rfl, by decide, fl_RX1_25, wn_X1, Or.inl rfl⟩
theorem fp_RX1_25 : zFp RX1 25 4 7 (.object "SalesDesk$Quote") false := ⟨_, "SalesDesk$Chance", TX1, 8, tyX1, rfl, by decide, fl_RX1_25, wn_X1, Or.inl rfl, tyX1_ok, nmX1, rfl, tyX1_ok 7 (by decide), (fun h => by cases h)⟩
theorem f_RX1_29 : zFl RX1 29 4 0 := ⟨_, "SalesDesk$Chance", TX1, 8, rfl, by decide, fl_RX1_29, wn_X1, Or.inl rfl⟩
theorem fp_RX1_29 : zFp RX1 29 4 0 (.object "SalesDesk$Account") true := ⟨_, "SalesDesk$Chance", TX1, 8, tyX1, rfl, by decide, fl_RX1_29, wn_X1, Or.inl rfl, tyX1_ok, nmX1, rfl, tyX1_ok 0 (by decide), (fun _ => rfl)⟩
theorem f_RX1_33 : zFl RX1 33 4 1 := ⟨_, "SalesDesk$Chance", TX1, 8, rfl, by decide, fl_RX1_33, wn_X1, Or.inl rfl⟩
theorem fp_RX1_33 : zFp RX1 33 4 1 (.int) true := ⟨_, "SalesDesk$Chance", TX1, 8, tyX1, rfl, by decide, fl_RX1_33, wn_X1, Or.inl rfl, tyX1_ok, nmX1, rfl, tyX1_ok 1 (by decide), (fun _ => rfl)⟩
theorem f_RX1_36 : zFl RX1 36 4 5 := ⟨_, "SalesDesk$Chance", TX1, 8, rfl, by decide, fl_RX1_36, wn_X1, Or.inl rfl⟩
theorem fp_RX1_36 : zFp RX1 36 4 5 (.int) false := ⟨_, "SalesDesk$Chance", TX1, 8, tyX1, rfl, by decide, fl_RX1_36, wn_X1, Or.inl rfl, tyX1_ok, nmX1, rfl, tyX1_ok 5 (by decide), (fun h => by cases h)⟩
theorem f_RX7_93 : zFl RX7 93 10 15 := ⟨_, "SalesDeskModel", TX7, 32, rfl, by decide, fl_RX7_93, wn_X7, Or.inl rfl⟩
theorem fp_RX7_93 : zFp RX7 93 10 15 (.int) false := ⟨_, "SalesDeskModel", TX7, 32, tyX7, rfl, by decide, fl_RX7_93, wn_X7, Or.inl rfl, tyX7_ok, nmX7, rfl, tyX7_ok 15 (by decide), (fun h => by cases h)⟩
theorem f_RX6_157 : zFl RX6 157 4 4 := ⟨_, "SalesDesk$Chance", TX1, 8, rfl, by decide, fl_RX6_157, wn_X1, Or.inl rfl⟩
theorem fp_RX6_157 : zFp RX6 157 4 4 (.int) false := ⟨_, "SalesDesk$Chance", TX1, 8, tyX1, rfl, by decide, fl_RX6_157, wn_X1, Or.inl rfl, tyX1_ok, nmX1, rfl, tyX1_ok 4 (by decide), (fun h => by cases h)⟩
theorem f_RX6_151 : zFl RX6 151 4 5 := ⟨_, "SalesDesk$Chance", TX1, 8, rfl, by decide, fl_RX6_151, wn_X1, Or.inl rfl⟩
theorem fp_RX6_151 : zFp RX6 151 4 5 (.int) false := ⟨_, "SalesDesk$Chance", TX1, 8, tyX1, rfl, by decide, fl_RX6_151, wn_X1, Or.inl rfl, tyX1_ok, nmX1, rfl, tyX1_ok 5 (by decide), (fun h => by cases h)⟩
theorem f_RX6_154 : zFl RX6 154 4 3 := ⟨_, "SalesDesk$Chance", TX1, 8, rfl, by decide, fl_RX6_154, wn_X1, Or.inl rfl⟩
theorem f_RX6_164 : zFl RX6 164 4 0 := ⟨_, "SalesDesk$Chance", TX1, 8, rfl, by decide, fl_RX6_164, wn_X1, Or.inl rfl⟩
theorem f_RX6_168 : zFl RX6 168 4 6 := ⟨_, "SalesDesk$Chance", TX1, 8, rfl, by decide, fl_RX6_168, wn_X1, Or.inl rfl⟩
theorem fp_RX6_168 : zFp RX6 168 4 6 (.int) false := ⟨_, "SalesDesk$Chance", TX1, 8, tyX1, rfl, by decide, fl_RX6_168, wn_X1, Or.inl rfl, tyX1_ok, nmX1, rfl, tyX1_ok 6 (by decide), (fun h => by cases h)⟩
theorem f_RX6_216 : zFl RX6 216 4 7 := ⟨_, "SalesDesk$Chance", TX1, 8, rfl, by decide, fl_RX6_216, wn_X1, Or.inl rfl⟩
theorem fp_RX6_216 : zFp RX6 216 4 7 (.object "SalesDesk$Quote") false := ⟨_, "SalesDesk$Chance", TX1, 8, tyX1, rfl, by decide, fl_RX6_216, wn_X1, Or.inl rfl, tyX1_ok, nmX1, rfl, tyX1_ok 7 (by decide), (fun h => by cases h)⟩
theorem f_RX7_133 : zFl RX7 133 10 23 := ⟨_, "SalesDeskModel", TX7, 32, rfl, by decide, fl_RX7_133, wn_X7, Or.inl rfl⟩
theorem fp_RX7_133 : zFp RX7 133 10 23 (.int) false := ⟨_, "SalesDeskModel", TX7, 32, tyX7, rfl, by decide, fl_RX7_133, wn_X7, Or.inl rfl, tyX7_ok, nmX7, rfl, tyX7_ok 23 (by decide), (fun h => by cases h)⟩
theorem f_RX6_288 : zFl RX6 288 4 1 := ⟨_, "SalesDesk$Chance", TX1, 8, rfl, by decide, fl_RX6_288, wn_X1, Or.inl rfl⟩
theorem f_RX6_285 : zFl RX6 285 6 3 := ⟨_, "SalesDesk$Quote", TX3, 5, rfl, by decide, fl_RX6_285, wn_X3, Or.inl rfl⟩
theorem f_RX6_190 : zFl RX6 190 8 2 := ⟨_, "SalesDesk$Seller", TX5, 4, rfl, by decide, fl_RX6_190, wn_X5, Or.inl rfl⟩
theorem f_RX6_197 : zFl RX6 197 6 0 := ⟨_, "SalesDesk$Quote", TX3, 5, rfl, by decide, fl_RX6_197, wn_X3, Or.inl rfl⟩
theorem f_RX3_7 : zFl RX3 7 6 4 := ⟨_, "SalesDesk$Quote", TX3, 5, rfl, by decide, fl_RX3_7, wn_X3, Or.inl rfl⟩
theorem fp_RX3_7 : zFp RX3 7 6 4 (.boolean) false := ⟨_, "SalesDesk$Quote", TX3, 5, tyX3, rfl, by decide, fl_RX3_7, wn_X3, Or.inl rfl, tyX3_ok, nmX3, rfl, tyX3_ok 4 (by decide), (fun h => by cases h)⟩
theorem f_RX3_13 : zFl RX3 13 6 0 := ⟨_, "SalesDesk$Quote", TX3, 5, rfl, by decide, fl_RX3_13, wn_X3, Or.inl rfl⟩
theorem fp_RX3_13 : zFp RX3 13 6 0 (.int) true := ⟨_, "SalesDesk$Quote", TX3, 5, tyX3, rfl, by decide, fl_RX3_13, wn_X3, Or.inl rfl, tyX3_ok, nmX3, rfl, tyX3_ok 0 (by decide), (fun _ => rfl)⟩
theorem f_RX3_17 : zFl RX3 17 6 1 := ⟨_, "SalesDesk$Quote", TX3, 5, rfl, by decide, fl_RX3_17, wn_X3, Or.inl rfl⟩
theorem fp_RX3_17 : zFp RX3 17 6 1 (.object "SalesDesk$Chance") true := ⟨_, "SalesDesk$Quote", TX3, 5, tyX3, rfl, by decide, fl_RX3_17, wn_X3, Or.inl rfl, tyX3_ok, nmX3, rfl, tyX3_ok 1 (by decide), (fun _ => rfl)⟩
theorem f_RX3_21 : zFl RX3 21 6 2 := ⟨_, "SalesDesk$Quote", TX3, 5, rfl, by decide, fl_RX3_21, wn_X3, Or.inl rfl⟩
theorem fp_RX3_21 : zFp RX3 21 6 2 (.object "SalesDesk$Seller") true := ⟨_, "SalesDesk$Quote", TX3, 5, tyX3, rfl, by decide, fl_RX3_21, wn_X3, Or.inl rfl, tyX3_ok, nmX3, rfl, tyX3_ok 2 (by decide), (fun _ => rfl)⟩
theorem f_RX3_25 : zFl RX3 25 6 3 := ⟨_, "SalesDesk$Quote", TX3, 5, rfl, by decide, fl_RX3_25, wn_X3, Or.inl rfl⟩
theorem fp_RX3_25 : zFp RX3 25 6 3 (.int) true := ⟨_, "SalesDesk$Quote", TX3, 5, tyX3, rfl, by decide, fl_RX3_25, wn_X3, Or.inl rfl, tyX3_ok, nmX3, rfl, tyX3_ok 3 (by decide), (fun _ => rfl)⟩
theorem f_RX6_206 : zFl RX6 206 6 4 := ⟨_, "SalesDesk$Quote", TX3, 5, rfl, by decide, fl_RX6_206, wn_X3, Or.inl rfl⟩
theorem fp_RX6_206 : zFp RX6 206 6 4 (.boolean) false := ⟨_, "SalesDesk$Quote", TX3, 5, tyX3, rfl, by decide, fl_RX6_206, wn_X3, Or.inl rfl, tyX3_ok, nmX3, rfl, tyX3_ok 4 (by decide), (fun h => by cases h)⟩
theorem f_RX6_202 : zFl RX6 202 6 1 := ⟨_, "SalesDesk$Quote", TX3, 5, rfl, by decide, fl_RX6_202, wn_X3, Or.inl rfl⟩
theorem f_RX7_146 : zFl RX7 146 10 24 := ⟨_, "SalesDeskModel", TX7, 32, rfl, by decide, fl_RX7_146, wn_X7, Or.inl rfl⟩
theorem fp_RX7_146 : zFp RX7 146 10 24 (.int) false := ⟨_, "SalesDeskModel", TX7, 32, tyX7, rfl, by decide, fl_RX7_146, wn_X7, Or.inl rfl, tyX7_ok, nmX7, rfl, tyX7_ok 24 (by decide), (fun h => by cases h)⟩
theorem f_RX6_275 : zFl RX6 275 6 2 := ⟨_, "SalesDesk$Quote", TX3, 5, rfl, by decide, fl_RX6_275, wn_X3, Or.inl rfl⟩
theorem f_RX6_279 : zFl RX6 279 8 1 := ⟨_, "SalesDesk$Seller", TX5, 4, rfl, by decide, fl_RX6_279, wn_X5, Or.inl rfl⟩
theorem f_RX6_235 : zFl RX6 235 5 0 := ⟨_, "SalesDesk$Freeze", TX2, 1, rfl, by decide, fl_RX6_235, wn_X2, Or.inl rfl⟩
theorem f_RX2_9 : zFl RX2 9 5 0 := ⟨_, "SalesDesk$Freeze", TX2, 1, rfl, by decide, fl_RX2_9, wn_X2, Or.inl rfl⟩
theorem fp_RX2_9 : zFp RX2 9 5 0 (.array .int) true := ⟨_, "SalesDesk$Freeze", TX2, 1, tyX2, rfl, by decide, fl_RX2_9, wn_X2, Or.inl rfl, tyX2_ok, nmX2, rfl, tyX2_ok 0 (by decide), (fun _ => rfl)⟩
theorem f_RX7_165 : zFl RX7 165 10 29 := ⟨_, "SalesDeskModel", TX7, 32, rfl, by decide, fl_RX7_165, wn_X7, Or.inl rfl⟩
theorem fp_RX7_165 : zFp RX7 165 10 29 (.int) false := ⟨_, "SalesDeskModel", TX7, 32, tyX7, rfl, by decide, fl_RX7_165, wn_X7, Or.inl rfl, tyX7_ok, nmX7, rfl, tyX7_ok 29 (by decide), (fun h => by cases h)⟩
theorem n_RL_8 : zNc RL 8 9 7 [aN, aN, aN, aN, aN, aN, aI 0] := ⟨_, TX6, tyX6, rfl, kl_RL_8, ist_RX6, ini_RX6, wn_X6, tyX6_ok, zpr rfl, fun j hj loc => by rcases (show j = 0 ∨ j = 1 ∨ j = 2 ∨ j = 3 ∨ j = 4 ∨ j = 5 ∨ j = 6 by omega) with rfl | rfl | rfl | rfl | rfl | rfl | rfl <;> rfl⟩
theorem n_RL_97 : zNc RL 97 10 32 [aI 0, aI 0, aN, aN, aN, aN, aI 0, aN, aN, aN, aN, aI 0, aN, aN, aN, aI 0, aN, aN, aN, aN, aN, aN, aN, aI 0, aI 0, aN, aN, aN, aN, aI 0, aN, aI 0] := ⟨_, TX7, tyX7, rfl, kl_RL_97, ist_RX7, ini_RX7, wn_X7, tyX7_ok, zpr rfl, fun j hj loc => by rcases (show j = 0 ∨ j = 1 ∨ j = 2 ∨ j = 3 ∨ j = 4 ∨ j = 5 ∨ j = 6 ∨ j = 7 ∨ j = 8 ∨ j = 9 ∨ j = 10 ∨ j = 11 ∨ j = 12 ∨ j = 13 ∨ j = 14 ∨ j = 15 ∨ j = 16 ∨ j = 17 ∨ j = 18 ∨ j = 19 ∨ j = 20 ∨ j = 21 ∨ j = 22 ∨ j = 23 ∨ j = 24 ∨ j = 25 ∨ j = 26 ∨ j = 27 ∨ j = 28 ∨ j = 29 ∨ j = 30 ∨ j = 31 by omega) with rfl | rfl | rfl | rfl | rfl | rfl | rfl | rfl | rfl | rfl | rfl | rfl | rfl | rfl | rfl | rfl | rfl | rfl | rfl | rfl | rfl | rfl | rfl | rfl | rfl | rfl | rfl | rfl | rfl | rfl | rfl | rfl <;> rfl⟩
theorem n_RX6_7 : zNc RX6 7 2 3 [aI 0, aN, aI 0] := ⟨_, TJx4a65c, tyJx4a65c, rfl, kl_RX6_7, ist_RJx4a65c, ini_RJx4a65c, wn_Jx4a65c, tyJx4a65c_ok, zpr rfl, fun j hj loc => by rcases (show j = 0 ∨ j = 1 ∨ j = 2 by omega) with rfl | rfl | rfl <;> rfl⟩
theorem n_RX6_59 : zNc RX6 59 3 4 [aN, aI 0, aI 0, aI 0] := ⟨_, TX0, tyX0, rfl, kl_RX6_59, ist_RX0, ini_RX0, wn_X0, tyX0_ok, zpr rfl, fun j hj loc => by rcases (show j = 0 ∨ j = 1 ∨ j = 2 ∨ j = 3 by omega) with rfl | rfl | rfl | rfl <;> rfl⟩
theorem n_RX6_73 : zNc RX6 73 7 4 [aI 0, aI 0, aI 0, aI 0] := ⟨_, TX4, tyX4, rfl, kl_RX6_73, ist_RX4, ini_RX4, wn_X4, tyX4_ok, zpr rfl, fun j hj loc => by rcases (show j = 0 ∨ j = 1 ∨ j = 2 ∨ j = 3 by omega) with rfl | rfl | rfl | rfl <;> rfl⟩
theorem n_RX6_98 : zNc RX6 98 8 4 [aI 0, aN, aI 0, aI 0] := ⟨_, TX5, tyX5, rfl, kl_RX6_98, ist_RX5, ini_RX5, wn_X5, tyX5_ok, zpr rfl, fun j hj loc => by rcases (show j = 0 ∨ j = 1 ∨ j = 2 ∨ j = 3 by omega) with rfl | rfl | rfl | rfl <;> rfl⟩
theorem n_RX6_108 : zNc RX6 108 4 8 [aN, aI 0, aN, aN, aI 0, aI 0, aI 0, aN] := ⟨_, TX1, tyX1, rfl, kl_RX6_108, ist_RX1, ini_RX1, wn_X1, tyX1_ok, zpr rfl, fun j hj loc => by rcases (show j = 0 ∨ j = 1 ∨ j = 2 ∨ j = 3 ∨ j = 4 ∨ j = 5 ∨ j = 6 ∨ j = 7 by omega) with rfl | rfl | rfl | rfl | rfl | rfl | rfl | rfl <;> rfl⟩
theorem n_RX6_185 : zNc RX6 185 6 5 [aI 0, aN, aN, aI 0, aI 0] := ⟨_, TX3, tyX3, rfl, kl_RX6_185, ist_RX3, ini_RX3, wn_X3, tyX3_ok, zpr rfl, fun j hj loc => by rcases (show j = 0 ∨ j = 1 ∨ j = 2 ∨ j = 3 ∨ j = 4 by omega) with rfl | rfl | rfl | rfl | rfl <;> rfl⟩
theorem n_RX6_232 : zNc RX6 232 5 1 [aN] := ⟨_, TX2, tyX2, rfl, kl_RX6_232, ist_RX2, ini_RX2, wn_X2, tyX2_ok, zpr rfl, fun j hj loc => by rcases (show j = 0 by omega) with rfl; rfl⟩
theorem Y_X6_init : zY yX6_init (Cond.code yX6_init cX6_init 1 none) 0 := ⟨co_yX6_init, ini_RX6, by decide +kernel⟩
theorem Y_Jx4a65c_init_da8c8 : zY yJx4a65c_init_da8c8 (Cond.code yJx4a65c_init_da8c8 cJx4a65c_init_da8c8 1 none) 0 := ⟨co_yJx4a65c_init_da8c8, ini_RJx4a65c, by decide +kernel⟩
theorem Y_Jxc12de_init_da8c8 : zY yJxc12de_init_da8c8 (Cond.code yJxc12de_init_da8c8 cJxc12de_init_da8c8 1 none) 0 := ⟨co_yJxc12de_init_da8c8, ini_RJxc12de, by decide +kernel⟩
theorem Y_Jxa1e45_init_da8c8 : zY yJxa1e45_init_da8c8 (Cond.code yJxa1e45_init_da8c8 cJxa1e45_init_da8c8 1 none) 0 := ⟨co_yJxa1e45_init_da8c8, ini_RJxa1e45, by decide +kernel⟩
theorem Y_X7_init : zY yX7_init (Cond.code yX7_init cX7_init 1 none) 0 := ⟨co_yX7_init, ini_RX7, by decide +kernel⟩
theorem Y_L_pass : zY yL_pass (Cond.codeWith yL_pass cL_pass 4 (some .int) [(0, 9, 12, 13), (0, 9, 15, 15)]) 3 := ⟨cw_yL_pass, ini_RL, by decide +kernel⟩
theorem Y_X6_pass : zY yX6_pass (Cond.code yX6_pass cX6_pass 2 (some .int)) 1 := ⟨co_yX6_pass, ini_RX6, by decide +kernel⟩
theorem V_X6_pass : Cond.instanceMethod yX6_pass ∈ zT ∧ Cond.selects yX6_pass.cls yX6_pass yX6_pass ∈ zT := ⟨im_yX6_pass, se_yX6_pass⟩
theorem Y_X6_requireRange : zY yX6_requireRange (Cond.code yX6_requireRange cX6_requireRange 3 none) 3 := ⟨co_yX6_requireRange, ini_RX6, by decide +kernel⟩
theorem Y_X7_pass : zY yX7_pass (Cond.code yX7_pass cX7_pass 3 (some .int)) 1 := ⟨co_yX7_pass, ini_RX7, by decide +kernel⟩
theorem V_X7_pass : Cond.instanceMethod yX7_pass ∈ zT ∧ Cond.selects yX7_pass.cls yX7_pass yX7_pass ∈ zT := ⟨im_yX7_pass, se_yX7_pass⟩
theorem Y_X7_in : zY yX7_in (Cond.code yX7_in cX7_in 3 (some .boolean)) 3 := ⟨co_yX7_in, ini_RX7, by decide +kernel⟩
theorem Y_X7_goes : zY yX7_goes (Cond.code yX7_goes cX7_goes 4 (some .boolean)) 3 := ⟨co_yX7_goes, ini_RX7, by decide +kernel⟩
theorem V_X7_goes : Cond.instanceMethod yX7_goes ∈ zT ∧ Cond.selects yX7_goes.cls yX7_goes yX7_goes ∈ zT := ⟨im_yX7_goes, se_yX7_goes⟩
theorem Y_X7_thrown : zY yX7_thrown (Cond.code yX7_thrown cX7_thrown 1 (some .int)) 0 := ⟨co_yX7_thrown, ini_RX7, by decide +kernel⟩
theorem V_X7_thrown : Cond.instanceMethod yX7_thrown ∈ zT ∧ Cond.selects yX7_thrown.cls yX7_thrown yX7_thrown ∈ zT := ⟨im_yX7_thrown, se_yX7_thrown⟩
theorem Y_L_addAccount : zY yL_addAccount (Cond.codeWith yL_addAccount cL_addAccount 6 (some .int) [(0, 12, 15, 21), (0, 12, 19, 13), (0, 12, 23, 15)]) 5 := ⟨cw_yL_addAccount, ini_RL, by decide +kernel⟩
theorem Y_X6_addAccount : zY yX6_addAccount (Cond.code yX6_addAccount cX6_addAccount 5 (some .int)) 3 := ⟨co_yX6_addAccount, ini_RX6, by decide +kernel⟩
theorem V_X6_addAccount : Cond.instanceMethod yX6_addAccount ∈ zT ∧ Cond.selects yX6_addAccount.cls yX6_addAccount yX6_addAccount ∈ zT := ⟨im_yX6_addAccount, se_yX6_addAccount⟩
theorem Y_X6_accountAt : zY yX6_accountAt (Cond.code yX6_accountAt cX6_accountAt 2 (some (.object "SalesDesk$Account"))) 1 := ⟨co_yX6_accountAt, ini_RX6, by decide +kernel⟩
theorem V_X6_accountAt : Cond.instanceMethod yX6_accountAt ∈ zT ∧ Cond.selects yX6_accountAt.cls yX6_accountAt yX6_accountAt ∈ zT := ⟨im_yX6_accountAt, se_yX6_accountAt⟩
theorem Y_Jx4a65c_size_8abf5 : zY yJx4a65c_size_8abf5 (Cond.code yJx4a65c_size_8abf5 cJx4a65c_size_8abf5 1 (some .int)) 0 := ⟨co_yJx4a65c_size_8abf5, ini_RJx4a65c, by decide +kernel⟩
theorem V_Jx4a65c_size_8abf5 : Cond.instanceMethod yJx4a65c_size_8abf5 ∈ zT ∧ Cond.selects yJx4a65c_size_8abf5.cls yJx4a65c_size_8abf5 yJx4a65c_size_8abf5 ∈ zT := ⟨im_yJx4a65c_size_8abf5, se_yJx4a65c_size_8abf5⟩
theorem Y_Jx4a65c_get_915e3 : zY yJx4a65c_get_915e3 (Cond.code yJx4a65c_get_915e3 cJx4a65c_get_915e3 2 (some (.object "java/lang/Object"))) 1 := ⟨co_yJx4a65c_get_915e3, ini_RJx4a65c, by decide +kernel⟩
theorem V_Jx4a65c_get_915e3 : Cond.instanceMethod yJx4a65c_get_915e3 ∈ zT ∧ Cond.selects yJx4a65c_get_915e3.cls yJx4a65c_get_915e3 yJx4a65c_get_915e3 ∈ zT := ⟨im_yJx4a65c_get_915e3, se_yJx4a65c_get_915e3⟩
theorem Y_J15_checkIndex_7cf53 : zY yJ15_checkIndex_7cf53 (Cond.code yJ15_checkIndex_7cf53 cJ15_checkIndex_7cf53 2 (some .int)) 2 := ⟨co_yJ15_checkIndex_7cf53, ini_RJ15, by decide +kernel⟩
theorem Y_J3_checkIndex_8e157 : zY yJ3_checkIndex_8e157 (Cond.code yJ3_checkIndex_8e157 cJ3_checkIndex_8e157 3 (some .int)) 3 := ⟨co_yJ3_checkIndex_8e157, ini_RJ3, by decide +kernel⟩
theorem Y_Jx4a65c_elementData_915e3 : zY yJx4a65c_elementData_915e3 (Cond.code yJx4a65c_elementData_915e3 cJx4a65c_elementData_915e3 2 (some (.object "java/lang/Object"))) 1 := ⟨co_yJx4a65c_elementData_915e3, ini_RJx4a65c, by decide +kernel⟩
theorem V_Jx4a65c_elementData_915e3 : Cond.instanceMethod yJx4a65c_elementData_915e3 ∈ zT ∧ Cond.selects yJx4a65c_elementData_915e3.cls yJx4a65c_elementData_915e3 yJx4a65c_elementData_915e3 ∈ zT := ⟨im_yJx4a65c_elementData_915e3, se_yJx4a65c_elementData_915e3⟩
theorem Y_X6_requireRoom : zY yX6_requireRoom (Cond.code yX6_requireRoom cX6_requireRoom 2 none) 2 := ⟨co_yX6_requireRoom, ini_RX6, by decide +kernel⟩
theorem Y_X0_init : zY yX0_init (Cond.code yX0_init cX0_init 4 none) 3 := ⟨co_yX0_init, ini_RX0, by decide +kernel⟩
theorem Y_Jx4a65c_add_9ea2d : zY yJx4a65c_add_9ea2d (Cond.code yJx4a65c_add_9ea2d cJx4a65c_add_9ea2d 2 (some .boolean)) 1 := ⟨co_yJx4a65c_add_9ea2d, ini_RJx4a65c, by decide +kernel⟩
theorem V_Jx4a65c_add_9ea2d : Cond.instanceMethod yJx4a65c_add_9ea2d ∈ zT ∧ Cond.selects yJx4a65c_add_9ea2d.cls yJx4a65c_add_9ea2d yJx4a65c_add_9ea2d ∈ zT := ⟨im_yJx4a65c_add_9ea2d, se_yJx4a65c_add_9ea2d⟩
theorem Y_Jx4a65c_add_72be8 : zY yJx4a65c_add_72be8 (Cond.code yJx4a65c_add_72be8 cJx4a65c_add_72be8 4 none) 3 := ⟨co_yJx4a65c_add_72be8, ini_RJx4a65c, by decide +kernel⟩
theorem V_Jx4a65c_add_72be8 : Cond.instanceMethod yJx4a65c_add_72be8 ∈ zT ∧ Cond.selects yJx4a65c_add_72be8.cls yJx4a65c_add_72be8 yJx4a65c_add_72be8 ∈ zT := ⟨im_yJx4a65c_add_72be8, se_yJx4a65c_add_72be8⟩
theorem Y_Jx4a65c_grow_d5877 : zY yJx4a65c_grow_d5877 (Cond.code yJx4a65c_grow_d5877 cJx4a65c_grow_d5877 1 (some (.array (.object "java/lang/Object")))) 0 := ⟨co_yJx4a65c_grow_d5877, ini_RJx4a65c, by decide +kernel⟩
theorem V_Jx4a65c_grow_d5877 : Cond.instanceMethod yJx4a65c_grow_d5877 ∈ zT ∧ Cond.selects yJx4a65c_grow_d5877.cls yJx4a65c_grow_d5877 yJx4a65c_grow_d5877 ∈ zT := ⟨im_yJx4a65c_grow_d5877, se_yJx4a65c_grow_d5877⟩
theorem Y_Jx4a65c_grow_92f84 : zY yJx4a65c_grow_92f84 (Cond.code yJx4a65c_grow_92f84 cJx4a65c_grow_92f84 4 (some (.array (.object "java/lang/Object")))) 1 := ⟨co_yJx4a65c_grow_92f84, ini_RJx4a65c, by decide +kernel⟩
theorem V_Jx4a65c_grow_92f84 : Cond.instanceMethod yJx4a65c_grow_92f84 ∈ zT ∧ Cond.selects yJx4a65c_grow_92f84.cls yJx4a65c_grow_92f84 yJx4a65c_grow_92f84 ∈ zT := ⟨im_yJx4a65c_grow_92f84, se_yJx4a65c_grow_92f84⟩
theorem Y_J8_newLength_cabcc : zY yJ8_newLength_cabcc (Cond.code yJ8_newLength_cabcc cJ8_newLength_cabcc 4 (some .int)) 3 := ⟨co_yJ8_newLength_cabcc, ini_RJ8, by decide +kernel⟩
theorem Y_J8_hugeLength_7cf53 : zY yJ8_hugeLength_7cf53 (Cond.code yJ8_hugeLength_7cf53 cJ8_hugeLength_7cf53 3 (some .int)) 2 := ⟨co_yJ8_hugeLength_7cf53, ini_RJ8, by decide +kernel⟩
theorem Y_J7_copyOf_1904c : zY yJ7_copyOf_1904c (Cond.code yJ7_copyOf_1904c cJ7_copyOf_1904c 2 (some (.array (.object "java/lang/Object")))) 2 := ⟨co_yJ7_copyOf_1904c, ini_RJ7, by decide +kernel⟩
theorem Y_J7_copyOf_6403c : zY yJ7_copyOf_6403c (Cond.code yJ7_copyOf_6403c cJ7_copyOf_6403c 4 (some (.array (.object "java/lang/Object")))) 3 := ⟨co_yJ7_copyOf_6403c, ini_RJ7, by decide +kernel⟩
theorem Y_X7_addAccount : zY yX7_addAccount (Cond.code yX7_addAccount cX7_addAccount 4 (some .int)) 3 := ⟨co_yX7_addAccount, ini_RX7, by decide +kernel⟩
theorem V_X7_addAccount : Cond.instanceMethod yX7_addAccount ∈ zT ∧ Cond.selects yX7_addAccount.cls yX7_addAccount yX7_addAccount ∈ zT := ⟨im_yX7_addAccount, se_yX7_addAccount⟩
theorem Y_X7_isAccount : zY yX7_isAccount (Cond.code yX7_isAccount cX7_isAccount 2 (some .boolean)) 1 := ⟨co_yX7_isAccount, ini_RX7, by decide +kernel⟩
theorem V_X7_isAccount : Cond.instanceMethod yX7_isAccount ∈ zT ∧ Cond.selects yX7_isAccount.cls yX7_isAccount yX7_isAccount ∈ zT := ⟨im_yX7_isAccount, se_yX7_isAccount⟩
theorem Y_L_putRule : zY yL_putRule (Cond.codeWith yL_putRule cL_putRule 8 (some .int) [(0, 16, 19, 21), (0, 16, 23, 13), (0, 16, 27, 15)]) 7 := ⟨cw_yL_putRule, ini_RL, by decide +kernel⟩
theorem Y_X6_putRule : zY yX6_putRule (Cond.code yX6_putRule cX6_putRule 6 (some .int)) 5 := ⟨co_yX6_putRule, ini_RX6, by decide +kernel⟩
theorem V_X6_putRule : Cond.instanceMethod yX6_putRule ∈ zT ∧ Cond.selects yX6_putRule.cls yX6_putRule yX6_putRule ∈ zT := ⟨im_yX6_putRule, se_yX6_putRule⟩
theorem Y_X4_init : zY yX4_init (Cond.code yX4_init cX4_init 5 none) 4 := ⟨co_yX4_init, ini_RX4, by decide +kernel⟩
theorem Y_Jx4a65c_add_7a177 : zY yJx4a65c_add_7a177 (Cond.code yJx4a65c_add_7a177 cJx4a65c_add_7a177 5 none) 2 := ⟨co_yJx4a65c_add_7a177, ini_RJx4a65c, by decide +kernel⟩
theorem V_Jx4a65c_add_7a177 : Cond.instanceMethod yJx4a65c_add_7a177 ∈ zT ∧ Cond.selects yJx4a65c_add_7a177.cls yJx4a65c_add_7a177 yJx4a65c_add_7a177 ∈ zT := ⟨im_yJx4a65c_add_7a177, se_yJx4a65c_add_7a177⟩
theorem Y_Jx4a65c_rangeCheckForAdd_d00df : zY yJx4a65c_rangeCheckForAdd_d00df (Cond.code yJx4a65c_rangeCheckForAdd_d00df cJx4a65c_rangeCheckForAdd_d00df 2 none) 1 := ⟨co_yJx4a65c_rangeCheckForAdd_d00df, ini_RJx4a65c, by decide +kernel⟩
theorem V_Jx4a65c_rangeCheckForAdd_d00df : Cond.instanceMethod yJx4a65c_rangeCheckForAdd_d00df ∈ zT ∧ Cond.selects yJx4a65c_rangeCheckForAdd_d00df.cls yJx4a65c_rangeCheckForAdd_d00df yJx4a65c_rangeCheckForAdd_d00df ∈ zT := ⟨im_yJx4a65c_rangeCheckForAdd_d00df, se_yJx4a65c_rangeCheckForAdd_d00df⟩
theorem Y_X7_putRule : zY yX7_putRule (Cond.code yX7_putRule cX7_putRule 8 (some .int)) 5 := ⟨co_yX7_putRule, ini_RX7, by decide +kernel⟩
theorem V_X7_putRule : Cond.instanceMethod yX7_putRule ∈ zT ∧ Cond.selects yX7_putRule.cls yX7_putRule yX7_putRule ∈ zT := ⟨im_yX7_putRule, se_yX7_putRule⟩
theorem Y_X7_copyRule : zY yX7_copyRule (Cond.code yX7_copyRule cX7_copyRule 3 none) 2 := ⟨co_yX7_copyRule, ini_RX7, by decide +kernel⟩
theorem V_X7_copyRule : Cond.instanceMethod yX7_copyRule ∈ zT ∧ Cond.selects yX7_copyRule.cls yX7_copyRule yX7_copyRule ∈ zT := ⟨im_yX7_copyRule, se_yX7_copyRule⟩
theorem Y_L_removeRule : zY yL_removeRule (Cond.codeWith yL_removeRule cL_removeRule 4 (some .int) [(0, 9, 12, 21)]) 3 := ⟨cw_yL_removeRule, ini_RL, by decide +kernel⟩
theorem Y_X6_removeRule : zY yX6_removeRule (Cond.code yX6_removeRule cX6_removeRule 2 (some .int)) 1 := ⟨co_yX6_removeRule, ini_RX6, by decide +kernel⟩
theorem V_X6_removeRule : Cond.instanceMethod yX6_removeRule ∈ zT ∧ Cond.selects yX6_removeRule.cls yX6_removeRule yX6_removeRule ∈ zT := ⟨im_yX6_removeRule, se_yX6_removeRule⟩
theorem Y_Jx4a65c_remove_915e3 : zY yJx4a65c_remove_915e3 (Cond.code yJx4a65c_remove_915e3 cJx4a65c_remove_915e3 4 (some (.object "java/lang/Object"))) 1 := ⟨co_yJx4a65c_remove_915e3, ini_RJx4a65c, by decide +kernel⟩
theorem V_Jx4a65c_remove_915e3 : Cond.instanceMethod yJx4a65c_remove_915e3 ∈ zT ∧ Cond.selects yJx4a65c_remove_915e3.cls yJx4a65c_remove_915e3 yJx4a65c_remove_915e3 ∈ zT := ⟨im_yJx4a65c_remove_915e3, se_yJx4a65c_remove_915e3⟩
theorem Y_Jx4a65c_fastRemove_b59b0 : zY yJx4a65c_fastRemove_b59b0 (Cond.code yJx4a65c_fastRemove_b59b0 cJx4a65c_fastRemove_b59b0 4 none) 2 := ⟨co_yJx4a65c_fastRemove_b59b0, ini_RJx4a65c, by decide +kernel⟩
theorem V_Jx4a65c_fastRemove_b59b0 : Cond.instanceMethod yJx4a65c_fastRemove_b59b0 ∈ zT ∧ Cond.selects yJx4a65c_fastRemove_b59b0.cls yJx4a65c_fastRemove_b59b0 yJx4a65c_fastRemove_b59b0 ∈ zT := ⟨im_yJx4a65c_fastRemove_b59b0, se_yJx4a65c_fastRemove_b59b0⟩
theorem Y_X7_removeRule : zY yX7_removeRule (Cond.code yX7_removeRule cX7_removeRule 3 (some .int)) 1 := ⟨co_yX7_removeRule, ini_RX7, by decide +kernel⟩
theorem V_X7_removeRule : Cond.instanceMethod yX7_removeRule ∈ zT ∧ Cond.selects yX7_removeRule.cls yX7_removeRule yX7_removeRule ∈ zT := ⟨im_yX7_removeRule, se_yX7_removeRule⟩
theorem Y_L_except : zY yL_except (Cond.codeWith yL_except cL_except 5 (some .int) [(0, 10, 13, 21), (0, 10, 17, 13)]) 4 := ⟨cw_yL_except, ini_RL, by decide +kernel⟩
theorem Y_X6_except : zY yX6_except (Cond.code yX6_except cX6_except 5 (some .int)) 2 := ⟨co_yX6_except, ini_RX6, by decide +kernel⟩
theorem V_X6_except : Cond.instanceMethod yX6_except ∈ zT ∧ Cond.selects yX6_except.cls yX6_except yX6_except ∈ zT := ⟨im_yX6_except, se_yX6_except⟩
theorem Y_X7_except : zY yX7_except (Cond.code yX7_except cX7_except 4 (some .int)) 2 := ⟨co_yX7_except, ini_RX7, by decide +kernel⟩
theorem V_X7_except : Cond.instanceMethod yX7_except ∈ zT ∧ Cond.selects yX7_except.cls yX7_except yX7_except ∈ zT := ⟨im_yX7_except, se_yX7_except⟩
theorem Y_L_regionOf : zY yL_regionOf (Cond.codeWith yL_regionOf cL_regionOf 4 (some .int) [(0, 9, 12, 21)]) 3 := ⟨cw_yL_regionOf, ini_RL, by decide +kernel⟩
theorem Y_X6_regionOf : zY yX6_regionOf (Cond.code yX6_regionOf cX6_regionOf 2 (some .int)) 1 := ⟨co_yX6_regionOf, ini_RX6, by decide +kernel⟩
theorem V_X6_regionOf : Cond.instanceMethod yX6_regionOf ∈ zT ∧ Cond.selects yX6_regionOf.cls yX6_regionOf yX6_regionOf ∈ zT := ⟨im_yX6_regionOf, se_yX6_regionOf⟩
theorem Y_X6_regionNow : zY yX6_regionNow (Cond.code yX6_regionNow cX6_regionNow 4 (some .int)) 1 := ⟨co_yX6_regionNow, ini_RX6, by decide +kernel⟩
theorem V_X6_regionNow : Cond.instanceMethod yX6_regionNow ∈ zT ∧ Cond.selects yX6_regionNow.cls yX6_regionNow yX6_regionNow ∈ zT := ⟨im_yX6_regionNow, se_yX6_regionNow⟩
theorem Y_X6_ruledRegion : zY yX6_ruledRegion (Cond.code yX6_ruledRegion cX6_ruledRegion 4 (some .int)) 1 := ⟨co_yX6_ruledRegion, ini_RX6, by decide +kernel⟩
theorem V_X6_ruledRegion : Cond.instanceMethod yX6_ruledRegion ∈ zT ∧ Cond.selects yX6_ruledRegion.cls yX6_ruledRegion yX6_ruledRegion ∈ zT := ⟨im_yX6_ruledRegion, se_yX6_ruledRegion⟩
theorem Y_X7_regionOf : zY yX7_regionOf (Cond.code yX7_regionOf cX7_regionOf 2 (some .int)) 1 := ⟨co_yX7_regionOf, ini_RX7, by decide +kernel⟩
theorem V_X7_regionOf : Cond.instanceMethod yX7_regionOf ∈ zT ∧ Cond.selects yX7_regionOf.cls yX7_regionOf yX7_regionOf ∈ zT := ⟨im_yX7_regionOf, se_yX7_regionOf⟩
theorem Y_X7_region : zY yX7_region (Cond.code yX7_region cX7_region 3 (some .int)) 1 := ⟨co_yX7_region, ini_RX7, by decide +kernel⟩
theorem V_X7_region : Cond.instanceMethod yX7_region ∈ zT ∧ Cond.selects yX7_region.cls yX7_region yX7_region ∈ zT := ⟨im_yX7_region, se_yX7_region⟩
theorem Y_X7_ownRegion : zY yX7_ownRegion (Cond.code yX7_ownRegion cX7_ownRegion 4 (some .int)) 1 := ⟨co_yX7_ownRegion, ini_RX7, by decide +kernel⟩
theorem V_X7_ownRegion : Cond.instanceMethod yX7_ownRegion ∈ zT ∧ Cond.selects yX7_ownRegion.cls yX7_ownRegion yX7_ownRegion ∈ zT := ⟨im_yX7_ownRegion, se_yX7_ownRegion⟩
theorem Y_L_addSeller : zY yL_addSeller (Cond.codeWith yL_addSeller cL_addSeller 5 (some .int) [(0, 10, 13, 21), (0, 10, 17, 13), (0, 10, 21, 15)]) 4 := ⟨cw_yL_addSeller, ini_RL, by decide +kernel⟩
theorem Y_X6_addSeller : zY yX6_addSeller (Cond.code yX6_addSeller cX6_addSeller 4 (some .int)) 2 := ⟨co_yX6_addSeller, ini_RX6, by decide +kernel⟩
theorem V_X6_addSeller : Cond.instanceMethod yX6_addSeller ∈ zT ∧ Cond.selects yX6_addSeller.cls yX6_addSeller yX6_addSeller ∈ zT := ⟨im_yX6_addSeller, se_yX6_addSeller⟩
theorem Y_X6_sellerAt : zY yX6_sellerAt (Cond.code yX6_sellerAt cX6_sellerAt 2 (some (.object "SalesDesk$Seller"))) 1 := ⟨co_yX6_sellerAt, ini_RX6, by decide +kernel⟩
theorem V_X6_sellerAt : Cond.instanceMethod yX6_sellerAt ∈ zT ∧ Cond.selects yX6_sellerAt.cls yX6_sellerAt yX6_sellerAt ∈ zT := ⟨im_yX6_sellerAt, se_yX6_sellerAt⟩
theorem Y_X5_init : zY yX5_init (Cond.code yX5_init cX5_init 4 none) 3 := ⟨co_yX5_init, ini_RX5, by decide +kernel⟩
theorem Y_X7_addSeller : zY yX7_addSeller (Cond.code yX7_addSeller cX7_addSeller 3 (some .int)) 2 := ⟨co_yX7_addSeller, ini_RX7, by decide +kernel⟩
theorem V_X7_addSeller : Cond.instanceMethod yX7_addSeller ∈ zT ∧ Cond.selects yX7_addSeller.cls yX7_addSeller yX7_addSeller ∈ zT := ⟨im_yX7_addSeller, se_yX7_addSeller⟩
theorem Y_X7_isSeller : zY yX7_isSeller (Cond.code yX7_isSeller cX7_isSeller 2 (some .boolean)) 1 := ⟨co_yX7_isSeller, ini_RX7, by decide +kernel⟩
theorem V_X7_isSeller : Cond.instanceMethod yX7_isSeller ∈ zT ∧ Cond.selects yX7_isSeller.cls yX7_isSeller yX7_isSeller ∈ zT := ⟨im_yX7_isSeller, se_yX7_isSeller⟩
theorem Y_L_adjust : zY yL_adjust (Cond.codeWith yL_adjust cL_adjust 5 (some .int) [(0, 10, 13, 21), (0, 10, 17, 13)]) 4 := ⟨cw_yL_adjust, ini_RL, by decide +kernel⟩
theorem Y_X6_adjust : zY yX6_adjust (Cond.code yX6_adjust cX6_adjust 5 (some .int)) 2 := ⟨co_yX6_adjust, ini_RX6, by decide +kernel⟩
theorem V_X6_adjust : Cond.instanceMethod yX6_adjust ∈ zT ∧ Cond.selects yX6_adjust.cls yX6_adjust yX6_adjust ∈ zT := ⟨im_yX6_adjust, se_yX6_adjust⟩
theorem Y_X7_adjust : zY yX7_adjust (Cond.code yX7_adjust cX7_adjust 4 (some .int)) 2 := ⟨co_yX7_adjust, ini_RX7, by decide +kernel⟩
theorem V_X7_adjust : Cond.instanceMethod yX7_adjust ∈ zT ∧ Cond.selects yX7_adjust.cls yX7_adjust yX7_adjust ∈ zT := ⟨im_yX7_adjust, se_yX7_adjust⟩
theorem Y_L_addChance : zY yL_addChance (Cond.codeWith yL_addChance cL_addChance 6 (some .int) [(0, 12, 15, 21), (0, 12, 19, 13), (0, 12, 23, 15)]) 5 := ⟨cw_yL_addChance, ini_RL, by decide +kernel⟩
theorem Y_X6_addChance : zY yX6_addChance (Cond.code yX6_addChance cX6_addChance 7 (some .int)) 3 := ⟨co_yX6_addChance, ini_RX6, by decide +kernel⟩
theorem V_X6_addChance : Cond.instanceMethod yX6_addChance ∈ zT ∧ Cond.selects yX6_addChance.cls yX6_addChance yX6_addChance ∈ zT := ⟨im_yX6_addChance, se_yX6_addChance⟩
theorem Y_X1_init : zY yX1_init (Cond.code yX1_init cX1_init 4 none) 3 := ⟨co_yX1_init, ini_RX1, by decide +kernel⟩
theorem Y_X6_addTo : zY yX6_addTo (Cond.code yX6_addTo cX6_addTo 3 none) 3 := ⟨co_yX6_addTo, ini_RX6, by decide +kernel⟩
theorem Y_X7_addChance : zY yX7_addChance (Cond.code yX7_addChance cX7_addChance 4 (some .int)) 3 := ⟨co_yX7_addChance, ini_RX7, by decide +kernel⟩
theorem V_X7_addChance : Cond.instanceMethod yX7_addChance ∈ zT ∧ Cond.selects yX7_addChance.cls yX7_addChance yX7_addChance ∈ zT := ⟨im_yX7_addChance, se_yX7_addChance⟩
theorem Y_L_giveShare : zY yL_giveShare (Cond.codeWith yL_giveShare cL_giveShare 7 (some .int) [(0, 14, 17, 21), (0, 14, 21, 13), (0, 14, 25, 15)]) 6 := ⟨cw_yL_giveShare, ini_RL, by decide +kernel⟩
theorem Y_X6_giveShare : zY yX6_giveShare (Cond.code yX6_giveShare cX6_giveShare 8 (some .int)) 4 := ⟨co_yX6_giveShare, ini_RX6, by decide +kernel⟩
theorem V_X6_giveShare : Cond.instanceMethod yX6_giveShare ∈ zT ∧ Cond.selects yX6_giveShare.cls yX6_giveShare yX6_giveShare ∈ zT := ⟨im_yX6_giveShare, se_yX6_giveShare⟩
theorem Y_X6_chanceAt : zY yX6_chanceAt (Cond.code yX6_chanceAt cX6_chanceAt 2 (some (.object "SalesDesk$Chance"))) 1 := ⟨co_yX6_chanceAt, ini_RX6, by decide +kernel⟩
theorem V_X6_chanceAt : Cond.instanceMethod yX6_chanceAt ∈ zT ∧ Cond.selects yX6_chanceAt.cls yX6_chanceAt yX6_chanceAt ∈ zT := ⟨im_yX6_chanceAt, se_yX6_chanceAt⟩
theorem Y_X6_requireOpen : zY yX6_requireOpen (Cond.code yX6_requireOpen cX6_requireOpen 1 none) 1 := ⟨co_yX6_requireOpen, ini_RX6, by decide +kernel⟩
theorem Y_X6_isOpen : zY yX6_isOpen (Cond.code yX6_isOpen cX6_isOpen 1 (some .boolean)) 1 := ⟨co_yX6_isOpen, ini_RX6, by decide +kernel⟩
theorem Y_X6_at : zY yX6_at (Cond.code yX6_at cX6_at 2 (some .int)) 2 := ⟨co_yX6_at, ini_RX6, by decide +kernel⟩
theorem Y_X7_giveShare : zY yX7_giveShare (Cond.code yX7_giveShare cX7_giveShare 7 (some .int)) 4 := ⟨co_yX7_giveShare, ini_RX7, by decide +kernel⟩
theorem V_X7_giveShare : Cond.instanceMethod yX7_giveShare ∈ zT ∧ Cond.selects yX7_giveShare.cls yX7_giveShare yX7_giveShare ∈ zT := ⟨im_yX7_giveShare, se_yX7_giveShare⟩
theorem Y_X7_isChance : zY yX7_isChance (Cond.code yX7_isChance cX7_isChance 2 (some .boolean)) 1 := ⟨co_yX7_isChance, ini_RX7, by decide +kernel⟩
theorem V_X7_isChance : Cond.instanceMethod yX7_isChance ∈ zT ∧ Cond.selects yX7_isChance.cls yX7_isChance yX7_isChance ∈ zT := ⟨im_yX7_isChance, se_yX7_isChance⟩
theorem Y_X7_isOpen : zY yX7_isOpen (Cond.code yX7_isOpen cX7_isOpen 2 (some .boolean)) 1 := ⟨co_yX7_isOpen, ini_RX7, by decide +kernel⟩
theorem V_X7_isOpen : Cond.instanceMethod yX7_isOpen ∈ zT ∧ Cond.selects yX7_isOpen.cls yX7_isOpen yX7_isOpen ∈ zT := ⟨im_yX7_isOpen, se_yX7_isOpen⟩
theorem Y_L_move : zY yL_move (Cond.codeWith yL_move cL_move 5 (some .int) [(0, 10, 13, 21), (0, 10, 17, 13), (0, 10, 21, 15)]) 4 := ⟨cw_yL_move, ini_RL, by decide +kernel⟩
theorem Y_X6_move : zY yX6_move (Cond.code yX6_move cX6_move 5 (some .int)) 2 := ⟨co_yX6_move, ini_RX6, by decide +kernel⟩
theorem V_X6_move : Cond.instanceMethod yX6_move ∈ zT ∧ Cond.selects yX6_move.cls yX6_move yX6_move ∈ zT := ⟨im_yX6_move, se_yX6_move⟩
theorem Y_X6_requireStage : zY yX6_requireStage (Cond.code yX6_requireStage cX6_requireStage 1 none) 1 := ⟨co_yX6_requireStage, ini_RX6, by decide +kernel⟩
theorem Y_X6_canCome : zY yX6_canCome (Cond.code yX6_canCome cX6_canCome 2 (some .boolean)) 2 := ⟨co_yX6_canCome, ini_RX6, by decide +kernel⟩
theorem Y_X7_move : zY yX7_move (Cond.code yX7_move cX7_move 6 (some .int)) 2 := ⟨co_yX7_move, ini_RX7, by decide +kernel⟩
theorem V_X7_move : Cond.instanceMethod yX7_move ∈ zT ∧ Cond.selects yX7_move.cls yX7_move yX7_move ∈ zT := ⟨im_yX7_move, se_yX7_move⟩
theorem Y_X7_canCome : zY yX7_canCome (Cond.code yX7_canCome cX7_canCome 5 (some .boolean)) 2 := ⟨co_yX7_canCome, ini_RX7, by decide +kernel⟩
theorem V_X7_canCome : Cond.instanceMethod yX7_canCome ∈ zT ∧ Cond.selects yX7_canCome.cls yX7_canCome yX7_canCome ∈ zT := ⟨im_yX7_canCome, se_yX7_canCome⟩
theorem Y_X7_counts : zY yX7_counts (Cond.code yX7_counts cX7_counts 5 (some .int)) 1 := ⟨co_yX7_counts, ini_RX7, by decide +kernel⟩
theorem V_X7_counts : Cond.instanceMethod yX7_counts ∈ zT ∧ Cond.selects yX7_counts.cls yX7_counts yX7_counts ∈ zT := ⟨im_yX7_counts, se_yX7_counts⟩
theorem Y_L_stage : zY yL_stage (Cond.codeWith yL_stage cL_stage 4 (some .int) [(0, 9, 12, 21)]) 3 := ⟨cw_yL_stage, ini_RL, by decide +kernel⟩
theorem Y_X6_stage : zY yX6_stage (Cond.code yX6_stage cX6_stage 2 (some .int)) 1 := ⟨co_yX6_stage, ini_RX6, by decide +kernel⟩
theorem V_X6_stage : Cond.instanceMethod yX6_stage ∈ zT ∧ Cond.selects yX6_stage.cls yX6_stage yX6_stage ∈ zT := ⟨im_yX6_stage, se_yX6_stage⟩
theorem Y_X7_stage : zY yX7_stage (Cond.code yX7_stage cX7_stage 2 (some .int)) 1 := ⟨co_yX7_stage, ini_RX7, by decide +kernel⟩
theorem V_X7_stage : Cond.instanceMethod yX7_stage ∈ zT ∧ Cond.selects yX7_stage.cls yX7_stage yX7_stage ∈ zT := ⟨im_yX7_stage, se_yX7_stage⟩
theorem Y_L_daysIn : zY yL_daysIn (Cond.codeWith yL_daysIn cL_daysIn 5 (some .int) [(0, 10, 13, 21), (0, 10, 17, 13)]) 4 := ⟨cw_yL_daysIn, ini_RL, by decide +kernel⟩
theorem Y_X6_daysIn : zY yX6_daysIn (Cond.code yX6_daysIn cX6_daysIn 5 (some .int)) 2 := ⟨co_yX6_daysIn, ini_RX6, by decide +kernel⟩
theorem V_X6_daysIn : Cond.instanceMethod yX6_daysIn ∈ zT ∧ Cond.selects yX6_daysIn.cls yX6_daysIn yX6_daysIn ∈ zT := ⟨im_yX6_daysIn, se_yX6_daysIn⟩
theorem Y_X7_daysIn : zY yX7_daysIn (Cond.code yX7_daysIn cX7_daysIn 3 (some .int)) 2 := ⟨co_yX7_daysIn, ini_RX7, by decide +kernel⟩
theorem V_X7_daysIn : Cond.instanceMethod yX7_daysIn ∈ zT ∧ Cond.selects yX7_daysIn.cls yX7_daysIn yX7_daysIn ∈ zT := ⟨im_yX7_daysIn, se_yX7_daysIn⟩
theorem Y_L_stalled : zY yL_stalled (Cond.codeWith yL_stalled cL_stalled 4 (some .int) [(0, 9, 12, 13)]) 3 := ⟨cw_yL_stalled, ini_RL, by decide +kernel⟩
theorem Y_X6_stalled : zY yX6_stalled (Cond.code yX6_stalled cX6_stalled 5 (some .int)) 1 := ⟨co_yX6_stalled, ini_RX6, by decide +kernel⟩
theorem V_X6_stalled : Cond.instanceMethod yX6_stalled ∈ zT ∧ Cond.selects yX6_stalled.cls yX6_stalled yX6_stalled ∈ zT := ⟨im_yX6_stalled, se_yX6_stalled⟩
theorem Y_X7_stalled : zY yX7_stalled (Cond.code yX7_stalled cX7_stalled 5 (some .int)) 1 := ⟨co_yX7_stalled, ini_RX7, by decide +kernel⟩
theorem V_X7_stalled : Cond.instanceMethod yX7_stalled ∈ zT ∧ Cond.selects yX7_stalled.cls yX7_stalled yX7_stalled ∈ zT := ⟨im_yX7_stalled, se_yX7_stalled⟩
theorem Y_L_worth : zY yL_worth (Cond.codeWith yL_worth cL_worth 4 (some .int) [(0, 9, 12, 21)]) 3 := ⟨cw_yL_worth, ini_RL, by decide +kernel⟩
theorem Y_X6_worth : zY yX6_worth (Cond.code yX6_worth cX6_worth 2 (some .int)) 1 := ⟨co_yX6_worth, ini_RX6, by decide +kernel⟩
theorem V_X6_worth : Cond.instanceMethod yX6_worth ∈ zT ∧ Cond.selects yX6_worth.cls yX6_worth yX6_worth ∈ zT := ⟨im_yX6_worth, se_yX6_worth⟩
theorem Y_X6_worthNow : zY yX6_worthNow (Cond.code yX6_worthNow cX6_worthNow 2 (some .int)) 1 := ⟨co_yX6_worthNow, ini_RX6, by decide +kernel⟩
theorem Y_X6_hundredths : zY yX6_hundredths (Cond.code yX6_hundredths cX6_hundredths 2 (some .int)) 2 := ⟨co_yX6_hundredths, ini_RX6, by decide +kernel⟩
theorem Y_X7_worth : zY yX7_worth (Cond.code yX7_worth cX7_worth 2 (some .int)) 1 := ⟨co_yX7_worth, ini_RX7, by decide +kernel⟩
theorem V_X7_worth : Cond.instanceMethod yX7_worth ∈ zT ∧ Cond.selects yX7_worth.cls yX7_worth yX7_worth ∈ zT := ⟨im_yX7_worth, se_yX7_worth⟩
theorem Y_X7_worthOf : zY yX7_worthOf (Cond.code yX7_worthOf cX7_worthOf 3 (some .int)) 1 := ⟨co_yX7_worthOf, ini_RX7, by decide +kernel⟩
theorem V_X7_worthOf : Cond.instanceMethod yX7_worthOf ∈ zT ∧ Cond.selects yX7_worthOf.cls yX7_worthOf yX7_worthOf ∈ zT := ⟨im_yX7_worthOf, se_yX7_worthOf⟩
theorem Y_L_inRegion : zY yL_inRegion (Cond.codeWith yL_inRegion cL_inRegion 5 (some .int) [(0, 10, 13, 13)]) 4 := ⟨cw_yL_inRegion, ini_RL, by decide +kernel⟩
theorem Y_X6_inRegion : zY yX6_inRegion (Cond.code yX6_inRegion cX6_inRegion 6 (some .int)) 2 := ⟨co_yX6_inRegion, ini_RX6, by decide +kernel⟩
theorem V_X6_inRegion : Cond.instanceMethod yX6_inRegion ∈ zT ∧ Cond.selects yX6_inRegion.cls yX6_inRegion yX6_inRegion ∈ zT := ⟨im_yX6_inRegion, se_yX6_inRegion⟩
theorem Y_X6_regionFor : zY yX6_regionFor (Cond.code yX6_regionFor cX6_regionFor 2 (some .int)) 1 := ⟨co_yX6_regionFor, ini_RX6, by decide +kernel⟩
theorem V_X6_regionFor : Cond.instanceMethod yX6_regionFor ∈ zT ∧ Cond.selects yX6_regionFor.cls yX6_regionFor yX6_regionFor ∈ zT := ⟨im_yX6_regionFor, se_yX6_regionFor⟩
theorem Y_X7_inRegion : zY yX7_inRegion (Cond.code yX7_inRegion cX7_inRegion 7 (some .int)) 2 := ⟨co_yX7_inRegion, ini_RX7, by decide +kernel⟩
theorem V_X7_inRegion : Cond.instanceMethod yX7_inRegion ∈ zT ∧ Cond.selects yX7_inRegion.cls yX7_inRegion yX7_inRegion ∈ zT := ⟨im_yX7_inRegion, se_yX7_inRegion⟩
theorem Y_L_won : zY yL_won (Cond.codeWith yL_won cL_won 4 (some .int) [(0, 9, 12, 21)]) 3 := ⟨cw_yL_won, ini_RL, by decide +kernel⟩
theorem Y_X6_won : zY yX6_won (Cond.code yX6_won cX6_won 6 (some .int)) 1 := ⟨co_yX6_won, ini_RX6, by decide +kernel⟩
theorem V_X6_won : Cond.instanceMethod yX6_won ∈ zT ∧ Cond.selects yX6_won.cls yX6_won yX6_won ∈ zT := ⟨im_yX6_won, se_yX6_won⟩
theorem Y_X6_isInTree : zY yX6_isInTree (Cond.code yX6_isInTree cX6_isInTree 3 (some .boolean)) 2 := ⟨co_yX6_isInTree, ini_RX6, by decide +kernel⟩
theorem Y_X7_won : zY yX7_won (Cond.code yX7_won cX7_won 6 (some .int)) 1 := ⟨co_yX7_won, ini_RX7, by decide +kernel⟩
theorem V_X7_won : Cond.instanceMethod yX7_won ∈ zT ∧ Cond.selects yX7_won.cls yX7_won yX7_won ∈ zT := ⟨im_yX7_won, se_yX7_won⟩
theorem Y_L_quote : zY yL_quote (Cond.codeWith yL_quote cL_quote 6 (some .int) [(0, 12, 15, 21), (0, 12, 19, 13), (0, 12, 23, 15)]) 5 := ⟨cw_yL_quote, ini_RL, by decide +kernel⟩
theorem Y_X6_quote : zY yX6_quote (Cond.code yX6_quote cX6_quote 7 (some .int)) 3 := ⟨co_yX6_quote, ini_RX6, by decide +kernel⟩
theorem V_X6_quote : Cond.instanceMethod yX6_quote ∈ zT ∧ Cond.selects yX6_quote.cls yX6_quote yX6_quote ∈ zT := ⟨im_yX6_quote, se_yX6_quote⟩
theorem Y_X3_init : zY yX3_init (Cond.code yX3_init cX3_init 5 none) 4 := ⟨co_yX3_init, ini_RX3, by decide +kernel⟩
theorem Y_X6_letCount : zY yX6_letCount (Cond.code yX6_letCount cX6_letCount 1 none) 1 := ⟨co_yX6_letCount, ini_RX6, by decide +kernel⟩
theorem Y_X7_quote : zY yX7_quote (Cond.code yX7_quote cX7_quote 5 (some .int)) 3 := ⟨co_yX7_quote, ini_RX7, by decide +kernel⟩
theorem V_X7_quote : Cond.instanceMethod yX7_quote ∈ zT ∧ Cond.selects yX7_quote.cls yX7_quote yX7_quote ∈ zT := ⟨im_yX7_quote, se_yX7_quote⟩
theorem Y_X7_approves : zY yX7_approves (Cond.code yX7_approves cX7_approves 2 none) 1 := ⟨co_yX7_approves, ini_RX7, by decide +kernel⟩
theorem V_X7_approves : Cond.instanceMethod yX7_approves ∈ zT ∧ Cond.selects yX7_approves.cls yX7_approves yX7_approves ∈ zT := ⟨im_yX7_approves, se_yX7_approves⟩
theorem Y_L_approve : zY yL_approve (Cond.codeWith yL_approve cL_approve 4 (some .int) [(0, 6, 9, 21), (0, 6, 12, 15)]) 3 := ⟨cw_yL_approve, ini_RL, by decide +kernel⟩
theorem Y_X6_approve : zY yX6_approve (Cond.code yX6_approve cX6_approve 5 none) 2 := ⟨co_yX6_approve, ini_RX6, by decide +kernel⟩
theorem V_X6_approve : Cond.instanceMethod yX6_approve ∈ zT ∧ Cond.selects yX6_approve.cls yX6_approve yX6_approve ∈ zT := ⟨im_yX6_approve, se_yX6_approve⟩
theorem Y_X6_quoteAt : zY yX6_quoteAt (Cond.code yX6_quoteAt cX6_quoteAt 2 (some (.object "SalesDesk$Quote"))) 1 := ⟨co_yX6_quoteAt, ini_RX6, by decide +kernel⟩
theorem V_X6_quoteAt : Cond.instanceMethod yX6_quoteAt ∈ zT ∧ Cond.selects yX6_quoteAt.cls yX6_quoteAt yX6_quoteAt ∈ zT := ⟨im_yX6_quoteAt, se_yX6_quoteAt⟩
theorem Y_X6_canApprove : zY yX6_canApprove (Cond.code yX6_canApprove cX6_canApprove 2 (some .boolean)) 2 := ⟨co_yX6_canApprove, ini_RX6, by decide +kernel⟩
theorem Y_X6_isInTeam : zY yX6_isInTeam (Cond.code yX6_isInTeam cX6_isInTeam 3 (some .boolean)) 2 := ⟨co_yX6_isInTeam, ini_RX6, by decide +kernel⟩
theorem Y_X7_approve : zY yX7_approve (Cond.code yX7_approve cX7_approve 5 none) 2 := ⟨co_yX7_approve, ini_RX7, by decide +kernel⟩
theorem V_X7_approve : Cond.instanceMethod yX7_approve ∈ zT ∧ Cond.selects yX7_approve.cls yX7_approve yX7_approve ∈ zT := ⟨im_yX7_approve, se_yX7_approve⟩
theorem Y_X7_isAbove : zY yX7_isAbove (Cond.code yX7_isAbove cX7_isAbove 4 (some .boolean)) 2 := ⟨co_yX7_isAbove, ini_RX7, by decide +kernel⟩
theorem V_X7_isAbove : Cond.instanceMethod yX7_isAbove ∈ zT ∧ Cond.selects yX7_isAbove.cls yX7_isAbove yX7_isAbove ∈ zT := ⟨im_yX7_isAbove, se_yX7_isAbove⟩
theorem Y_L_counting : zY yL_counting (Cond.codeWith yL_counting cL_counting 4 (some .int) [(0, 9, 12, 21), (0, 9, 15, 81)]) 3 := ⟨cw_yL_counting, ini_RL, by decide +kernel⟩
theorem Y_X6_counting : zY yX6_counting (Cond.code yX6_counting cX6_counting 3 (some .int)) 1 := ⟨co_yX6_counting, ini_RX6, by decide +kernel⟩
theorem V_X6_counting : Cond.instanceMethod yX6_counting ∈ zT ∧ Cond.selects yX6_counting.cls yX6_counting yX6_counting ∈ zT := ⟨im_yX6_counting, se_yX6_counting⟩
theorem Y_X7_counting : zY yX7_counting (Cond.code yX7_counting cX7_counting 4 (some .int)) 1 := ⟨co_yX7_counting, ini_RX7, by decide +kernel⟩
theorem V_X7_counting : Cond.instanceMethod yX7_counting ∈ zT ∧ Cond.selects yX7_counting.cls yX7_counting yX7_counting ∈ zT := ⟨im_yX7_counting, se_yX7_counting⟩
theorem Y_X6_waiting : zY yX6_waiting (Cond.code yX6_waiting cX6_waiting 4 (some .int)) 0 := ⟨co_yX6_waiting, ini_RX6, by decide +kernel⟩
theorem V_X6_waiting : Cond.instanceMethod yX6_waiting ∈ zT ∧ Cond.selects yX6_waiting.cls yX6_waiting yX6_waiting ∈ zT := ⟨im_yX6_waiting, se_yX6_waiting⟩
theorem Y_X7_waiting : zY yX7_waiting (Cond.code yX7_waiting cX7_waiting 3 (some .int)) 0 := ⟨co_yX7_waiting, ini_RX7, by decide +kernel⟩
theorem V_X7_waiting : Cond.instanceMethod yX7_waiting ∈ zT ∧ Cond.selects yX7_waiting.cls yX7_waiting yX7_waiting ∈ zT := ⟨im_yX7_waiting, se_yX7_waiting⟩
theorem Y_L_forecast : zY yL_forecast (Cond.codeWith yL_forecast cL_forecast 4 (some .int) [(0, 9, 12, 21)]) 3 := ⟨cw_yL_forecast, ini_RL, by decide +kernel⟩
theorem Y_X6_forecast : zY yX6_forecast (Cond.code yX6_forecast cX6_forecast 2 (some .int)) 1 := ⟨co_yX6_forecast, ini_RX6, by decide +kernel⟩
theorem V_X6_forecast : Cond.instanceMethod yX6_forecast ∈ zT ∧ Cond.selects yX6_forecast.cls yX6_forecast yX6_forecast ∈ zT := ⟨im_yX6_forecast, se_yX6_forecast⟩
theorem Y_X6_forecastNow : zY yX6_forecastNow (Cond.code yX6_forecastNow cX6_forecastNow 5 (some .int)) 1 := ⟨co_yX6_forecastNow, ini_RX6, by decide +kernel⟩
theorem V_X6_forecastNow : Cond.instanceMethod yX6_forecastNow ∈ zT ∧ Cond.selects yX6_forecastNow.cls yX6_forecastNow yX6_forecastNow ∈ zT := ⟨im_yX6_forecastNow, se_yX6_forecastNow⟩
theorem Y_X6_ownNow : zY yX6_ownNow (Cond.code yX6_ownNow cX6_ownNow 6 (some .int)) 1 := ⟨co_yX6_ownNow, ini_RX6, by decide +kernel⟩
theorem V_X6_ownNow : Cond.instanceMethod yX6_ownNow ∈ zT ∧ Cond.selects yX6_ownNow.cls yX6_ownNow yX6_ownNow ∈ zT := ⟨im_yX6_ownNow, se_yX6_ownNow⟩
theorem Y_X7_forecast : zY yX7_forecast (Cond.code yX7_forecast cX7_forecast 2 (some .int)) 1 := ⟨co_yX7_forecast, ini_RX7, by decide +kernel⟩
theorem V_X7_forecast : Cond.instanceMethod yX7_forecast ∈ zT ∧ Cond.selects yX7_forecast.cls yX7_forecast yX7_forecast ∈ zT := ⟨im_yX7_forecast, se_yX7_forecast⟩
theorem Y_X7_forecastOf : zY yX7_forecastOf (Cond.code yX7_forecastOf cX7_forecastOf 4 (some .int)) 1 := ⟨co_yX7_forecastOf, ini_RX7, by decide +kernel⟩
theorem V_X7_forecastOf : Cond.instanceMethod yX7_forecastOf ∈ zT ∧ Cond.selects yX7_forecastOf.cls yX7_forecastOf yX7_forecastOf ∈ zT := ⟨im_yX7_forecastOf, se_yX7_forecastOf⟩
theorem Y_X7_ownOf : zY yX7_ownOf (Cond.code yX7_ownOf cX7_ownOf 5 (some .int)) 1 := ⟨co_yX7_ownOf, ini_RX7, by decide +kernel⟩
theorem V_X7_ownOf : Cond.instanceMethod yX7_ownOf ∈ zT ∧ Cond.selects yX7_ownOf.cls yX7_ownOf yX7_ownOf ∈ zT := ⟨im_yX7_ownOf, se_yX7_ownOf⟩
theorem Y_X7_weight : zY yX7_weight (Cond.code yX7_weight cX7_weight 1 (some .int)) 1 := ⟨co_yX7_weight, ini_RX7, by decide +kernel⟩
theorem Y_L_own : zY yL_own (Cond.codeWith yL_own cL_own 4 (some .int) [(0, 9, 12, 21)]) 3 := ⟨cw_yL_own, ini_RL, by decide +kernel⟩
theorem Y_X6_own : zY yX6_own (Cond.code yX6_own cX6_own 2 (some .int)) 1 := ⟨co_yX6_own, ini_RX6, by decide +kernel⟩
theorem V_X6_own : Cond.instanceMethod yX6_own ∈ zT ∧ Cond.selects yX6_own.cls yX6_own yX6_own ∈ zT := ⟨im_yX6_own, se_yX6_own⟩
theorem Y_X7_own : zY yX7_own (Cond.code yX7_own cX7_own 2 (some .int)) 1 := ⟨co_yX7_own, ini_RX7, by decide +kernel⟩
theorem V_X7_own : Cond.instanceMethod yX7_own ∈ zT ∧ Cond.selects yX7_own.cls yX7_own yX7_own ∈ zT := ⟨im_yX7_own, se_yX7_own⟩
theorem Y_L_freeze : zY yL_freeze (Cond.codeWith yL_freeze cL_freeze 3 (some .int) [(0, 8, 11, 15)]) 2 := ⟨cw_yL_freeze, ini_RL, by decide +kernel⟩
theorem Y_X6_freeze : zY yX6_freeze (Cond.code yX6_freeze cX6_freeze 4 (some .int)) 0 := ⟨co_yX6_freeze, ini_RX6, by decide +kernel⟩
theorem V_X6_freeze : Cond.instanceMethod yX6_freeze ∈ zT ∧ Cond.selects yX6_freeze.cls yX6_freeze yX6_freeze ∈ zT := ⟨im_yX6_freeze, se_yX6_freeze⟩
theorem Y_X2_init : zY yX2_init (Cond.code yX2_init cX2_init 1 none) 0 := ⟨co_yX2_init, ini_RX2, by decide +kernel⟩
theorem Y_X7_freeze : zY yX7_freeze (Cond.code yX7_freeze cX7_freeze 2 (some .int)) 0 := ⟨co_yX7_freeze, ini_RX7, by decide +kernel⟩
theorem V_X7_freeze : Cond.instanceMethod yX7_freeze ∈ zT ∧ Cond.selects yX7_freeze.cls yX7_freeze yX7_freeze ∈ zT := ⟨im_yX7_freeze, se_yX7_freeze⟩
theorem Y_L_since : zY yL_since (Cond.codeWith yL_since cL_since 5 (some .int) [(0, 10, 13, 21)]) 4 := ⟨cw_yL_since, ini_RL, by decide +kernel⟩
theorem Y_X6_since : zY yX6_since (Cond.code yX6_since cX6_since 4 (some .int)) 2 := ⟨co_yX6_since, ini_RX6, by decide +kernel⟩
theorem V_X6_since : Cond.instanceMethod yX6_since ∈ zT ∧ Cond.selects yX6_since.cls yX6_since yX6_since ∈ zT := ⟨im_yX6_since, se_yX6_since⟩
theorem Y_X7_since : zY yX7_since (Cond.code yX7_since cX7_since 3 (some .int)) 2 := ⟨co_yX7_since, ini_RX7, by decide +kernel⟩
theorem V_X7_since : Cond.instanceMethod yX7_since ∈ zT ∧ Cond.selects yX7_since.cls yX7_since yX7_since ∈ zT := ⟨im_yX7_since, se_yX7_since⟩
end
section
theorem x4_ISE : ∀ w ∈ (vx_atS RX6 44 "java/lang/IllegalStateException" zNm).filter goodWord, w ∈ lw_tbl := by decide +kernel
theorem th_ISE : zTh RX6 "java/lang/IllegalStateException" 40 44 := ⟨by decide +kernel, kl_RX6_40, ini_IllegalStateException, fun w h => List.mem_filter.mpr ⟨x4_ISE w h, (List.mem_filter.mp h).2⟩, by decide +kernel, by decide +kernel, by decide +kernel⟩
theorem x4_IAE : ∀ w ∈ (vx_atS RX6 130 "java/lang/IllegalArgumentException" zNm).filter goodWord, w ∈ lw_tbl := by decide +kernel
theorem th_IAE : zTh RX6 "java/lang/IllegalArgumentException" 126 130 := ⟨by decide +kernel, kl_RX6_126, ini_IllegalArgumentException, fun w h => List.mem_filter.mpr ⟨x4_IAE w h, (List.mem_filter.mp h).2⟩, by decide +kernel, by decide +kernel, by decide +kernel⟩
theorem x4_IOE : ∀ w ∈ (vx_atS RX6 72 "java/lang/IndexOutOfBoundsException" zNm).filter goodWord, w ∈ lw_tbl := by decide +kernel
theorem th_IOE : zTh RX6 "java/lang/IndexOutOfBoundsException" 68 72 := ⟨by decide +kernel, kl_RX6_68, ini_IndexOutOfBoundsException, fun w h => List.mem_filter.mpr ⟨x4_IOE w h, (List.mem_filter.mp h).2⟩, by decide +kernel, by decide +kernel, by decide +kernel⟩
end
section
/-! lists: java.util.ArrayList over a row of objects -/
/-- list j has n elements, of keys el -/
def zLs (σ : zHp) (j n : Nat) (el : Nat → zK) : Prop := ∃ (mc : Int32) (q : zK) (cap : Nat) (f : Nat → Option zK), σ 1 j = some (oC 2 [aI mc, .inr q, aI (nI n)]) ∧ σ q.1 q.2 = some (rC cap f) ∧ n ≤ cap ∧ (∀ i, i < n → f i = some (el i)) ∧ ((q = (90, 0) ∧ cap = 0) ∨ (q.1 = 20 + j ∧ 10 ≤ cap)) ∧ (∀ g, (q = (90, 0) ∨ q.2 < g) → σ (20 + j) g = none) ∧ (cap ≤ 10 ∨ (10 < n ∧ 2 * cap ≤ 3 * n)) ∧ j < 6
set_option maxRecDepth 100000 in
set_option maxHeartbeats 4000000 in
theorem c_Jx4a65c_size_8abf5 {X : zX} (l : Launch) {σ : zHp} {j n : Nat} {el : Nat → zK} (h : zLs σ j n el) : zM X l yJx4a65c_size_8abf5 cJx4a65c_size_8abf5 1 (some .int) 0 0 0 [aR 1 j] σ (zPi (fun r σ1 => r = nI n ∧ σ1 = σ)) zNx := by
  obtain ⟨mc, q, cap, f, h1, h2, h3, h4, h5, h6, h7, h8⟩ := h
  refine zM.of (by decide +kernel) (Nat.le_of_ble_eq_true rfl) (by simp [zcat, Value.category]) ?_
  intro p e s m args below meth c loc0 C hr hnm hT
  refine z_aload_n (i := 0) C dJx4a65c_size_8abf5_0 rfl rfl ?_
  refine z_getf C f_RJx4a65c_48 dJx4a65c_size_8abf5_1 (by first | assumption | rfl) rfl ?_
  exact z_iret C hr rfl dJx4a65c_size_8abf5_4 (Nat.le_of_ble_eq_true rfl) (Nat.le_of_ble_eq_true rfl) ⟨_, rfl, rfl, rfl⟩

set_option maxRecDepth 100000 in
set_option maxHeartbeats 4000000 in
theorem c_Jx4a65c_elementData_915e3 {X : zX} (l : Launch) {σ : zHp} {j n i : Nat} {el : Nat → zK} (h : zLs σ j n el) (hi : i < n) (hn : n < 1000) : zM X l yJx4a65c_elementData_915e3 cJx4a65c_elementData_915e3 2 (some (.object "java/lang/Object")) 0 0 0 [aR 1 j, aI (nI i)] σ (zPr (fun r σ1 => r = el i ∧ σ1 = σ)) zNx := by
  obtain ⟨mc, q, cap, f, h1, h2, h3, h4, h5, h6, h7, h8⟩ := h
  refine zM.of (by decide +kernel) (Nat.le_of_ble_eq_true rfl) (by simp [zcat, Value.category]) ?_
  intro p e s m args below meth c loc0 C hr hnm hT
  refine z_aload_n (i := 0) C dJx4a65c_elementData_915e3_0 rfl rfl ?_
  refine z_getf C f_RJx4a65c_9 dJx4a65c_elementData_915e3_1 (by first | assumption | rfl) rfl ?_
  refine z_iload_n (i := 1) C dJx4a65c_elementData_915e3_4 rfl rfl ?_
  have hcap : cap < 2 ^ 31 := by omega
  refine z_aald C dJx4a65c_elementData_915e3_5 h2 (vp_in_nI (by omega) hcap) ?_
  rw [nI_clamp (by omega), h4 i hi]
  exact z_aret C hr (Or.inl ⟨_, rfl⟩) ⟨some (el i), rfl⟩ dJx4a65c_elementData_915e3_6 (Nat.le_of_ble_eq_true rfl) (Nat.le_of_ble_eq_true rfl) ⟨_, rfl, rfl, rfl⟩

set_option maxRecDepth 100000 in
set_option maxHeartbeats 4000000 in
theorem c_J3_checkIndex_8e157 {X : zX} (l : Launch) {σ : zHp} {n i : Nat} (hi : i < n) (hn : n < 1000) : zM X l yJ3_checkIndex_8e157 cJ3_checkIndex_8e157 3 (some .int) 0 0 0 [aI (nI i), aI (nI n), aN] σ (zPi (fun r σ1 => r = nI i ∧ σ1 = σ)) zNx := by
  refine zM.of (by decide +kernel) (Nat.le_of_ble_eq_true rfl) (by simp [zcat, Value.category]) ?_
  intro p e s m args below meth c loc0 C hr hnm hT
  refine z_iload_n (i := 0) C dJ3_checkIndex_8e157_0 rfl rfl ?_
  refine z_if_lt (tgt := 9) C dJ3_checkIndex_8e157_1 (by decide) (fun h1 => ?_) (fun h1 => ?_)
  · exact absurd h1 (nI_pos (by omega))
  · refine z_iload_n (i := 0) C dJ3_checkIndex_8e157_4 rfl rfl ?_
    refine z_iload_n (i := 1) C dJ3_checkIndex_8e157_5 rfl rfl ?_
    refine z_icmp_lt (tgt := 16) C dJ3_checkIndex_8e157_6 (by decide) (fun h6 => ?_) (fun h6 => ?_)
    · refine z_iload_n (i := 0) C dJ3_checkIndex_8e157_16 rfl rfl ?_
      exact z_iret C hr rfl dJ3_checkIndex_8e157_17 (Nat.le_of_ble_eq_true rfl) (Nat.le_of_ble_eq_true rfl) ⟨_, rfl, rfl, rfl⟩
    · exact absurd (nI_lt hi (by omega)) h6

set_option maxRecDepth 100000 in
set_option maxHeartbeats 4000000 in
theorem c_J15_checkIndex_7cf53 {X : zX} (l : Launch) {σ : zHp} {n i : Nat} (hi : i < n) (hn : n < 1000) : zM X l yJ15_checkIndex_7cf53 cJ15_checkIndex_7cf53 2 (some .int) 1 0 0 [aI (nI i), aI (nI n)] σ (zPi (fun r σ1 => r = nI i ∧ σ1 = σ)) zNx := by
  refine zM.of (by decide +kernel) (Nat.le_of_ble_eq_true rfl) (by simp [zcat, Value.category]) ?_
  intro p e s m args below meth c loc0 C hr hnm hT
  refine z_iload_n (i := 0) C dJ15_checkIndex_7cf53_0 rfl rfl ?_
  refine z_iload_n (i := 1) C dJ15_checkIndex_7cf53_1 rfl rfl ?_
  refine z_null C dJ15_checkIndex_7cf53_2 ?_
  refine z_callS C Y_J3_checkIndex_8e157 sm_yJ3_checkIndex_8e157 ml_RJ15_105 (c_J3_checkIndex_8e157 l hi hn) dJ15_checkIndex_7cf53_3 rfl rfl (fun _ => Nat.le_of_ble_eq_true rfl) ⟨Nat.le_of_ble_eq_true rfl, Nat.le_of_ble_eq_true rfl⟩ ⟨Nat.le_of_ble_eq_true rfl, Nat.le_of_ble_eq_true rfl⟩ (z_ri (fun x σ1 hx => ?_)) (z_nx)
  obtain ⟨rfl, rfl⟩ := hx
  exact z_iret C hr rfl dJ15_checkIndex_7cf53_6 (Nat.le_of_ble_eq_true rfl) (Nat.le_of_ble_eq_true rfl) ⟨_, rfl, rfl, rfl⟩

set_option maxRecDepth 100000 in
set_option maxHeartbeats 4000000 in
theorem c_Jx4a65c_get_915e3 {X : zX} (l : Launch) {σ : zHp} {j n i : Nat} {el : Nat → zK} (h : zLs σ j n el) (hi : i < n) (hn : n < 1000) : zM X l yJx4a65c_get_915e3 cJx4a65c_get_915e3 2 (some (.object "java/lang/Object")) 2 0 0 [aR 1 j, aI (nI i)] σ (zPr (fun r σ1 => r = el i ∧ σ1 = σ)) zNx := by
  have hh := h
  obtain ⟨mc, q, cap, f, h1, h2, h3, h4, h5, h6, h7, h8⟩ := h
  refine zM.of (by decide +kernel) (Nat.le_of_ble_eq_true rfl) (by simp [zcat, Value.category]) ?_
  intro p e s m args below meth c loc0 C hr hnm hT
  refine z_iload_n (i := 1) C dJx4a65c_get_915e3_0 rfl rfl ?_
  refine z_aload_n (i := 0) C dJx4a65c_get_915e3_1 rfl rfl ?_
  refine z_getf C f_RJx4a65c_48 dJx4a65c_get_915e3_2 (by first | assumption | rfl) rfl ?_
  refine z_callS C Y_J15_checkIndex_7cf53 sm_yJ15_checkIndex_7cf53 ml_RJx4a65c_118 (c_J15_checkIndex_7cf53 l hi hn) dJx4a65c_get_915e3_5 rfl rfl (fun _ => Nat.le_of_ble_eq_true rfl) ⟨Nat.le_of_ble_eq_true rfl, Nat.le_of_ble_eq_true rfl⟩ ⟨Nat.le_of_ble_eq_true rfl, Nat.le_of_ble_eq_true rfl⟩ (z_ri (fun x σ1 hx => ?_)) (z_nx)
  obtain ⟨rfl, rfl⟩ := hx
  refine z_pop C (by first | trivial | rfl) dJx4a65c_get_915e3_8 ?_
  refine z_aload_n (i := 0) C dJx4a65c_get_915e3_9 rfl rfl ?_
  refine z_iload_n (i := 1) C dJx4a65c_get_915e3_10 rfl rfl ?_
  refine z_callV C Y_Jx4a65c_elementData_915e3 V_Jx4a65c_elementData_915e3 ml_RJx4a65c_123 (c_Jx4a65c_elementData_915e3 l hh hi hn) dJx4a65c_get_915e3_11 rfl rfl (by first | assumption | rfl) ⟨_, _, rfl⟩ (fun _ => Nat.le_of_ble_eq_true rfl) ⟨Nat.le_of_ble_eq_true rfl, Nat.le_of_ble_eq_true rfl⟩ ⟨Nat.le_of_ble_eq_true rfl, Nat.le_of_ble_eq_true rfl⟩ (z_rr (fun x σ1 hx => ?_)) (z_nx)
  obtain ⟨rfl, rfl⟩ := hx
  exact z_aret C hr (Or.inl ⟨_, rfl⟩) ⟨some _, rfl⟩ dJx4a65c_get_915e3_14 (Nat.le_of_ble_eq_true rfl) (Nat.le_of_ble_eq_true rfl) ⟨_, rfl, rfl, rfl⟩
end
section
/-! lists: writes -/
theorem z_keyne {σ : zHp} {k g : Nat} {q : zK} {c : zCell} (h0 : σ k g = none) (h2 : σ q.1 q.2 = some c) : ¬ (q.1 = k ∧ q.2 = g) := fun e => by
  rw [e.1, e.2, h0] at h2
  cases h2
theorem z_shr1 {n : Nat} (h : n < 2 ^ 31) : nI n >>> ((1 : Int32) &&& 31) = nI (n / 2) := by
  have k := pk_shrN h ((1 : Int32) &&& 31) 1 (by decide)
  rw [Nat.pow_one] at k
  exact k
set_option maxRecDepth 100000 in
set_option maxHeartbeats 4000000 in
theorem c_J8_newLength_cabcc {X : zX} (l : Launch) {σ : zHp} {a b d : Nat} {x y z : Int32} (hx : x = nI a) (hy : y = nI b) (hz : z = nI d) (ha : a ≤ 1000) (hb : b ≤ 1000) (hd : d ≤ 1000) (h0 : 0 < a + max b d) : zM X l yJ8_newLength_cabcc cJ8_newLength_cabcc 4 (some .int) 1 0 0 [aI x, aI y, aI z] σ (zPi (fun r σ1 => r = nI (a + max b d) ∧ σ1 = σ)) zNx := by
  subst hx hy hz
  refine zM.of (by decide +kernel) (Nat.le_of_ble_eq_true rfl) (by simp [zcat, Value.category]) ?_
  intro p e s m args below meth c loc0 C hr hnm hT
  refine z_iload_n (i := 0) C dJ8_newLength_cabcc_0 rfl rfl ?_
  refine z_iload_n (i := 1) C dJ8_newLength_cabcc_1 rfl rfl ?_
  refine z_iload_n (i := 2) C dJ8_newLength_cabcc_2 rfl rfl ?_
  refine z_mmax C dJ8_newLength_cabcc_3 ⟨ml_RJ8_194, sm_Lib_Math_max_name, ini_Math, co_Lib_Math_max_name⟩ ⟨Nat.le_of_ble_eq_true rfl, Nat.le_of_ble_eq_true rfl, Nat.zero_le _, Nat.zero_le _⟩ (fun _ => Nat.le_of_ble_eq_true rfl) ?_
  rw [show (if nI b < nI d then nI d else nI b) = nI (max b d) by
    by_cases hlt : b < d
    · rw [if_pos (nI_lt hlt (by omega)), Nat.max_eq_right (by omega)]
    · rw [if_neg (nI_nlt (by omega) (by omega)), Nat.max_eq_left (by omega)]]
  refine z_iadd C dJ8_newLength_cabcc_6 ?_
  rw [nI_add]
  refine z_istore_n (i := 3) C dJ8_newLength_cabcc_7 rfl (by decide) ?_
  refine z_iconst (v := 0) C dJ8_newLength_cabcc_8 (by decide) ?_
  refine z_iload_n (i := 3) C dJ8_newLength_cabcc_9 rfl rfl ?_
  refine z_icmp_ge (tgt := 21) C dJ8_newLength_cabcc_10 (by decide) (fun h10 => ?_) (fun h10 => ?_)
  · exact absurd h10 (nI_nle (by omega) (by omega))
  · refine z_iload_n (i := 3) C dJ8_newLength_cabcc_13 rfl rfl ?_
    refine z_ldc C dJ8_newLength_cabcc_14 kc_RJ8_200 ?_
    refine z_icmp_gt (tgt := 21) C dJ8_newLength_cabcc_16 (by decide) (fun h16 => ?_) (fun h16 => ?_)
    · exact absurd h16 (show ¬ nI 2147483639 < nI (a + max b d) from nI_nlt (by omega) (by decide))
    · refine z_iload_n (i := 3) C dJ8_newLength_cabcc_19 rfl rfl ?_
      exact z_iret C hr rfl dJ8_newLength_cabcc_20 (Nat.le_of_ble_eq_true rfl) (Nat.le_of_ble_eq_true rfl) ⟨_, rfl, rfl, rfl⟩

set_option maxRecDepth 100000 in
set_option maxHeartbeats 4000000 in
theorem c_J7_copyOf_6403c {X : zX} (l : Launch) {σ : zHp} {q : zK} {n N k g : Nat} {f : Nat → Option zK} (h2 : σ q.1 q.2 = some (rC n f)) (h0 : σ k g = none) (hk : k < 90) (hN : n ≤ N) (hb : N ≤ 60) (hel : ∀ i, i < n → ∀ y, f i = some y → ∃ ci fs, σ y.1 y.2 = some (oC ci fs) ∧ zElt ci) : zM X l yJ7_copyOf_6403c cJ7_copyOf_6403c 4 (some (.array (.object "java/lang/Object"))) 2 1 60 [.inr q, aI (nI N), .inl (.ref X.2.2.2.2.2)] σ (zPr (fun r σ1 => r = (k, g) ∧ ∃ f1, σ1 = zput (zput σ k g (rC N (fun _ => none))) k g (rC N f1) ∧ ∀ i, i < n → f1 i = f i)) zNx := by
  refine zM.of (by decide +kernel) (Nat.le_of_ble_eq_true rfl) (by simp [zcat, Value.category]) ?_
  intro p e s m args below meth c loc0 C hr hnm hT
  refine z_aload_nQ (i := 2) C dJ7_copyOf_6403c_0 rfl rfl ?_
  refine z_ldcM C dJ7_copyOf_6403c_1 kl_RJ7_110 ?_
  refine z_acmp_neM (tgt := 13) C dJ7_copyOf_6403c_3 (by decide) ?_
  refine z_iload_n (i := 1) C dJ7_copyOf_6403c_6 rfl rfl ?_
  refine z_anew (N := N) C k g dJ7_copyOf_6403c_7 kl_RJ7_2 hk h0 (nI_pos (by omega)) (nI_clamp (by omega)) (by omega) ⟨Nat.le_of_ble_eq_true rfl, by show 0 + N ≤ 60; omega⟩ ?_
  refine z_goto (tgt := 24) C dJ7_copyOf_6403c_10 (by decide) ?_
  refine z_astore_n (i := 3) C dJ7_copyOf_6403c_24 rfl (by decide) ?_
  refine z_aload_n (i := 0) C dJ7_copyOf_6403c_25 rfl rfl ?_
  refine z_iconst (v := 0) C dJ7_copyOf_6403c_26 (by decide) ?_
  refine z_aload_n (i := 3) C dJ7_copyOf_6403c_27 rfl rfl ?_
  refine z_iconst (v := 0) C dJ7_copyOf_6403c_28 (by decide) ?_
  refine z_aload_n (i := 0) C dJ7_copyOf_6403c_29 rfl rfl ?_
  have h2' : zput σ k g (rC N (fun _ => none)) q.1 q.2 = some (rC n f) := by rw [zput_n (z_keyne h0 h2)]; exact h2
  refine z_alenA C dJ7_copyOf_6403c_30 h2' ?_
  refine z_iload_n (i := 1) C dJ7_copyOf_6403c_31 rfl rfl ?_
  refine z_mmin C dJ7_copyOf_6403c_32 ⟨ml_RJ7_304, sm_Lib_Math_min_name, ini_Math, co_Lib_Math_min_name⟩ ⟨Nat.le_of_ble_eq_true rfl, Nat.le_of_ble_eq_true rfl, Nat.le_of_ble_eq_true rfl, by show 0 + N ≤ 60; omega⟩ (fun _ => Nat.le_of_ble_eq_true rfl) ?_
  rw [if_neg (nI_nlt hN (by omega))]
  have e0 : (0 : Int32).toNatClampNeg = 0 := by decide
  have en : (nI n).toNatClampNeg = n := nI_clamp (by omega)
  refine z_copy C dJ7_copyOf_6403c_35 ml_RJ7_150 na_arraycopyName sm_arraycopyName ini_System h2' (zput_s _ _ _ _) hk (by decide) (by decide) (nI_pos (by omega)) (by rw [e0, en]; omega) (by rw [e0, en]; omega) (fun i hi y hy => ?_) (Nat.le_of_ble_eq_true rfl) ⟨fun _ => Nat.le_of_ble_eq_true rfl, Nat.le_of_ble_eq_true rfl⟩ (by decide +kernel) ?_
  · rw [e0, Nat.zero_add] at hy
    rw [en] at hi
    obtain ⟨ci, fs, g1, g2⟩ := hel i hi y hy
    exact ⟨ci, fs, by rw [zput_n (z_keyne h0 g1)]; exact g1, g2⟩
  rw [e0, en]
  refine z_aload_n (i := 3) C dJ7_copyOf_6403c_38 rfl rfl ?_
  exact z_aret C hr (Or.inr ⟨_, rfl⟩) ⟨some _, rfl⟩ dJ7_copyOf_6403c_39 (Nat.le_of_ble_eq_true rfl) (by show 0 + N ≤ 60; omega) ⟨_, rfl, rfl, _, rfl, fun i hi => by simp [va_cpy, hi]⟩

set_option maxRecDepth 100000 in
set_option maxHeartbeats 4000000 in
theorem c_J7_copyOf_1904c {X : zX} (l : Launch) {σ : zHp} {q : zK} {n N k g : Nat} {f : Nat → Option zK} (h2 : σ q.1 q.2 = some (rC n f)) (h0 : σ k g = none) (hk : k < 90) (hN : n ≤ N) (hb : N ≤ 60) (hel : ∀ i, i < n → ∀ y, f i = some y → ∃ ci fs, σ y.1 y.2 = some (oC ci fs) ∧ zElt ci) : zM X l yJ7_copyOf_1904c cJ7_copyOf_1904c 2 (some (.array (.object "java/lang/Object"))) 3 1 60 [.inr q, aI (nI N)] σ (zPr (fun r σ1 => r = (k, g) ∧ ∃ f1, σ1 = zput (zput σ k g (rC N (fun _ => none))) k g (rC N f1) ∧ ∀ i, i < n → f1 i = f i)) zNx := by
  refine zM.of (by decide +kernel) (Nat.le_of_ble_eq_true rfl) (by simp [zcat, Value.category]) ?_
  intro p e s m args below meth c loc0 C hr hnm hT
  refine z_aload_n (i := 0) C dJ7_copyOf_1904c_0 rfl rfl ?_
  refine z_iload_n (i := 1) C dJ7_copyOf_1904c_1 rfl rfl ?_
  refine z_aload_n (i := 0) C dJ7_copyOf_1904c_2 rfl rfl ?_
  refine z_getC C dJ7_copyOf_1904c_3 ⟨ml_RJ7_86, se_getClass, im_Object__, na_Object__⟩ h2 ⟨Nat.le_of_ble_eq_true rfl, Nat.le_of_ble_eq_true rfl⟩ (fun _ => Nat.le_of_ble_eq_true rfl) ?_
  refine z_callS C Y_J7_copyOf_6403c sm_yJ7_copyOf_6403c ml_RJ7_300 (c_J7_copyOf_6403c l h2 h0 hk hN hb hel) dJ7_copyOf_1904c_6 rfl rfl (fun _ => Nat.le_of_ble_eq_true rfl) ⟨Nat.le_of_ble_eq_true rfl, Nat.le_of_ble_eq_true rfl⟩ ⟨Nat.le_of_ble_eq_true rfl, Nat.le_of_ble_eq_true rfl⟩ (z_rr (fun x σ1 hx => ?_)) (z_nx)
  obtain ⟨rfl, f1, rfl, hf1⟩ := hx
  exact z_aret C hr (Or.inr ⟨_, rfl⟩) ⟨some _, rfl⟩ dJ7_copyOf_1904c_9 (Nat.le_of_ble_eq_true rfl) (Nat.le_of_ble_eq_true rfl) ⟨_, rfl, rfl, _, rfl, hf1⟩

set_option maxRecDepth 100000 in
set_option maxHeartbeats 4000000 in
theorem c_Jx4a65c_grow_92f84 {X : zX} (l : Launch) {σ : zHp} {j n : Nat} {mc : Int32} {q : zK} {f : Nat → Option zK} (h1 : σ 1 j = some (oC 2 [aI mc, .inr q, aI (nI n)])) (h2 : σ q.1 q.2 = some (rC n f)) (hq : (q = (90, 0) ∧ n = 0) ∨ (q.1 = 20 + j ∧ 10 ≤ n)) (hfr : ∀ g, (q = (90, 0) ∨ q.2 < g) → σ (20 + j) g = none) (hj : j < 6) (hn : n ≤ 40) (hel : ∀ i, i < n → ∀ y, f i = some y → ∃ ci fs, σ y.1 y.2 = some (oC ci fs) ∧ zElt ci) : zM X l yJx4a65c_grow_92f84 cJx4a65c_grow_92f84 4 (some (.array (.object "java/lang/Object"))) 4 1 60 [aR 1 j, aI (nI (n + 1))] σ (zPr (fun r σ1 => r = (20 + j, q.2 + 1) ∧ σ1 1 j = some (oC 2 [aI mc, aR (20 + j) (q.2 + 1), aI (nI n)]) ∧ (∃ cap f1, σ1 (20 + j) (q.2 + 1) = some (rC cap f1) ∧ n + 1 ≤ cap ∧ 10 ≤ cap ∧ (cap ≤ 10 ∨ (10 ≤ n ∧ 2 * cap ≤ 3 * n)) ∧ ∀ i, i < n → f1 i = f i) ∧ ∀ a b, ¬ (a = 1 ∧ b = j) → ¬ (a = 20 + j ∧ b = q.2 + 1) → σ1 a b = σ a b)) zNx := by
  have hf0 : σ (20 + j) (q.2 + 1) = none := hfr _ (Or.inr (by omega))
  refine zM.of (by decide +kernel) (Nat.le_of_ble_eq_true rfl) (by simp [zcat, Value.category]) ?_
  intro p e s m args below meth c loc0 C hr hnm hT
  refine z_aload_n (i := 0) C dJx4a65c_grow_92f84_0 rfl rfl ?_
  refine z_getf C f_RJx4a65c_9 dJx4a65c_grow_92f84_1 (by first | assumption | rfl) rfl ?_
  refine z_alenA C dJx4a65c_grow_92f84_4 h2 ?_
  refine z_istore_n (i := 2) C dJx4a65c_grow_92f84_5 rfl (by decide) ?_
  refine z_iload_n (i := 2) C dJx4a65c_grow_92f84_6 rfl rfl ?_
  refine z_if_gt (tgt := 20) C dJx4a65c_grow_92f84_7 (by decide) (fun h7 => ?_) (fun h7 => ?_)
  · have hn0 : 10 ≤ n := by
      rcases hq with ⟨-, rfl⟩ | ⟨-, h⟩
      · exact absurd h7 (by decide)
      · exact h
    have hq1 : 20 + j < 90 := by omega
    refine z_iload_n (i := 2) C dJx4a65c_grow_92f84_20 rfl rfl ?_
    refine z_iload_n (i := 1) C dJx4a65c_grow_92f84_21 rfl rfl ?_
    refine z_iload_n (i := 2) C dJx4a65c_grow_92f84_22 rfl rfl ?_
    refine z_isub C dJx4a65c_grow_92f84_23 ?_
    rw [show nI (n + 1) - nI n = nI 1 by rw [pk_sub (by omega)]; congr 1; omega]
    refine z_iload_n (i := 2) C dJx4a65c_grow_92f84_24 rfl rfl ?_
    refine z_iconst (v := 1) C dJx4a65c_grow_92f84_25 (by decide) ?_
    refine z_ishr C dJx4a65c_grow_92f84_26 ?_
    rw [z_shr1 (by omega)]
    refine z_callS C Y_J8_newLength_cabcc sm_yJ8_newLength_cabcc ml_RJx4a65c_73 (c_J8_newLength_cabcc l rfl rfl rfl (by omega) (by omega) (by omega) (by omega)) dJx4a65c_grow_92f84_27 rfl rfl (fun _ => Nat.le_of_ble_eq_true rfl) ⟨Nat.le_of_ble_eq_true rfl, Nat.le_of_ble_eq_true rfl⟩ ⟨Nat.le_of_ble_eq_true rfl, Nat.le_of_ble_eq_true rfl⟩ (z_ri (fun x σ1 hx => ?_)) (z_nx)
    obtain ⟨rfl, rfl⟩ := hx
    have hmx : max 1 (n / 2) = n / 2 := Nat.max_eq_right (by omega)
    rw [hmx]
    refine z_istore_n (i := 3) C dJx4a65c_grow_92f84_30 rfl (by decide) ?_
    refine z_aload_n (i := 0) C dJx4a65c_grow_92f84_31 rfl rfl ?_
    refine z_aload_n (i := 0) C dJx4a65c_grow_92f84_32 rfl rfl ?_
    refine z_getf C f_RJx4a65c_9 dJx4a65c_grow_92f84_33 (by first | assumption | rfl) rfl ?_
    refine z_iload_n (i := 3) C dJx4a65c_grow_92f84_36 rfl rfl ?_
    refine z_callS C Y_J7_copyOf_1904c sm_yJ7_copyOf_1904c ml_RJx4a65c_66 (c_J7_copyOf_1904c l h2 hf0 (by omega : 20 + j < 90) (by omega : n ≤ n + n / 2) (by omega) hel) dJx4a65c_grow_92f84_37 rfl rfl (fun _ => Nat.le_of_ble_eq_true rfl) ⟨Nat.le_of_ble_eq_true rfl, Nat.le_of_ble_eq_true rfl⟩ ⟨Nat.le_of_ble_eq_true rfl, Nat.le_of_ble_eq_true rfl⟩ (z_rr (fun x σ1 hx => ?_)) (z_nx)
    obtain ⟨rfl, f1, rfl, hf1⟩ := hx
    refine z_dup_x1 C trivial trivial dJx4a65c_grow_92f84_40 ?_
    have h1' : zput (zput σ1 (20 + j) (q.2 + 1) (rC (n + n / 2) (fun _ => none))) (20 + j) (q.2 + 1) (rC (n + n / 2) f1) 1 j = some (oC 2 [aI mc, .inr q, aI (nI n)]) := by
      rw [zput_n (by omega), zput_n (by omega)]; exact h1
    refine z_putf C fp_RJx4a65c_9 dJx4a65c_grow_92f84_41 h1' (by decide) (Nat.le_of_ble_eq_true rfl) (fun _ => ⟨rfl, rfl⟩) ?_
    exact z_aret C hr (Or.inr ⟨_, rfl⟩) ⟨some _, rfl⟩ dJx4a65c_grow_92f84_44 (Nat.le_of_ble_eq_true rfl) (Nat.le_of_ble_eq_true rfl) ⟨_, rfl, rfl, zput_s _ _ _ _, ⟨n + n / 2, f1, by rw [zput_n (by omega)]; exact zput_s _ _ _ _, by omega, by omega, by omega, hf1⟩, fun a b ha hb => by rw [zput_n ha, zput_n hb, zput_n hb]⟩
  · refine z_aload_n (i := 0) C dJx4a65c_grow_92f84_10 rfl rfl ?_
    refine z_getf C f_RJx4a65c_9 dJx4a65c_grow_92f84_11 (by first | assumption | rfl) rfl ?_
    obtain ⟨rfl, rfl⟩ : q = (90, 0) ∧ n = 0 := by
      rcases hq with h | ⟨-, h⟩
      · exact h
      · exact absurd (nI_lt (a := 0) (by omega) (by omega)) h7
    refine z_getsA C fl_RJx4a65c_39 dJx4a65c_grow_92f84_14 ?_
    refine z_acmp_eq (o := some (90, 0)) (o' := some (90, 0)) (tgt := 45) C dJx4a65c_grow_92f84_17 (by decide) (fun _ => ?_) (fun h => absurd rfl h)
    refine z_aload_n (i := 0) C dJx4a65c_grow_92f84_45 rfl rfl ?_
    refine z_bipush (v := 10) C dJx4a65c_grow_92f84_46 (by decide) ?_
    refine z_iload_n (i := 1) C dJx4a65c_grow_92f84_48 rfl rfl ?_
    refine z_mmax C dJx4a65c_grow_92f84_49 ⟨ml_RJx4a65c_79, sm_Lib_Math_max_name, ini_Math, co_Lib_Math_max_name⟩ ⟨Nat.le_of_ble_eq_true rfl, Nat.le_of_ble_eq_true rfl, Nat.zero_le _, Nat.zero_le _⟩ (fun _ => Nat.le_of_ble_eq_true rfl) ?_
    rw [if_neg (show ¬ (10 : Int32) < nI (0 + 1) by decide)]
    refine z_anew (N := 10) C (20 + j) (((90, 0) : zK).2 + 1) dJx4a65c_grow_92f84_52 kl_RJx4a65c_7 (by omega) hf0 (by decide) (by decide) (by omega) ⟨Nat.le_of_ble_eq_true rfl, Nat.le_of_ble_eq_true rfl⟩ ?_
    refine z_dup_x1 C trivial trivial dJx4a65c_grow_92f84_55 ?_
    refine z_putf C fp_RJx4a65c_9 dJx4a65c_grow_92f84_56 (by rw [zput_n (by omega)]; exact h1) (by decide) (Nat.le_of_ble_eq_true rfl) (fun _ => ⟨rfl, rfl⟩) ?_
    exact z_aret C hr (Or.inr ⟨_, rfl⟩) ⟨some _, rfl⟩ dJx4a65c_grow_92f84_59 (Nat.le_of_ble_eq_true rfl) (Nat.le_of_ble_eq_true rfl) ⟨_, rfl, rfl, zput_s _ _ _ _, ⟨10, _, by rw [zput_n (by omega)]; exact zput_s _ _ _ _, by omega, by omega, by omega, fun i hi => by omega⟩, fun a b ha hb => by rw [zput_n ha, zput_n hb]⟩

set_option maxRecDepth 100000 in
set_option maxHeartbeats 4000000 in
theorem c_Jx4a65c_grow_d5877 {X : zX} (l : Launch) {σ : zHp} {j n : Nat} {mc : Int32} {q : zK} {f : Nat → Option zK} (h1 : σ 1 j = some (oC 2 [aI mc, .inr q, aI (nI n)])) (h2 : σ q.1 q.2 = some (rC n f)) (hq : (q = (90, 0) ∧ n = 0) ∨ (q.1 = 20 + j ∧ 10 ≤ n)) (hfr : ∀ g, (q = (90, 0) ∨ q.2 < g) → σ (20 + j) g = none) (hj : j < 6) (hn : n ≤ 40) (hel : ∀ i, i < n → ∀ y, f i = some y → ∃ ci fs, σ y.1 y.2 = some (oC ci fs) ∧ zElt ci) : zM X l yJx4a65c_grow_d5877 cJx4a65c_grow_d5877 1 (some (.array (.object "java/lang/Object"))) 5 1 60 [aR 1 j] σ (zPr (fun r σ1 => r = (20 + j, q.2 + 1) ∧ σ1 1 j = some (oC 2 [aI mc, aR (20 + j) (q.2 + 1), aI (nI n)]) ∧ (∃ cap f1, σ1 (20 + j) (q.2 + 1) = some (rC cap f1) ∧ n + 1 ≤ cap ∧ 10 ≤ cap ∧ (cap ≤ 10 ∨ (10 ≤ n ∧ 2 * cap ≤ 3 * n)) ∧ ∀ i, i < n → f1 i = f i) ∧ ∀ a b, ¬ (a = 1 ∧ b = j) → ¬ (a = 20 + j ∧ b = q.2 + 1) → σ1 a b = σ a b)) zNx := by
  refine zM.of (by decide +kernel) (Nat.le_of_ble_eq_true rfl) (by simp [zcat, Value.category]) ?_
  intro p e s m args below meth c loc0 C hr hnm hT
  refine z_aload_n (i := 0) C dJx4a65c_grow_d5877_0 rfl rfl ?_
  refine z_aload_n (i := 0) C dJx4a65c_grow_d5877_1 rfl rfl ?_
  refine z_getf C f_RJx4a65c_48 dJx4a65c_grow_d5877_2 (by first | assumption | rfl) rfl ?_
  refine z_iconst (v := 1) C dJx4a65c_grow_d5877_5 (by decide) ?_
  refine z_iadd C dJx4a65c_grow_d5877_6 ?_
  rw [nI_1]
  refine z_callV C Y_Jx4a65c_grow_92f84 V_Jx4a65c_grow_92f84 ml_RJx4a65c_69 (c_Jx4a65c_grow_92f84 l h1 h2 hq hfr hj hn hel) dJx4a65c_grow_d5877_7 rfl rfl (by first | assumption | rfl) ⟨_, _, rfl⟩ (fun _ => Nat.le_of_ble_eq_true rfl) ⟨Nat.le_of_ble_eq_true rfl, Nat.le_of_ble_eq_true rfl⟩ ⟨Nat.le_of_ble_eq_true rfl, Nat.le_of_ble_eq_true rfl⟩ (z_rr (fun x σ1 hx => ?_)) (z_nx)
  obtain ⟨rfl, hx⟩ := hx
  exact z_aret C hr (Or.inr ⟨_, rfl⟩) ⟨some _, rfl⟩ dJx4a65c_grow_d5877_10 (Nat.le_of_ble_eq_true rfl) (Nat.le_of_ble_eq_true rfl) ⟨_, rfl, rfl, hx⟩
end
section
/-! lists: add, remove, the empty list -/
def zLf (σ σ1 : zHp) (j : Nat) : Prop := ∀ a b, ¬ (a = 1 ∧ b = j) → a ≠ 20 + j → σ1 a b = σ a b
theorem zLs_push {σ1 : zHp} {j n g cap : Nat} {mc : Int32} {f : Nat → Option zK} {el : Nat → zK} (h1 : σ1 1 j = some (oC 2 [aI mc, aR (20 + j) g, aI (nI n)])) (h2 : σ1 (20 + j) g = some (rC cap f)) (hn : n ≤ cap) (hf : ∀ i, i < n → f i = some (el i)) (hc : 10 ≤ cap) (hfr : ∀ g', g < g' → σ1 (20 + j) g' = none) (hcap : cap ≤ 10 ∨ (10 < n ∧ 2 * cap ≤ 3 * n)) (hj : j < 6) : zLs σ1 j n el :=
  ⟨mc, (20 + j, g), cap, f, h1, h2, hn, hf, Or.inr ⟨rfl, hc⟩, fun g' h => by
    rcases h with h | h
    · have := (Prod.mk.inj h).1
      omega
    · exact hfr g' h, hcap, hj⟩
set_option maxRecDepth 100000 in
set_option maxHeartbeats 4000000 in
theorem c_Jx4a65c_add_72be8 {X : zX} (l : Launch) {σ : zHp} {j n cap : Nat} {mc : Int32} {q v : zK} {ci : Nat} {fs : List zV} {f : Nat → Option zK} {el : Nat → zK} (h1 : σ 1 j = some (oC 2 [aI mc, .inr q, aI (nI n)])) (h2 : σ q.1 q.2 = some (rC cap f)) (h3 : n ≤ cap) (h4 : ∀ i, i < n → f i = some (el i)) (h5 : (q = (90, 0) ∧ cap = 0) ∨ (q.1 = 20 + j ∧ 10 ≤ cap)) (h6 : ∀ g, (q = (90, 0) ∨ q.2 < g) → σ (20 + j) g = none) (h7 : cap ≤ 10 ∨ (10 < n ∧ 2 * cap ≤ 3 * n)) (hj : j < 6) (hn : n ≤ 39) (hel : ∀ i, i < n → ∃ ci fs, σ (el i).1 (el i).2 = some (oC ci fs) ∧ zElt ci) (hv : σ v.1 v.2 = some (oC ci fs)) (hci : zElt ci) (hv1 : ¬ (v.1 = 1 ∧ v.2 = j)) : zM X l yJx4a65c_add_72be8 cJx4a65c_add_72be8 4 none 6 1 60 [aR 1 j, .inr v, .inr q, aI (nI n)] σ (zPv (fun σ1 => zLs σ1 j (n + 1) (va_up el n v) ∧ zLf σ σ1 j)) zNx := by
  refine zM.of (by decide +kernel) (Nat.le_of_ble_eq_true rfl) (by simp [zcat, Value.category]) ?_
  intro p e s m args below meth c loc0 C hr hnm hT
  refine z_iload_n (i := 3) C dJx4a65c_add_72be8_0 rfl rfl ?_
  refine z_aload_n (i := 2) C dJx4a65c_add_72be8_1 rfl rfl ?_
  refine z_alenA C dJx4a65c_add_72be8_2 h2 ?_
  have hcb : cap < 2 ^ 31 := by omega
  refine z_icmp_ne (tgt := 11) C dJx4a65c_add_72be8_3 (by decide) (fun h3x => ?_) (fun h3x => ?_)
  · have hlt : n < cap := by
      have : n ≠ cap := fun e => h3x (by rw [e])
      omega
    obtain ⟨hq1, hc10⟩ : q.1 = 20 + j ∧ 10 ≤ cap := by
      rcases h5 with ⟨-, h⟩ | h
      · omega
      · exact h
    obtain ⟨q1, q2⟩ := q
    obtain rfl : q1 = 20 + j := hq1
    refine z_aload_n (i := 2) C dJx4a65c_add_72be8_11 rfl rfl ?_
    refine z_iload_n (i := 3) C dJx4a65c_add_72be8_12 rfl rfl ?_
    refine z_aload_n (i := 1) C dJx4a65c_add_72be8_13 rfl rfl ?_
    have hin : vp_in (nI n) cap := vp_in_nI (by omega) (by omega)
    refine z_aast C dJx4a65c_add_72be8_14 h2 (by omega) hin hv hci ?_
    rw [nI_clamp (by omega)]
    refine z_aload_n (i := 0) C dJx4a65c_add_72be8_15 rfl rfl ?_
    refine z_iload_n (i := 3) C dJx4a65c_add_72be8_16 rfl rfl ?_
    refine z_iconst (v := 1) C dJx4a65c_add_72be8_17 (by decide) ?_
    refine z_iadd C dJx4a65c_add_72be8_18 ?_
    rw [nI_1]
    refine z_putf C fp_RJx4a65c_48 dJx4a65c_add_72be8_19 (by rw [zput_n (by omega)]; exact h1) (by decide) (Nat.le_of_ble_eq_true rfl) (fun _ => ⟨rfl, rfl⟩) ?_
    refine z_vret C hr dJx4a65c_add_72be8_22 (Nat.le_of_ble_eq_true rfl) (Nat.le_of_ble_eq_true rfl) ⟨rfl, zLs_push (g := q2) (cap := cap) (f := va_up f n (some v)) (mc := mc) (zput_s _ _ _ _) (by rw [zput_n (by omega)]; exact zput_s _ _ _ _) (by omega) (fun i hi => ?_) hc10 (fun g' hg => ?_) (by omega) hj, fun a b ha hb => by rw [zput_n ha, zput_n (fun h => hb h.1)]⟩
    · unfold va_up
      by_cases e9 : i = n
      · rw [if_pos e9, if_pos e9]
      · rw [if_neg e9, if_neg e9]; exact h4 i (by omega)
    · rw [zput_n (by omega), zput_n (by omega)]
      exact h6 g' (Or.inr hg)
  · have hcn : n = cap := (nI_eq (by omega) hcb).mp h3x
    refine z_aload_n (i := 0) C dJx4a65c_add_72be8_6 rfl rfl ?_
    refine z_callV C Y_Jx4a65c_grow_d5877 V_Jx4a65c_grow_d5877 ml_RJx4a65c_129 (c_Jx4a65c_grow_d5877 l h1 (by rw [← hcn] at h2; exact h2) (by rcases h5 with ⟨a, b⟩ | ⟨a, b⟩; exact Or.inl ⟨a, by omega⟩; exact Or.inr ⟨a, by omega⟩) h6 hj (by omega) (fun i hi y hy => by rw [h4 i hi] at hy; cases hy; exact hel i hi)) dJx4a65c_add_72be8_7 rfl rfl h1 ⟨_, _, rfl⟩ (fun _ => Nat.le_of_ble_eq_true rfl) ⟨Nat.le_of_ble_eq_true rfl, Nat.le_of_ble_eq_true rfl⟩ ⟨Nat.le_of_ble_eq_true rfl, Nat.le_of_ble_eq_true rfl⟩ (z_rr (fun x σ1 hx => ?_)) (z_nx)
    obtain ⟨rfl, g1, ⟨cap1, f1, g2, g3, g4, g5, g6⟩, g7⟩ := hx
    have hvv : σ1 v.1 v.2 = some (oC ci fs) := by
      rw [g7 _ _ hv1 (fun e => by rw [e.1, e.2, h6 _ (Or.inr (by omega))] at hv; cases hv)]; exact hv
    refine z_astore_n (i := 2) C dJx4a65c_add_72be8_10 rfl (by decide) ?_
    refine z_aload_n (i := 2) C dJx4a65c_add_72be8_11 rfl rfl ?_
    refine z_iload_n (i := 3) C dJx4a65c_add_72be8_12 rfl rfl ?_
    refine z_aload_n (i := 1) C dJx4a65c_add_72be8_13 rfl rfl ?_
    have hin : vp_in (nI n) cap1 := vp_in_nI (by omega) (by omega)
    refine z_aast C dJx4a65c_add_72be8_14 g2 (by omega) hin hvv hci ?_
    rw [nI_clamp (by omega)]
    refine z_aload_n (i := 0) C dJx4a65c_add_72be8_15 rfl rfl ?_
    refine z_iload_n (i := 3) C dJx4a65c_add_72be8_16 rfl rfl ?_
    refine z_iconst (v := 1) C dJx4a65c_add_72be8_17 (by decide) ?_
    refine z_iadd C dJx4a65c_add_72be8_18 ?_
    rw [nI_1]
    refine z_putf C fp_RJx4a65c_48 dJx4a65c_add_72be8_19 (by rw [zput_n (by omega)]; exact g1) (by decide) (Nat.le_of_ble_eq_true rfl) (fun _ => ⟨rfl, rfl⟩) ?_
    refine z_vret C hr dJx4a65c_add_72be8_22 (Nat.le_of_ble_eq_true rfl) (Nat.le_of_ble_eq_true rfl) ⟨rfl, zLs_push (g := q.2 + 1) (cap := cap1) (f := va_up f1 n (some v)) (mc := mc) (zput_s _ _ _ _) (by rw [zput_n (by omega)]; exact zput_s _ _ _ _) (by omega) (fun i hi => ?_) g4 (fun g' hg => ?_) (by omega) hj, fun a b ha hb => by rw [zput_n ha, zput_n (fun h => hb h.1), g7 a b ha (fun h => hb h.1)]⟩
    · unfold va_up
      by_cases e9 : i = n
      · rw [if_pos e9, if_pos e9]
      · rw [if_neg e9, if_neg e9, g6 i (by omega)]; exact h4 i (by omega)
    · rw [zput_n (by omega), zput_n (by omega), g7 _ _ (by omega) (by omega)]
      exact h6 g' (Or.inr (by omega))

set_option maxRecDepth 100000 in
set_option maxHeartbeats 4000000 in
theorem c_Jx4a65c_add_9ea2d {X : zX} (l : Launch) {σ : zHp} {j n : Nat} {v : zK} {ci : Nat} {fs : List zV} {el : Nat → zK} (h : zLs σ j n el) (hn : n ≤ 39) (hel : ∀ i, i < n → ∃ ci fs, σ (el i).1 (el i).2 = some (oC ci fs) ∧ zElt ci) (hv : σ v.1 v.2 = some (oC ci fs)) (hci : zElt ci) (hv1 : ¬ (v.1 = 1 ∧ v.2 = j)) (he1 : ∀ i, i < n → ¬ ((el i).1 = 1 ∧ (el i).2 = j)) : zM X l yJx4a65c_add_9ea2d cJx4a65c_add_9ea2d 2 (some .boolean) 7 1 60 [aR 1 j, .inr v] σ (zPi (fun r σ1 => r = 1 ∧ zLs σ1 j (n + 1) (va_up el n v) ∧ zLf σ σ1 j)) zNx := by
  obtain ⟨mc, q, cap, f, h1, h2, h3, h4, h5, h6, h7, h8⟩ := h
  refine zM.of (by decide +kernel) (Nat.le_of_ble_eq_true rfl) (by simp [zcat, Value.category]) ?_
  intro p e s m args below meth c loc0 C hr hnm hT
  refine z_aload_n (i := 0) C dJx4a65c_add_9ea2d_0 rfl rfl ?_
  refine z_dup C (by first | trivial | rfl) dJx4a65c_add_9ea2d_1 ?_
  refine z_getf C f_RJx4a65c_63 dJx4a65c_add_9ea2d_2 h1 rfl ?_
  refine z_iconst (v := 1) C dJx4a65c_add_9ea2d_5 (by decide) ?_
  refine z_iadd C dJx4a65c_add_9ea2d_6 ?_
  refine z_putf C fp_RJx4a65c_63 dJx4a65c_add_9ea2d_7 h1 (by decide) (Nat.le_of_ble_eq_true rfl) (fun _ => ⟨rfl, rfl⟩) ?_
  have hqj : ¬ (q.1 = 1 ∧ q.2 = j) := by
    rcases h5 with ⟨rfl, -⟩ | ⟨h, -⟩
    · exact fun h => absurd h.1 (by decide)
    · exact fun h => by omega
  refine z_aload_n (i := 0) C dJx4a65c_add_9ea2d_10 rfl rfl ?_
  refine z_aload_n (i := 1) C dJx4a65c_add_9ea2d_11 rfl rfl ?_
  refine z_aload_n (i := 0) C dJx4a65c_add_9ea2d_12 rfl rfl ?_
  refine z_getf C f_RJx4a65c_9 dJx4a65c_add_9ea2d_13 (zput_s _ _ _ _) rfl ?_
  refine z_aload_n (i := 0) C dJx4a65c_add_9ea2d_16 rfl rfl ?_
  refine z_getf C f_RJx4a65c_48 dJx4a65c_add_9ea2d_17 (zput_s _ _ _ _) rfl ?_
  refine z_callV C Y_Jx4a65c_add_72be8 V_Jx4a65c_add_72be8 ml_RJx4a65c_131 (c_Jx4a65c_add_72be8 (mc := mc + 1) (el := el) l (zput_s _ _ _ _) (by rw [zput_n hqj]; exact h2) h3 h4 h5 (fun g hg => by rw [zput_n (by omega)]; exact h6 g hg) h7 h8 hn (fun i hi => by obtain ⟨ci, fs, a, b⟩ := hel i hi; exact ⟨ci, fs, by rw [zput_n (he1 i hi)]; exact a, b⟩) (by rw [zput_n hv1]; exact hv) hci hv1) dJx4a65c_add_9ea2d_20 rfl rfl (zput_s _ _ _ _) ⟨_, _, rfl⟩ (fun _ => Nat.le_of_ble_eq_true rfl) ⟨Nat.le_of_ble_eq_true rfl, Nat.le_of_ble_eq_true rfl⟩ ⟨Nat.le_of_ble_eq_true rfl, Nat.le_of_ble_eq_true rfl⟩ (z_rv (fun σ1 hx => ?_)) (z_nx)
  obtain ⟨hx1, hx2⟩ := hx
  refine z_iconst (v := 1) C dJx4a65c_add_9ea2d_23 (by decide) ?_
  exact z_iret C hr rfl dJx4a65c_add_9ea2d_24 (Nat.le_of_ble_eq_true rfl) (Nat.le_of_ble_eq_true rfl) ⟨_, rfl, rfl, hx1, fun a b ha hb => by rw [hx2 a b ha hb, zput_n ha]⟩

set_option maxRecDepth 100000 in
set_option maxHeartbeats 4000000 in
theorem c_Jxa1e45_init_da8c8 {X : zX} (l : Launch) {σ : zHp} {q : zK} : zM X l yJxa1e45_init_da8c8 cJxa1e45_init_da8c8 1 none 1 0 0 [.inr q] σ (zPv (fun σ1 => σ1 = σ)) zNx := by
  refine zM.of (by decide +kernel) (Nat.le_of_ble_eq_true rfl) (by simp [zcat, Value.category]) ?_
  intro p e s m args below meth c loc0 C hr hnm hT
  refine z_aload_n (i := 0) C dJxa1e45_init_da8c8_0 rfl rfl ?_
  refine z_objI C ml_RJxa1e45_1 im_objectInit co_objectInit ⟨Nat.le_of_ble_eq_true rfl, Nat.le_of_ble_eq_true rfl⟩ (fun _ => Nat.le_of_ble_eq_true rfl) dJxa1e45_init_da8c8_1 ?_
  exact z_vret C hr dJxa1e45_init_da8c8_4 (Nat.le_of_ble_eq_true rfl) (Nat.le_of_ble_eq_true rfl) ⟨rfl, rfl⟩

set_option maxRecDepth 100000 in
set_option maxHeartbeats 4000000 in
theorem c_Jxc12de_init_da8c8 {X : zX} (l : Launch) {σ : zHp} {j : Nat} {mc : Int32} {a b : zV} (h1 : σ 1 j = some (oC 2 [aI mc, a, b])) : zM X l yJxc12de_init_da8c8 cJxc12de_init_da8c8 1 none 2 0 0 [aR 1 j] σ (zPv (fun σ1 => σ1 = zput σ 1 j (oC 2 [aI 0, a, b]))) zNx := by
  refine zM.of (by decide +kernel) (Nat.le_of_ble_eq_true rfl) (by simp [zcat, Value.category]) ?_
  intro p e s m args below meth c loc0 C hr hnm hT
  refine z_aload_n (i := 0) C dJxc12de_init_da8c8_0 rfl rfl ?_
  refine z_callI C Y_Jxa1e45_init_da8c8 im_yJxa1e45_init_da8c8 rfl ml_RJxc12de_1 (c_Jxa1e45_init_da8c8 (q := (1, j)) l) dJxc12de_init_da8c8_1 rfl rfl (fun _ => Nat.le_of_ble_eq_true rfl) ⟨Nat.le_of_ble_eq_true rfl, Nat.le_of_ble_eq_true rfl⟩ ⟨Nat.le_of_ble_eq_true rfl, Nat.le_of_ble_eq_true rfl⟩ (z_rv (fun σ1 hx => ?_)) (z_nx)
  subst hx
  refine z_aload_n (i := 0) C dJxc12de_init_da8c8_4 rfl rfl ?_
  refine z_iconst (v := 0) C dJxc12de_init_da8c8_5 (by decide) ?_
  refine z_putf C fp_RJxc12de_7 dJxc12de_init_da8c8_6 h1 (by decide) (Nat.le_of_ble_eq_true rfl) (fun _ => ⟨rfl, rfl⟩) ?_
  exact z_vret C hr dJxc12de_init_da8c8_9 (Nat.le_of_ble_eq_true rfl) (Nat.le_of_ble_eq_true rfl) ⟨rfl, rfl⟩

set_option maxRecDepth 100000 in
set_option maxHeartbeats 4000000 in
theorem c_Jx4a65c_init_da8c8 {X : zX} (l : Launch) {σ : zHp} {j : Nat} (h1 : σ 1 j = some (oC 2 [aI 0, aN, aI 0])) : zM X l yJx4a65c_init_da8c8 cJx4a65c_init_da8c8 1 none 3 0 0 [aR 1 j] σ (zPv (fun σ1 => σ1 1 j = some (oC 2 [aI 0, aR 90 0, aI 0]) ∧ ∀ a b, ¬ (a = 1 ∧ b = j) → σ1 a b = σ a b)) zNx := by
  refine zM.of (by decide +kernel) (Nat.le_of_ble_eq_true rfl) (by simp [zcat, Value.category]) ?_
  intro p e s m args below meth c loc0 C hr hnm hT
  refine z_aload_n (i := 0) C dJx4a65c_init_da8c8_0 rfl rfl ?_
  refine z_callI C Y_Jxc12de_init_da8c8 im_yJxc12de_init_da8c8 rfl ml_RJx4a65c_1 (c_Jxc12de_init_da8c8 l h1) dJx4a65c_init_da8c8_1 rfl rfl (fun _ => Nat.le_of_ble_eq_true rfl) ⟨Nat.le_of_ble_eq_true rfl, Nat.le_of_ble_eq_true rfl⟩ ⟨Nat.le_of_ble_eq_true rfl, Nat.le_of_ble_eq_true rfl⟩ (z_rv (fun σ1 hx => ?_)) (z_nx)
  subst hx
  refine z_aload_n (i := 0) C dJx4a65c_init_da8c8_4 rfl rfl ?_
  refine z_getsA C fl_RJx4a65c_39 dJx4a65c_init_da8c8_5 ?_
  refine z_putf C fp_RJx4a65c_9 dJx4a65c_init_da8c8_8 (zput_s _ _ _ _) (by decide) (Nat.le_of_ble_eq_true rfl) (fun _ => ⟨rfl, rfl⟩) ?_
  exact z_vret C hr dJx4a65c_init_da8c8_11 (Nat.le_of_ble_eq_true rfl) (Nat.le_of_ble_eq_true rfl) ⟨rfl, zput_s _ _ _ _, fun a b ha => by rw [zput_n ha, zput_n ha]⟩
end
section
/-! lists: add at a place, remove at a place -/
/-- the keys with v put in at place k; with the one at place k taken out -/
def zIns (el : Nat → zK) (k : Nat) (v : zK) : Nat → zK := fun i => if i < k then el i else if i = k then v else el (i - 1)
def zDel (el : Nat → zK) (k : Nat) : Nat → zK := fun i => if i < k then el i else el (i + 1)
set_option maxRecDepth 100000 in
set_option maxHeartbeats 4000000 in
theorem c_Jx4a65c_rangeCheckForAdd_d00df {X : zX} (l : Launch) {σ : zHp} {j n k : Nat} {a b : zV} (h1 : σ 1 j = some (oC 2 [a, b, aI (nI n)])) (hk : k ≤ n) (hn : n ≤ 1000) : zM X l yJx4a65c_rangeCheckForAdd_d00df cJx4a65c_rangeCheckForAdd_d00df 2 none 0 0 0 [aR 1 j, aI (nI k)] σ (zPv (fun σ1 => σ1 = σ)) zNx := by
  refine zM.of (by decide +kernel) (Nat.le_of_ble_eq_true rfl) (by simp [zcat, Value.category]) ?_
  intro p e s m args below meth c loc0 C hr hnm hT
  refine z_iload_n (i := 1) C dJx4a65c_rangeCheckForAdd_d00df_0 rfl rfl ?_
  refine z_aload_n (i := 0) C dJx4a65c_rangeCheckForAdd_d00df_1 rfl rfl ?_
  refine z_getf C f_RJx4a65c_48 dJx4a65c_rangeCheckForAdd_d00df_2 (by first | assumption | rfl) rfl ?_
  refine z_icmp_gt (tgt := 12) C dJx4a65c_rangeCheckForAdd_d00df_5 (by decide) (fun h5 => ?_) (fun h5 => ?_)
  · exact absurd h5 (nI_nlt hk (by omega))
  · refine z_iload_n (i := 1) C dJx4a65c_rangeCheckForAdd_d00df_8 rfl rfl ?_
    refine z_if_ge (tgt := 25) C dJx4a65c_rangeCheckForAdd_d00df_9 (by decide) (fun h9 => ?_) (fun h9 => ?_)
    · exact z_vret C hr dJx4a65c_rangeCheckForAdd_d00df_25 (Nat.le_of_ble_eq_true rfl) (Nat.le_of_ble_eq_true rfl) ⟨rfl, rfl⟩
    · exact absurd (nI_pos' (by omega)) h9

set_option maxRecDepth 100000 in
set_option maxHeartbeats 4000000 in
theorem c_Jx4a65c_add_7a177 {X : zX} (l : Launch) {σ : zHp} {j n k : Nat} {v : zK} {ci : Nat} {fs : List zV} {el : Nat → zK} (h : zLs σ j n el) (hn : n ≤ 39) (hk : k ≤ n) (hel : ∀ i, i < n → ∃ ci fs, σ (el i).1 (el i).2 = some (oC ci fs) ∧ zElt ci) (hv : σ v.1 v.2 = some (oC ci fs)) (hci : zElt ci) (hv1 : ¬ (v.1 = 1 ∧ v.2 = j) ∧ v.1 ≠ 20 + j) (he1 : ∀ i, i < n → ¬ ((el i).1 = 1 ∧ (el i).2 = j) ∧ (el i).1 ≠ 20 + j) : zM X l yJx4a65c_add_7a177 cJx4a65c_add_7a177 5 none 7 1 60 [aR 1 j, aI (nI k), .inr v] σ (zPv (fun σ1 => zLs σ1 j (n + 1) (zIns el k v) ∧ zLf σ σ1 j)) zNx := by
  obtain ⟨mc, q, cap, f, h1, h2, h3, h4, h5, h6, h7, hj⟩ := h
  refine zM.of (by decide +kernel) (Nat.le_of_ble_eq_true rfl) (by simp [zcat, Value.category]) ?_
  intro p e s m args below meth c loc0 C hr hnm hT
  refine z_aload_n (i := 0) C dJx4a65c_add_7a177_0 rfl rfl ?_
  refine z_iload_n (i := 1) C dJx4a65c_add_7a177_1 rfl rfl ?_
  refine z_callV C Y_Jx4a65c_rangeCheckForAdd_d00df V_Jx4a65c_rangeCheckForAdd_d00df ml_RJx4a65c_135 (c_Jx4a65c_rangeCheckForAdd_d00df l h1 hk (by omega)) dJx4a65c_add_7a177_2 rfl rfl h1 ⟨_, _, rfl⟩ (fun _ => Nat.le_of_ble_eq_true rfl) ⟨Nat.le_of_ble_eq_true rfl, Nat.le_of_ble_eq_true rfl⟩ ⟨Nat.le_of_ble_eq_true rfl, Nat.le_of_ble_eq_true rfl⟩ (z_rv (fun σ1 hx => ?_)) (z_nx)
  subst hx
  refine z_aload_n (i := 0) C dJx4a65c_add_7a177_5 rfl rfl ?_
  refine z_dup C (by first | trivial | rfl) dJx4a65c_add_7a177_6 ?_
  refine z_getf C f_RJx4a65c_63 dJx4a65c_add_7a177_7 h1 rfl ?_
  refine z_iconst (v := 1) C dJx4a65c_add_7a177_10 (by decide) ?_
  refine z_iadd C dJx4a65c_add_7a177_11 ?_
  refine z_putf C fp_RJx4a65c_63 dJx4a65c_add_7a177_12 h1 (by decide) (Nat.le_of_ble_eq_true rfl) (fun _ => ⟨rfl, rfl⟩) ?_
  have hqj : ¬ (q.1 = 1 ∧ q.2 = j) := by
    rcases h5 with ⟨rfl, -⟩ | ⟨h, -⟩
    · exact fun h => absurd h.1 (by decide)
    · exact fun h => by omega
  refine z_aload_n (i := 0) C dJx4a65c_add_7a177_15 rfl rfl ?_
  refine z_getf C f_RJx4a65c_48 dJx4a65c_add_7a177_16 (zput_s _ _ _ _) rfl ?_
  refine z_dup C (by first | trivial | rfl) dJx4a65c_add_7a177_19 ?_
  refine z_istore_n (i := 3) C dJx4a65c_add_7a177_20 rfl (by decide) ?_
  refine z_aload_n (i := 0) C dJx4a65c_add_7a177_21 rfl rfl ?_
  refine z_getf C f_RJx4a65c_9 dJx4a65c_add_7a177_22 (zput_s _ _ _ _) rfl ?_
  refine z_dup C (by first | trivial | rfl) dJx4a65c_add_7a177_25 ?_
  refine z_astore C dJx4a65c_add_7a177_26 (by decide) ?_
  have h2' : zput σ1 1 j (oC 2 [aI (mc + 1), .inr q, aI (nI n)]) q.1 q.2 = some (rC cap f) := by rw [zput_n hqj]; exact h2
  refine z_alenA C dJx4a65c_add_7a177_28 h2' ?_
  have hcb : cap < 2 ^ 31 := by omega
  refine z_icmp_ne (tgt := 38) C dJx4a65c_add_7a177_29 (by decide) (fun h9 => ?_) (fun h9 => ?_)
  · have hlt : n < cap := by
      have : n ≠ cap := fun e => h9 (by rw [e])
      omega
    obtain ⟨hq1, hc10⟩ : q.1 = 20 + j ∧ 10 ≤ cap := by
      rcases h5 with ⟨-, h⟩ | h
      · omega
      · exact h
    obtain ⟨q1, q2⟩ := q
    obtain rfl : q1 = 20 + j := hq1
    have hvv : zput σ1 1 j (oC 2 [aI (mc + 1), aR (20 + j) q2, aI (nI n)]) v.1 v.2 = some (oC ci fs) := by rw [zput_n hv1.1]; exact hv
    refine z_aload C dJx4a65c_add_7a177_38 rfl ?_
    refine z_iload_n (i := 1) C dJx4a65c_add_7a177_40 rfl rfl ?_
    refine z_aload C dJx4a65c_add_7a177_41 rfl ?_
    refine z_iload_n (i := 1) C dJx4a65c_add_7a177_43 rfl rfl ?_
    refine z_iconst (v := 1) C dJx4a65c_add_7a177_44 (by decide) ?_
    refine z_iadd C dJx4a65c_add_7a177_45 ?_
    rw [nI_1]
    refine z_iload_n (i := 3) C dJx4a65c_add_7a177_46 rfl rfl ?_
    refine z_iload_n (i := 1) C dJx4a65c_add_7a177_47 rfl rfl ?_
    refine z_isub C dJx4a65c_add_7a177_48 ?_
    rw [pk_sub hk]
    have ek : (nI k).toNatClampNeg = k := nI_clamp (by omega)
    have ek1 : (nI (k + 1)).toNatClampNeg = k + 1 := nI_clamp (by omega)
    have en : (nI (n - k)).toNatClampNeg = n - k := nI_clamp (by omega)
    refine z_copy C dJx4a65c_add_7a177_49 ml_RJx4a65c_112 na_arraycopyName sm_arraycopyName ini_System h2' h2' (by omega) (nI_pos (by omega)) (nI_pos (by omega)) (nI_pos (by omega)) (by rw [ek, en]; omega) (by rw [ek1, en]; omega) (fun i hi y hy => ?_) (Nat.le_of_ble_eq_true rfl) ⟨fun _ => Nat.le_of_ble_eq_true rfl, Nat.le_of_ble_eq_true rfl⟩ (by decide +kernel) ?_
    · rw [en] at hi
      rw [ek, h4 _ (by omega)] at hy
      cases hy
      obtain ⟨ci, fs, a, b⟩ := hel (k + i) (by omega)
      exact ⟨ci, fs, by rw [zput_n (he1 _ (by omega)).1]; exact a, b⟩
    rw [ek, ek1, en]
    refine z_aload C dJx4a65c_add_7a177_52 rfl ?_
    refine z_iload_n (i := 1) C dJx4a65c_add_7a177_54 rfl rfl ?_
    refine z_aload_n (i := 2) C dJx4a65c_add_7a177_55 rfl rfl ?_
    refine z_aast (k := 20 + j) (i := q2) (n := cap) (x := nI k) C dJx4a65c_add_7a177_56 (zput_s _ _ _ _) (by omega) (vp_in_nI (by omega) (by omega)) (by rw [zput_n (fun h => hv1.2 h.1)]; exact hvv) hci ?_
    rw [ek]
    refine z_aload_n (i := 0) C dJx4a65c_add_7a177_57 rfl rfl ?_
    refine z_iload_n (i := 3) C dJx4a65c_add_7a177_58 rfl rfl ?_
    refine z_iconst (v := 1) C dJx4a65c_add_7a177_59 (by decide) ?_
    refine z_iadd C dJx4a65c_add_7a177_60 ?_
    rw [nI_1]
    refine z_putf C fp_RJx4a65c_48 dJx4a65c_add_7a177_61 (by rw [zput_n (by omega), zput_n (by omega)]; exact (zput_s _ _ _ _)) (by decide) (Nat.le_of_ble_eq_true rfl) (fun _ => ⟨rfl, rfl⟩) ?_
    refine z_vret C hr dJx4a65c_add_7a177_64 (Nat.le_of_ble_eq_true rfl) (Nat.le_of_ble_eq_true rfl) ⟨rfl, zLs_push (g := q2) (cap := cap) (f := va_up (va_cpy f f k (k + 1) (n - k)) k (some v)) (mc := mc + 1) (zput_s _ _ _ _) (by rw [zput_n (by omega)]; exact zput_s _ _ _ _) (by omega) (fun i hi => ?_) (by omega) (fun g' hg => ?_) (by omega) hj, fun a b ha hb => ?_⟩
    · unfold va_up zIns va_cpy
      by_cases e1 : i = k
      · rw [if_pos e1, if_neg (by omega), if_pos e1]
      · rw [if_neg e1]
        by_cases e2 : i < k
        · rw [if_neg (by omega), if_pos e2, h4 _ (by omega)]
        · rw [if_pos (by omega), if_neg e2, if_neg e1, show k + (i - (k + 1)) = i - 1 by omega, h4 _ (by omega)]
    · rw [zput_n (by omega), zput_n (by omega), zput_n (by omega), zput_n (by omega)]; exact h6 g' (Or.inr hg)
    · rw [zput_n ha, zput_n (fun h => hb h.1), zput_n (fun h => hb h.1), zput_n ha]
  · have hcn : n = cap := (nI_eq (by omega) hcb).mp h9
    refine z_aload_n (i := 0) C dJx4a65c_add_7a177_32 rfl rfl ?_
    refine z_callV C Y_Jx4a65c_grow_d5877 V_Jx4a65c_grow_d5877 ml_RJx4a65c_129 (c_Jx4a65c_grow_d5877 (f := f) l (zput_s _ _ _ _) (by rw [← hcn] at h2'; exact h2') (by rcases h5 with ⟨a, b⟩ | ⟨a, b⟩; exact Or.inl ⟨a, by omega⟩; exact Or.inr ⟨a, by omega⟩) (fun g hg => by rw [zput_n (by omega)]; exact h6 g hg) hj (by omega) (fun i hi y hy => by rw [h4 i hi] at hy; cases hy; obtain ⟨ci, fs, a, b⟩ := hel i hi; exact ⟨ci, fs, by rw [zput_n (he1 i hi).1]; exact a, b⟩)) dJx4a65c_add_7a177_33 rfl rfl (zput_s _ _ _ _) ⟨_, _, rfl⟩ (fun _ => Nat.le_of_ble_eq_true rfl) ⟨Nat.le_of_ble_eq_true rfl, Nat.le_of_ble_eq_true rfl⟩ ⟨Nat.le_of_ble_eq_true rfl, Nat.le_of_ble_eq_true rfl⟩ (z_rr (fun x σ2 hx => ?_)) (z_nx)
    obtain ⟨rfl, g1, ⟨cap1, f1, g2, g3, g4, g5, g6⟩, g7⟩ := hx
    have hvv : σ2 v.1 v.2 = some (oC ci fs) := by
      rw [g7 _ _ hv1.1 (fun e => hv1.2 e.1), zput_n hv1.1]; exact hv
    refine z_astore C dJx4a65c_add_7a177_36 (by decide) ?_
    refine z_aload C dJx4a65c_add_7a177_38 rfl ?_
    refine z_iload_n (i := 1) C dJx4a65c_add_7a177_40 rfl rfl ?_
    refine z_aload C dJx4a65c_add_7a177_41 rfl ?_
    refine z_iload_n (i := 1) C dJx4a65c_add_7a177_43 rfl rfl ?_
    refine z_iconst (v := 1) C dJx4a65c_add_7a177_44 (by decide) ?_
    refine z_iadd C dJx4a65c_add_7a177_45 ?_
    rw [nI_1]
    refine z_iload_n (i := 3) C dJx4a65c_add_7a177_46 rfl rfl ?_
    refine z_iload_n (i := 1) C dJx4a65c_add_7a177_47 rfl rfl ?_
    refine z_isub C dJx4a65c_add_7a177_48 ?_
    rw [pk_sub hk]
    have ek : (nI k).toNatClampNeg = k := nI_clamp (by omega)
    have ek1 : (nI (k + 1)).toNatClampNeg = k + 1 := nI_clamp (by omega)
    have en : (nI (n - k)).toNatClampNeg = n - k := nI_clamp (by omega)
    refine z_copy C dJx4a65c_add_7a177_49 ml_RJx4a65c_112 na_arraycopyName sm_arraycopyName ini_System g2 g2 (by omega) (nI_pos (by omega)) (nI_pos (by omega)) (nI_pos (by omega)) (by rw [ek, en]; omega) (by rw [ek1, en]; omega) (fun i hi y hy => ?_) (Nat.le_of_ble_eq_true rfl) ⟨fun _ => Nat.le_of_ble_eq_true rfl, Nat.le_of_ble_eq_true rfl⟩ (by decide +kernel) ?_
    · rw [en] at hi
      rw [ek, g6 _ (by omega), h4 _ (by omega)] at hy
      cases hy
      obtain ⟨ci, fs, a, b⟩ := hel (k + i) (by omega)
      exact ⟨ci, fs, by rw [g7 _ _ (he1 _ (by omega)).1 (fun e => (he1 _ (by omega)).2 e.1), zput_n (he1 _ (by omega)).1]; exact a, b⟩
    rw [ek, ek1, en]
    refine z_aload C dJx4a65c_add_7a177_52 rfl ?_
    refine z_iload_n (i := 1) C dJx4a65c_add_7a177_54 rfl rfl ?_
    refine z_aload_n (i := 2) C dJx4a65c_add_7a177_55 rfl rfl ?_
    refine z_aast (k := 20 + j) (i := (q.2 + 1)) (n := cap1) (x := nI k) C dJx4a65c_add_7a177_56 (zput_s _ _ _ _) (by omega) (vp_in_nI (by omega) (by omega)) (by rw [zput_n (fun h => hv1.2 h.1)]; exact hvv) hci ?_
    rw [ek]
    refine z_aload_n (i := 0) C dJx4a65c_add_7a177_57 rfl rfl ?_
    refine z_iload_n (i := 3) C dJx4a65c_add_7a177_58 rfl rfl ?_
    refine z_iconst (v := 1) C dJx4a65c_add_7a177_59 (by decide) ?_
    refine z_iadd C dJx4a65c_add_7a177_60 ?_
    rw [nI_1]
    refine z_putf C fp_RJx4a65c_48 dJx4a65c_add_7a177_61 (by rw [zput_n (by omega), zput_n (by omega)]; exact g1) (by decide) (Nat.le_of_ble_eq_true rfl) (fun _ => ⟨rfl, rfl⟩) ?_
    refine z_vret C hr dJx4a65c_add_7a177_64 (Nat.le_of_ble_eq_true rfl) (Nat.le_of_ble_eq_true rfl) ⟨rfl, zLs_push (g := (q.2 + 1)) (cap := cap1) (f := va_up (va_cpy f1 f1 k (k + 1) (n - k)) k (some v)) (mc := mc + 1) (zput_s _ _ _ _) (by rw [zput_n (by omega)]; exact zput_s _ _ _ _) (by omega) (fun i hi => ?_) (by omega) (fun g' hg => ?_) (by omega) hj, fun a b ha hb => ?_⟩
    · unfold va_up zIns va_cpy
      by_cases e1 : i = k
      · rw [if_pos e1, if_neg (by omega), if_pos e1]
      · rw [if_neg e1]
        by_cases e2 : i < k
        · rw [if_neg (by omega), if_pos e2, g6 _ (by omega), h4 _ (by omega)]
        · rw [if_pos (by omega), if_neg e2, if_neg e1, show k + (i - (k + 1)) = i - 1 by omega, g6 _ (by omega), h4 _ (by omega)]
    · rw [zput_n (by omega), zput_n (by omega), zput_n (by omega), g7 _ _ (by omega) (by omega), zput_n (by omega)]; exact h6 g' (Or.inr (by omega))
    · rw [zput_n ha, zput_n (fun h => hb h.1), zput_n (fun h => hb h.1), g7 a b ha (fun h => hb h.1), zput_n ha]

set_option maxRecDepth 100000 in
set_option maxHeartbeats 4000000 in
theorem c_Jx4a65c_fastRemove_b59b0 {X : zX} (l : Launch) {σ : zHp} {j n k cap : Nat} {mc : Int32} {g : Nat} {f : Nat → Option zK} {el : Nat → zK} (h1 : σ 1 j = some (oC 2 [aI mc, aR (20 + j) g, aI (nI n)])) (h2 : σ (20 + j) g = some (rC cap f)) (h3 : n ≤ cap) (h4 : ∀ i, i < n → f i = some (el i)) (hc : 10 ≤ cap ∧ cap ≤ 10) (h6 : ∀ g1, g < g1 → σ (20 + j) g1 = none) (hj : j < 6) (hk : k < n) (hel : ∀ i, i < n → ∃ ci fs, σ (el i).1 (el i).2 = some (oC ci fs) ∧ zElt ci) (he1 : ∀ i, i < n → ¬ ((el i).1 = 1 ∧ (el i).2 = j) ∧ (el i).1 ≠ 20 + j) : zM X l yJx4a65c_fastRemove_b59b0 cJx4a65c_fastRemove_b59b0 4 none 2 0 0 [aR 1 j, aR (20 + j) g, aI (nI k)] σ (zPv (fun σ1 => zLs σ1 j (n - 1) (zDel el k) ∧ zLf σ σ1 j)) zNx := by
  refine zM.of (by decide +kernel) (Nat.le_of_ble_eq_true rfl) (by simp [zcat, Value.category]) ?_
  intro p e s m args below meth c loc0 C hr hnm hT
  refine z_aload_n (i := 0) C dJx4a65c_fastRemove_b59b0_0 rfl rfl ?_
  refine z_dup C (by first | trivial | rfl) dJx4a65c_fastRemove_b59b0_1 ?_
  refine z_getf C f_RJx4a65c_63 dJx4a65c_fastRemove_b59b0_2 h1 rfl ?_
  refine z_iconst (v := 1) C dJx4a65c_fastRemove_b59b0_5 (by decide) ?_
  refine z_iadd C dJx4a65c_fastRemove_b59b0_6 ?_
  refine z_putf C fp_RJx4a65c_63 dJx4a65c_fastRemove_b59b0_7 h1 (by decide) (Nat.le_of_ble_eq_true rfl) (fun _ => ⟨rfl, rfl⟩) ?_
  refine z_aload_n (i := 0) C dJx4a65c_fastRemove_b59b0_10 rfl rfl ?_
  refine z_getf C f_RJx4a65c_48 dJx4a65c_fastRemove_b59b0_11 (zput_s _ _ _ _) rfl ?_
  refine z_iconst (v := 1) C dJx4a65c_fastRemove_b59b0_14 (by decide) ?_
  refine z_isub C dJx4a65c_fastRemove_b59b0_15 ?_
  rw [show nI n - 1 = nI (n - 1) from pk_sub (b := 1) (by omega)]
  refine z_dup C (by first | trivial | rfl) dJx4a65c_fastRemove_b59b0_16 ?_
  refine z_istore_n (i := 3) C dJx4a65c_fastRemove_b59b0_17 rfl (by decide) ?_
  refine z_iload_n (i := 2) C dJx4a65c_fastRemove_b59b0_18 rfl rfl ?_
  refine z_icmp_le (tgt := 34) C dJx4a65c_fastRemove_b59b0_19 (by decide) (fun h19 => ?_) (fun h19 => ?_)
  · have hkn : n - 1 ≤ k := (nI_leI (by omega) (by omega)).mp h19
    refine z_aload_n (i := 1) C dJx4a65c_fastRemove_b59b0_34 rfl rfl ?_
    refine z_aload_n (i := 0) C dJx4a65c_fastRemove_b59b0_35 rfl rfl ?_
    refine z_iload_n (i := 3) C dJx4a65c_fastRemove_b59b0_36 rfl rfl ?_
    refine z_dup_x1 C rfl trivial dJx4a65c_fastRemove_b59b0_37 ?_
    refine z_putf C fp_RJx4a65c_48 dJx4a65c_fastRemove_b59b0_38 (by exact zput_s _ _ _ _) (by decide) (Nat.le_of_ble_eq_true rfl) (fun _ => ⟨rfl, rfl⟩) ?_
    refine z_null C dJx4a65c_fastRemove_b59b0_41 ?_
    refine z_aastN C dJx4a65c_fastRemove_b59b0_42 (by rw [zput_n (by omega), zput_n (by omega)]; exact h2) (by omega) (vp_in_nI (by omega) (by omega)) ?_
    rw [nI_clamp (by omega)]
    refine z_vret C hr dJx4a65c_fastRemove_b59b0_43 (Nat.le_of_ble_eq_true rfl) (Nat.le_of_ble_eq_true rfl) ⟨rfl, zLs_push (g := g) (cap := cap) (f := va_up (f) (n - 1) none) (mc := mc + 1) (by rw [zput_n (by omega)]; exact zput_s _ _ _ _) (zput_s _ _ _ _) (by omega) (fun i hi => ?_) (by omega) (fun g' hg => ?_) (by omega) hj, fun a b ha hb => ?_⟩
    · unfold va_up zDel
      rw [if_neg (by omega)]
      rw [if_pos (by omega)]; exact h4 i (by omega)
    · rw [zput_n (by omega), zput_n (by omega), zput_n (by omega)]; exact h6 g' hg
    · rw [zput_n (fun h => hb h.1), zput_n ha, zput_n ha]
  · have hkn : k < n - 1 := by
      rcases Nat.lt_or_ge k (n - 1) with h | h
      · exact h
      · exact absurd (nI_le h (by omega)) h19
    refine z_aload_n (i := 1) C dJx4a65c_fastRemove_b59b0_22 rfl rfl ?_
    refine z_iload_n (i := 2) C dJx4a65c_fastRemove_b59b0_23 rfl rfl ?_
    refine z_iconst (v := 1) C dJx4a65c_fastRemove_b59b0_24 (by decide) ?_
    refine z_iadd C dJx4a65c_fastRemove_b59b0_25 ?_
    rw [nI_1]
    refine z_aload_n (i := 1) C dJx4a65c_fastRemove_b59b0_26 rfl rfl ?_
    refine z_iload_n (i := 2) C dJx4a65c_fastRemove_b59b0_27 rfl rfl ?_
    refine z_iload_n (i := 3) C dJx4a65c_fastRemove_b59b0_28 rfl rfl ?_
    refine z_iload_n (i := 2) C dJx4a65c_fastRemove_b59b0_29 rfl rfl ?_
    refine z_isub C dJx4a65c_fastRemove_b59b0_30 ?_
    rw [pk_sub (by omega)]
    have ek : (nI k).toNatClampNeg = k := nI_clamp (by omega)
    have ek1 : (nI (k + 1)).toNatClampNeg = k + 1 := nI_clamp (by omega)
    have en : (nI (n - 1 - k)).toNatClampNeg = n - 1 - k := nI_clamp (by omega)
    have h2' : zput σ 1 j (oC 2 [aI (mc + 1), aR (20 + j) g, aI (nI n)]) (20 + j) g = some (rC cap f) := by rw [zput_n (by omega)]; exact h2
    refine z_copy C dJx4a65c_fastRemove_b59b0_31 ml_RJx4a65c_112 na_arraycopyName sm_arraycopyName ini_System h2' h2' (by omega) (nI_pos (by omega)) (nI_pos (by omega)) (nI_pos (by omega)) (by rw [ek1, en]; omega) (by rw [ek, en]; omega) (fun i hi y hy => ?_) (Nat.le_of_ble_eq_true rfl) ⟨fun _ => Nat.le_of_ble_eq_true rfl, Nat.le_of_ble_eq_true rfl⟩ (by decide +kernel) ?_
    · rw [en] at hi
      rw [ek1, h4 _ (by omega)] at hy
      cases hy
      obtain ⟨ci, fs, a, b⟩ := hel (k + 1 + i) (by omega)
      exact ⟨ci, fs, by rw [zput_n (he1 _ (by omega)).1]; exact a, b⟩
    rw [ek, ek1, en]
    refine z_aload_n (i := 1) C dJx4a65c_fastRemove_b59b0_34 rfl rfl ?_
    refine z_aload_n (i := 0) C dJx4a65c_fastRemove_b59b0_35 rfl rfl ?_
    refine z_iload_n (i := 3) C dJx4a65c_fastRemove_b59b0_36 rfl rfl ?_
    refine z_dup_x1 C rfl trivial dJx4a65c_fastRemove_b59b0_37 ?_
    refine z_putf C fp_RJx4a65c_48 dJx4a65c_fastRemove_b59b0_38 (by rw [zput_n (by omega)]; exact zput_s _ _ _ _) (by decide) (Nat.le_of_ble_eq_true rfl) (fun _ => ⟨rfl, rfl⟩) ?_
    refine z_null C dJx4a65c_fastRemove_b59b0_41 ?_
    refine z_aastN C dJx4a65c_fastRemove_b59b0_42 (by rw [zput_n (by omega), zput_s]) (by omega) (vp_in_nI (by omega) (by omega)) ?_
    rw [nI_clamp (by omega)]
    refine z_vret C hr dJx4a65c_fastRemove_b59b0_43 (Nat.le_of_ble_eq_true rfl) (Nat.le_of_ble_eq_true rfl) ⟨rfl, zLs_push (g := g) (cap := cap) (f := va_up (va_cpy f f (k + 1) k (n - 1 - k)) (n - 1) none) (mc := mc + 1) (by rw [zput_n (by omega)]; exact zput_s _ _ _ _) (zput_s _ _ _ _) (by omega) (fun i hi => ?_) (by omega) (fun g' hg => ?_) (by omega) hj, fun a b ha hb => ?_⟩
    · unfold va_up zDel
      rw [if_neg (by omega)]
      unfold va_cpy
      by_cases e2 : i < k
      · rw [if_neg (by omega), if_pos e2]; exact h4 i (by omega)
      · rw [if_pos (by omega), if_neg e2, show k + 1 + (i - k) = i + 1 by omega]; exact h4 _ (by omega)
    · rw [zput_n (by omega), zput_n (by omega), zput_n (by omega), zput_n (by omega)]; exact h6 g' hg
    · rw [zput_n (fun h => hb h.1), zput_n ha, zput_n (fun h => hb h.1), zput_n ha]

set_option maxRecDepth 100000 in
set_option maxHeartbeats 4000000 in
theorem c_Jx4a65c_remove_915e3 {X : zX} (l : Launch) {σ : zHp} {j n k : Nat} {el : Nat → zK} (h : zLs σ j n el) (hn : n ≤ 10) (hk : k < n) (hel : ∀ i, i < n → ∃ ci fs, σ (el i).1 (el i).2 = some (oC ci fs) ∧ zElt ci) (he1 : ∀ i, i < n → ¬ ((el i).1 = 1 ∧ (el i).2 = j) ∧ (el i).1 ≠ 20 + j) : zM X l yJx4a65c_remove_915e3 cJx4a65c_remove_915e3 4 (some (.object "java/lang/Object")) 3 0 0 [aR 1 j, aI (nI k)] σ (zPr (fun _ σ1 => zLs σ1 j (n - 1) (zDel el k) ∧ zLf σ σ1 j)) zNx := by
  obtain ⟨mc, q, cap, f, h1, h2, h3, h4, h5, h6, h7, hj⟩ := h
  refine zM.of (by decide +kernel) (Nat.le_of_ble_eq_true rfl) (by simp [zcat, Value.category]) ?_
  intro p e s m args below meth c loc0 C hr hnm hT
  obtain ⟨hq1, hc10⟩ : q.1 = 20 + j ∧ 10 ≤ cap := by
    rcases h5 with ⟨-, h⟩ | h
    · omega
    · exact h
  obtain ⟨q1, q2⟩ := q
  obtain rfl : q1 = 20 + j := hq1
  refine z_iload_n (i := 1) C dJx4a65c_remove_915e3_0 rfl rfl ?_
  refine z_aload_n (i := 0) C dJx4a65c_remove_915e3_1 rfl rfl ?_
  refine z_getf C f_RJx4a65c_48 dJx4a65c_remove_915e3_2 (by first | assumption | rfl) rfl ?_
  refine z_callS C Y_J15_checkIndex_7cf53 sm_yJ15_checkIndex_7cf53 ml_RJx4a65c_118 (c_J15_checkIndex_7cf53 l hk (by omega)) dJx4a65c_remove_915e3_5 rfl rfl (fun _ => Nat.le_of_ble_eq_true rfl) ⟨Nat.le_of_ble_eq_true rfl, Nat.le_of_ble_eq_true rfl⟩ ⟨Nat.le_of_ble_eq_true rfl, Nat.le_of_ble_eq_true rfl⟩ (z_ri (fun x σ1 hx => ?_)) (z_nx)
  obtain ⟨rfl, rfl⟩ := hx
  refine z_pop C (by first | trivial | rfl) dJx4a65c_remove_915e3_8 ?_
  refine z_aload_n (i := 0) C dJx4a65c_remove_915e3_9 rfl rfl ?_
  refine z_getf C f_RJx4a65c_9 dJx4a65c_remove_915e3_10 (by first | assumption | rfl) rfl ?_
  refine z_astore_n (i := 2) C dJx4a65c_remove_915e3_13 rfl (by decide) ?_
  refine z_aload_n (i := 2) C dJx4a65c_remove_915e3_14 rfl rfl ?_
  refine z_iload_n (i := 1) C dJx4a65c_remove_915e3_15 rfl rfl ?_
  refine z_aald C dJx4a65c_remove_915e3_16 h2 (vp_in_nI (by omega) (by omega)) ?_
  rw [nI_clamp (by omega), h4 k hk]
  refine z_astore_n (q := el k) (i := 3) C dJx4a65c_remove_915e3_17 rfl (by decide) ?_
  refine z_aload_n (i := 0) C dJx4a65c_remove_915e3_18 rfl rfl ?_
  refine z_aload_n (i := 2) C dJx4a65c_remove_915e3_19 rfl rfl ?_
  refine z_iload_n (i := 1) C dJx4a65c_remove_915e3_20 rfl rfl ?_
  refine z_callV C Y_Jx4a65c_fastRemove_b59b0 V_Jx4a65c_fastRemove_b59b0 ml_RJx4a65c_144 (c_Jx4a65c_fastRemove_b59b0 (el := el) l h1 h2 h3 h4 ⟨hc10, by omega⟩ (fun g1 hg => h6 g1 (Or.inr hg)) hj hk hel he1) dJx4a65c_remove_915e3_21 rfl rfl h1 ⟨_, _, rfl⟩ (fun _ => Nat.le_of_ble_eq_true rfl) ⟨Nat.le_of_ble_eq_true rfl, Nat.le_of_ble_eq_true rfl⟩ ⟨Nat.le_of_ble_eq_true rfl, Nat.le_of_ble_eq_true rfl⟩ (z_rv (fun σ2 hx => ?_)) (z_nx)
  refine z_aload_n (q := el k) (i := 3) C dJx4a65c_remove_915e3_24 rfl rfl ?_
  exact z_aret C hr (Or.inl ⟨_, rfl⟩) ⟨some (el k), rfl⟩ dJx4a65c_remove_915e3_25 (Nat.le_of_ble_eq_true rfl) (Nat.le_of_ble_eq_true rfl) ⟨_, rfl, hx⟩
end
section
/-! THE STATE, as numbers: x the scalars and a the rows of the reference, by the numbers of its fields. What each call answers and leaves, by the document's words (sp_). -/
def ua (a : Nat → Nat → Int32) (j : Nat) (f : Nat → Int32) : Nat → Nat → Int32 := fun j' => if j' = j then f else a j'
def zN (v : Int32) : Nat := v.toNatClampNeg
abbrev sT : Type := Int32 × (Nat → Int32) × (Nat → Nat → Int32)
def mdF (x : Nat → Int32) : List zV := [aI (x 0), aI (x 1), aR 13 2, aR 13 3, aR 13 4, aR 13 5, aI (x 6), aR 13 7, aR 13 8, aR 13 9, aR 13 10, aI (x 11), aR 13 12, aR 13 13, aR 13 14, aI (x 15), aR 13 16, aR 13 17, aR 13 18, aR 13 19, aR 13 20, aR 13 21, aR 13 22, aI (x 23), aI (x 24), aR 13 25, aR 13 26, aR 13 27, aR 13 28, aI (x 29), aR 13 30, aI (x 31)]
def mdLen : Nat → Nat := fun j => ([0, 0, 16, 16, 16, 16, 0, 9, 9, 9, 9, 0, 8, 8, 8, 0, 30, 30, 30, 30, 30, 240, 180, 0, 0, 40, 40, 40, 40, 0, 160, 0] : List Nat).getD j 0
/-- the reference's object and rows in the world -/
def MD (x : Nat → Int32) (a : Nat → Nat → Int32) (σ : zHp) : Prop := σ 12 0 = some (oC 10 (mdF x)) ∧ ∀ j, 0 < mdLen j → σ 13 j = some (iC (mdLen j) (a j))
/-- nothing but the reference's cells has changed -/
def Fm (σ σ1 : zHp) : Prop := ∀ k i, k ≠ 12 → k ≠ 13 → σ1 k i = σ k i
theorem Fm.rf {σ : zHp} : Fm σ σ := fun _ _ _ _ => rfl
theorem Fm.tr {σ σ1 σ2 : zHp} (h : Fm σ σ1) (h' : Fm σ1 σ2) : Fm σ σ2 := fun k i a b => (h' k i a b).trans (h k i a b)
theorem Fm.p12 {σ : zHp} {i : Nat} {c : zCell} : Fm σ (zput σ 12 i c) := fun _ _ a _ => zput_n (fun h => a h.1)
theorem Fm.p13 {σ : zHp} {i : Nat} {c : zCell} : Fm σ (zput σ 13 i c) := fun _ _ _ b => zput_n (fun h => b h.1)
theorem MD.row {x : Nat → Int32} {a : Nat → Nat → Int32} {σ : zHp} (h : MD x a σ) (j : Nat) (f : Nat → Int32) : MD x (ua a j f) (zput σ 13 j (iC (mdLen j) f)) := by
  refine ⟨by rw [zput_n (by omega)]; exact h.1, fun j' hj => ?_⟩
  by_cases e : j' = j
  · subst e
    rw [zput_s]
    simp [ua]
  · rw [zput_n (fun z => e z.2)]
    simp only [ua, if_neg e]
    exact h.2 j' hj
theorem MD.obj {x x1 : Nat → Int32} {a : Nat → Nat → Int32} {σ : zHp} {fs : List zV} (h : MD x a σ) (hf : fs = mdF x1) : MD x1 a (zput σ 12 0 (oC 10 fs)) := by
  subst hf
  exact ⟨zput_s _ _ _ _, fun j hj => by rw [zput_n (by omega)]; exact h.2 j hj⟩
-- words of the reference
def inB (v lo hi : Int32) : Bool := decide (lo ≤ v) && decide (v ≤ hi)
def goC (p q r : Bool) : Int32 := if p = false then 1 else if q = false then 2 else if r = false then 3 else 0
def isAcc (x : Nat → Int32) (v : Int32) : Bool := inB v 0 (x 1 - 1)
def isSel (x : Nat → Int32) (v : Int32) : Bool := inB v 0 (x 11 - 1)
def isCha (x : Nat → Int32) (v : Int32) : Bool := inB v 0 (x 15 - 1)
def fitR (a : Nat → Nat → Int32) (i k : Nat) : Bool := inB (a 3 i) (a 7 k) (a 8 k) && decide (a 9 k ≤ a 4 i)
def ruledL (a : Nat → Nat → Int32) (i : Nat) : Nat → Int32 → Int32
  | 0, f => f
  | k + 1, f => ruledL a i k (cond (fitR a i k) (a 10 k) f)
def ownR (x : Nat → Int32) (a : Nat → Nat → Int32) (i : Nat) : Int32 := if a 5 i = -1 then ruledL a i (zN (x 6)) (-1) else a 5 i
def regF (x : Nat → Int32) (a : Nat → Nat → Int32) : Nat → Nat → Int32
  | 0, _ => 0
  | f + 1, i => if ownR x a i = -1 then (if a 2 i = -1 then 0 else regF x a f (zN (a 2 i))) else ownR x a i
def regS (x : Nat → Int32) (a : Nat → Nat → Int32) (i : Nat) : Int32 := regF x a (i + 1) i
def cntC (a : Nat → Nat → Int32) (c : Int32) (k : Nat) (f : Int32) : Bool := decide (a 25 k = c) && (decide (0 < a 28 k) && (decide (f = -1) || decide (a 28 (zN f) < a 28 k)))
def cntL (a : Nat → Nat → Int32) (c : Int32) : Nat → Int32
  | 0 => -1
  | k + 1 => cond (cntC a c k (cntL a c k)) (nI k) (cntL a c k)
def cnt (x : Nat → Int32) (a : Nat → Nat → Int32) (c : Int32) : Int32 := cntL a c (zN (x 23))
def opnB (a : Nat → Nat → Int32) (c : Nat) : Bool := decide (a 18 c < 4)
def comB (x : Nat → Int32) (a : Nat → Nat → Int32) (c : Nat) (n : Int32) : Bool := opnB a c && ((decide (n < a 18 c) || (decide (n = 5) || decide (n = a 18 c + 1))) && (! decide (a 18 c = 2) || (! decide (n = 3) || ! decide (cnt x a (nI c) = -1))))
def wrt (x : Nat → Int32) (a : Nat → Nat → Int32) (c : Nat) : Int32 := if cnt x a (nI c) = -1 then a 17 c else a 17 c * (100 - a 27 (zN (cnt x a (nI c)))) / 100
def wgt (s : Int32) : Int32 := if s = 0 then 10 else if s = 1 then 30 else if s = 2 then 60 else if s = 3 then 90 else if s = 4 then 100 else 0
def ownL (x : Nat → Int32) (a : Nat → Nat → Int32) (s : Nat) : Nat → Int32
  | 0 => 0
  | k + 1 => ownL x a s k + wrt x a k * a 21 (8 * k + s) / 100 * wgt (a 18 k) / 100
def ownS (x : Nat → Int32) (a : Nat → Nat → Int32) (s : Nat) : Int32 := ownL x a s (zN (x 15))
def abvF (a : Nat → Nat → Int32) (t : Int32) : Nat → Int32 → Bool
  | 0, _ => false
  | f + 1, h => if h = -1 then false else if h = t then true else abvF a t f (a 12 (zN h))
/-- t is above s -/
def abvB (a : Nat → Nat → Int32) (t : Int32) (s : Nat) : Bool := abvF a t (s + 1) (a 12 s)
def forL (x : Nat → Int32) (a : Nat → Nat → Int32) (t : Nat) : Nat → Int32
  | 0 => 0
  | k + 1 => forL x a t k + (cond (decide (k = t) || abvB a (nI t) k) (ownS x a k + a 14 k) 0)
def forS (x : Nat → Int32) (a : Nat → Nat → Int32) (t : Nat) : Int32 := forL x a t (zN (x 11))
def traF (a : Nat → Nat → Int32) (t : Int32) : Nat → Int32 → Bool
  | 0, _ => false
  | f + 1, h => if h = -1 then false else if h = t then true else traF a t f (a 2 (zN h))
/-- account i is t or below it -/
def traB (a : Nat → Nat → Int32) (t : Int32) (i : Nat) : Bool := traF a t (i + 1) (nI i)
def stlL (x : Nat → Int32) (a : Nat → Nat → Int32) (d : Int32) : Nat → Int32
  | 0 => 0
  | k + 1 => stlL x a d k + (cond (opnB a k && decide (d < x 0 - a 19 k)) 1 0)
def rgnC (x : Nat → Int32) (a : Nat → Nat → Int32) (k : Nat) : Int32 := cond (opnB a k) (regS x a (zN (a 16 k))) (a 20 k)
def inrL (x : Nat → Int32) (a : Nat → Nat → Int32) (w t : Int32) : Nat → Int32
  | 0 => 0
  | k + 1 => inrL x a w t k + (cond (decide (rgnC x a k = w) && decide (a 18 k = t)) (wrt x a k) 0)
def wonL (x : Nat → Int32) (a : Nat → Nat → Int32) (t : Int32) : Nat → Int32
  | 0 => 0
  | k + 1 => wonL x a t k + (cond (traB a t (zN (a 16 k)) && decide (a 18 k = 4)) (wrt x a k) 0)
def watL (a : Nat → Nat → Int32) : Nat → Int32
  | 0 => 0
  | k + 1 => watL a k + (cond (decide (a 28 k = 0) && opnB a (zN (a 25 k))) 1 0)
-- what is always so
def zCnt (v : Int32) (b : Nat) : Prop := v = nI (zN v) ∧ zN v ≤ b
def zUp (v : Int32) (i : Nat) : Prop := v = -1 ∨ ∃ j, j < i ∧ v = nI j
def zInv (x : Nat → Int32) (a : Nat → Nat → Int32) : Prop :=
  zCnt (x 0) 100000 ∧ zCnt (x 1) 16 ∧ zCnt (x 6) 8 ∧ zCnt (x 11) 8 ∧ zCnt (x 15) 30 ∧ zCnt (x 23) 40 ∧ zCnt (x 24) 40 ∧ zCnt (x 29) 20 ∧
  (∀ i, i < zN (x 1) → zUp (a 2 i) i) ∧
  (∀ i, i < zN (x 11) → zUp (a 12 i) i) ∧
  (∀ c, c < zN (x 15) → (∃ i, i < zN (x 1) ∧ a 16 c = nI i) ∧ (∃ t, t ≤ 5 ∧ a 18 c = nI t)) ∧
  (∀ q, q < zN (x 23) → (∃ c, c < zN (x 15) ∧ a 25 q = nI c) ∧ (∃ s, s < zN (x 11) ∧ a 26 q = nI s) ∧ (∃ o, o ≤ zN (x 24) ∧ a 28 q = nI o)) ∧
  zN (x 24) ≤ zN (x 23)
theorem zN_nI {n : Nat} (h : n < 2 ^ 31) : zN (nI n) = n := nI_clamp h
theorem inB_t {v lo hi : Int32} : inB v lo hi = true ↔ lo ≤ v ∧ v ≤ hi := by simp [inB]
theorem zm1 : (-1 : Int32).toInt = -1 := by decide
/-- an index that has been looked at -/
theorem inB_ix {v m : Int32} {b : Nat} (hm : zCnt m b) (hb : b ≤ 1000) (h : inB v 0 (m - 1) = true) : ∃ i, i < zN m ∧ v = nI i := by
  obtain ⟨h1, h2⟩ := inB_t.mp h
  obtain ⟨i, hi, rfl⟩ := nI_of (Int32.not_lt.mpr h1)
  refine ⟨i, ?_, rfl⟩
  rw [hm.1] at h2
  have e : (nI (zN m) - 1).toInt = (zN m : Int) - 1 := pk_sub_toInt (a := zN m) (b := 1) (by have := hm.2; omega) (by omega)
  rw [Int32.le_iff_toInt_le, nI_toInt hi, e] at h2
  omega
theorem inB_nI {i : Nat} {m : Int32} {b : Nat} (hm : zCnt m b) (hb : b ≤ 1000) (hi : i < zN m) : inB (nI i) 0 (m - 1) = true := by
  refine inB_t.mpr ⟨nI_pos' (by have := hm.2; omega), ?_⟩
  rw [hm.1]
  have e : (nI (zN m) - 1).toInt = (zN m : Int) - 1 := pk_sub_toInt (a := zN m) (b := 1) (by have := hm.2; omega) (by omega)
  rw [Int32.le_iff_toInt_le, nI_toInt (by have := hm.2; omega), e]
  omega
theorem nI_nm1 {n : Nat} (h : n < 2 ^ 31) : ¬ nI n = -1 := fun e => by
  have := congrArg Int32.toInt e
  rw [nI_toInt h, zm1] at this
  omega
end
section
/-! the reference: its small methods -/
section MR
variable {X : zX} {p : Program} {l : Launch} {e : Env} {s : State} {m : MethodId} {args : Array Value} {below : List Frame} {meth : Method} {c : Code} {nL : Nat} {σ0 σ : zHp} {loc0 : zK → Nat} {Q : State → Prop} {mc ms : Nat} {R : Room} {cells slots pc : Nat} {cc : ByteArray} {own : String} {L : List (Nat × zV)} {st : List zV}
theorem z_ialdN (C : zC X p l s m args meth c cc nL own) {k i n j : Nat} {f : Nat → Int32} (hd : decode cc pc = .ok (.iaload, 1)) (hσ : σ k i = some (iC n f)) (hj : j < n) (hn : n ≤ 1000) (kk : zG X p l e R s m args below meth c nL σ0 loc0 Q cells slots σ (pc + 1) L (aI (f j) :: st)) : zG X p l e R s m args below meth c nL σ0 loc0 Q cells slots σ pc L (aI (nI j) :: aR k i :: st) := by
  have e : (nI j).toNatClampNeg = j := nI_clamp (by omega)
  refine z_iald C hd hσ (vp_in_nI hj (by omega)) ?_
  rw [e]
  exact kk
theorem z_iastN (C : zC X p l s m args meth c cc nL own) {k i n j : Nat} {f : Nat → Int32} {v : Int32} (hd : decode cc pc = .ok (.iastore, 1)) (hσ : σ k i = some (iC n f)) (hk : k < 90) (hj : j < n) (hn : n ≤ 1000) (kk : zG X p l e R s m args below meth c nL σ0 loc0 Q cells slots (zput σ k i (iC n (upd f j v))) (pc + 1) L st) : zG X p l e R s m args below meth c nL σ0 loc0 Q cells slots σ pc L (aI v :: aI (nI j) :: aR k i :: st) := by
  have e : (nI j).toNatClampNeg = j := nI_clamp (by omega)
  refine z_iast C hd hσ hk (vp_in_nI hj (by omega)) ?_
  rw [e]
  exact kk
theorem zbf {b : Bool} (h : b = false) : (0 : Int32) = zb b := by rw [h]; rfl
theorem zbt {b : Bool} (h : b = true) : (1 : Int32) = zb b := by rw [h]; rfl
end MR
set_option maxRecDepth 100000 in
set_option maxHeartbeats 4000000 in
theorem c_X7_in {X : zX} (l : Launch) {σ : zHp} {v lo hi : Int32} : zM X l yX7_in cX7_in 3 (some .boolean) 0 0 0 [aI v, aI lo, aI hi] σ (zPi (fun r σ1 => r = zb (inB v lo hi) ∧ σ1 = σ)) zNx := by
  refine zM.of (by decide +kernel) (Nat.le_of_ble_eq_true rfl) (by simp [zcat, Value.category]) ?_
  intro p e s m args below meth c loc0 C hr hnm hT
  refine z_iload_n (i := 0) C dX7_in_0 rfl rfl ?_
  refine z_iload_n (i := 1) C dX7_in_1 rfl rfl ?_
  refine z_icmp_lt (tgt := 14) C dX7_in_2 (by decide) (fun h2 => ?_) (fun h2 => ?_)
  · refine z_iconst (v := 0) C dX7_in_14 (by decide) ?_
    exact z_iret C hr rfl dX7_in_15 (Nat.le_of_ble_eq_true rfl) (Nat.le_of_ble_eq_true rfl) ⟨_, rfl, by rw [show inB v lo hi = false by simp [inB, Int32.not_le.mpr h2]]; rfl, rfl⟩
  · refine z_iload_n (i := 0) C dX7_in_5 rfl rfl ?_
    refine z_iload_n (i := 2) C dX7_in_6 rfl rfl ?_
    refine z_icmp_gt (tgt := 14) C dX7_in_7 (by decide) (fun h7 => ?_) (fun h7 => ?_)
    · refine z_iconst (v := 0) C dX7_in_14 (by decide) ?_
      exact z_iret C hr rfl dX7_in_15 (Nat.le_of_ble_eq_true rfl) (Nat.le_of_ble_eq_true rfl) ⟨_, rfl, by rw [show inB v lo hi = false by simp [inB, Int32.not_le.mpr h7]]; rfl, rfl⟩
    · refine z_iconst (v := 1) C dX7_in_10 (by decide) ?_
      refine z_goto (tgt := 15) C dX7_in_11 (by decide) ?_
      exact z_iret C hr rfl dX7_in_15 (Nat.le_of_ble_eq_true rfl) (Nat.le_of_ble_eq_true rfl) ⟨_, rfl, by rw [inB_t.mpr ⟨Int32.not_lt.mp h2, Int32.not_lt.mp h7⟩]; rfl, rfl⟩

set_option maxRecDepth 100000 in
set_option maxHeartbeats 4000000 in
theorem c_X7_thrown {X : zX} (l : Launch) {x : Nat → Int32} {a : Nat → Nat → Int32} {σ : zHp} (hM : MD x a σ) : zM X l yX7_thrown cX7_thrown 1 (some .int) 0 0 0 [aR 12 0] σ (zPi (fun r σ1 => r = x 31 ∧ σ1 = σ)) zNx := by
  refine zM.of (by decide +kernel) (Nat.le_of_ble_eq_true rfl) (by simp [zcat, Value.category]) ?_
  intro p e s m args below meth c loc0 C hr hnm hT
  refine z_aload_n (i := 0) C dX7_thrown_0 rfl rfl ?_
  refine z_getf C f_RX7_79 dX7_thrown_1 hM.1 rfl ?_
  exact z_iret C hr rfl dX7_thrown_4 (Nat.le_of_ble_eq_true rfl) (Nat.le_of_ble_eq_true rfl) ⟨_, rfl, rfl, rfl⟩

set_option maxRecDepth 100000 in
set_option maxHeartbeats 4000000 in
theorem c_X7_goes {X : zX} (l : Launch) {x : Nat → Int32} {a : Nat → Nat → Int32} {σ : zHp} (hM : MD x a σ) {p1 p2 p3 : Bool} : zM X l yX7_goes cX7_goes 4 (some .boolean) 0 0 0 [aR 12 0, aI (zb p1), aI (zb p2), aI (zb p3)] σ (zPi (fun r σ1 => r = zb (decide (goC p1 p2 p3 = 0)) ∧ MD (upd x 31 (goC p1 p2 p3)) a σ1 ∧ Fm σ σ1)) zNx := by
  refine zM.of (by decide +kernel) (Nat.le_of_ble_eq_true rfl) (by simp [zcat, Value.category]) ?_
  intro p e s m args below meth c loc0 C hr hnm hT
  refine z_aload_n (i := 0) C dX7_goes_0 rfl rfl ?_
  refine z_iload_n (i := 1) C dX7_goes_1 rfl rfl ?_
  refine z_if_neB (tgt := 9) C dX7_goes_2 (by decide) (fun h2 => ?_) (fun h2 => ?_)
  · refine z_iload_n (i := 2) C dX7_goes_9 rfl rfl ?_
    refine z_if_neB (tgt := 17) C dX7_goes_10 (by decide) (fun h10 => ?_) (fun h10 => ?_)
    · refine z_iload_n (i := 3) C dX7_goes_17 rfl rfl ?_
      refine z_if_neB (tgt := 25) C dX7_goes_18 (by decide) (fun h18 => ?_) (fun h18 => ?_)
      · refine z_iconst (v := 0) C dX7_goes_25 (by decide) ?_
        refine z_putf C fp_RX7_79 dX7_goes_26 hM.1 (by decide) (Nat.le_of_ble_eq_true rfl) (fun _ => ⟨rfl, rfl⟩) ?_
        have hM := hM.obj (x1 := upd x 31 (0)) (by rfl)
        refine z_aload_n (i := 0) C dX7_goes_29 rfl rfl ?_
        refine z_getf C f_RX7_79 dX7_goes_30 hM.1 rfl ?_
        rw [show upd x 31 (0) 31 = 0 from by simp [upd]]
        refine z_if_ne (tgt := 40) C dX7_goes_33 (by decide) (fun h => absurd rfl h) (fun _ => ?_)
        refine z_iconst (v := 1) C dX7_goes_36 (by decide) ?_
        refine z_goto (tgt := 41) C dX7_goes_37 (by decide) ?_
        exact z_iret C hr rfl dX7_goes_41 (Nat.le_of_ble_eq_true rfl) (Nat.le_of_ble_eq_true rfl) ⟨_, rfl, by rw [show goC p1 p2 p3 = 0 by simp [goC, h2, h10, h18]]; rfl, by rw [show goC p1 p2 p3 = 0 by simp [goC, h2, h10, h18]]; exact hM, Fm.p12⟩
      · refine z_iconst (v := 3) C dX7_goes_21 (by decide) ?_
        refine z_goto (tgt := 26) C dX7_goes_22 (by decide) ?_
        refine z_putf C fp_RX7_79 dX7_goes_26 hM.1 (by decide) (Nat.le_of_ble_eq_true rfl) (fun _ => ⟨rfl, rfl⟩) ?_
        have hM := hM.obj (x1 := upd x 31 (3)) (by rfl)
        refine z_aload_n (i := 0) C dX7_goes_29 rfl rfl ?_
        refine z_getf C f_RX7_79 dX7_goes_30 hM.1 rfl ?_
        rw [show upd x 31 (3) 31 = 3 from by simp [upd]]
        refine z_if_ne (tgt := 40) C dX7_goes_33 (by decide) (fun _ => ?_) (fun h => absurd h (by decide))
        refine z_iconst (v := 0) C dX7_goes_40 (by decide) ?_
        exact z_iret C hr rfl dX7_goes_41 (Nat.le_of_ble_eq_true rfl) (Nat.le_of_ble_eq_true rfl) ⟨_, rfl, by rw [show goC p1 p2 p3 = 3 by simp [goC, h2, h10, h18]]; rfl, by rw [show goC p1 p2 p3 = 3 by simp [goC, h2, h10, h18]]; exact hM, Fm.p12⟩
    · refine z_iconst (v := 2) C dX7_goes_13 (by decide) ?_
      refine z_goto (tgt := 26) C dX7_goes_14 (by decide) ?_
      refine z_putf C fp_RX7_79 dX7_goes_26 hM.1 (by decide) (Nat.le_of_ble_eq_true rfl) (fun _ => ⟨rfl, rfl⟩) ?_
      have hM := hM.obj (x1 := upd x 31 (2)) (by rfl)
      refine z_aload_n (i := 0) C dX7_goes_29 rfl rfl ?_
      refine z_getf C f_RX7_79 dX7_goes_30 hM.1 rfl ?_
      rw [show upd x 31 (2) 31 = 2 from by simp [upd]]
      refine z_if_ne (tgt := 40) C dX7_goes_33 (by decide) (fun _ => ?_) (fun h => absurd h (by decide))
      refine z_iconst (v := 0) C dX7_goes_40 (by decide) ?_
      exact z_iret C hr rfl dX7_goes_41 (Nat.le_of_ble_eq_true rfl) (Nat.le_of_ble_eq_true rfl) ⟨_, rfl, by rw [show goC p1 p2 p3 = 2 by simp [goC, h2, h10]]; rfl, by rw [show goC p1 p2 p3 = 2 by simp [goC, h2, h10]]; exact hM, Fm.p12⟩
  · refine z_iconst (v := 1) C dX7_goes_5 (by decide) ?_
    refine z_goto (tgt := 26) C dX7_goes_6 (by decide) ?_
    refine z_putf C fp_RX7_79 dX7_goes_26 hM.1 (by decide) (Nat.le_of_ble_eq_true rfl) (fun _ => ⟨rfl, rfl⟩) ?_
    have hM := hM.obj (x1 := upd x 31 (1)) (by rfl)
    refine z_aload_n (i := 0) C dX7_goes_29 rfl rfl ?_
    refine z_getf C f_RX7_79 dX7_goes_30 hM.1 rfl ?_
    rw [show upd x 31 (1) 31 = 1 from by simp [upd]]
    refine z_if_ne (tgt := 40) C dX7_goes_33 (by decide) (fun _ => ?_) (fun h => absurd h (by decide))
    refine z_iconst (v := 0) C dX7_goes_40 (by decide) ?_
    exact z_iret C hr rfl dX7_goes_41 (Nat.le_of_ble_eq_true rfl) (Nat.le_of_ble_eq_true rfl) ⟨_, rfl, by rw [show goC p1 p2 p3 = 1 by simp [goC, h2]]; rfl, by rw [show goC p1 p2 p3 = 1 by simp [goC, h2]]; exact hM, Fm.p12⟩

set_option maxRecDepth 100000 in
set_option maxHeartbeats 4000000 in
theorem c_X7_isAccount {X : zX} (l : Launch) {x : Nat → Int32} {a : Nat → Nat → Int32} {σ : zHp} (hM : MD x a σ) {v : Int32} : zM X l yX7_isAccount cX7_isAccount 2 (some .boolean) 1 0 0 [aR 12 0, aI v] σ (zPi (fun r σ1 => r = zb (isAcc x v) ∧ σ1 = σ)) zNx := by
  refine zM.of (by decide +kernel) (Nat.le_of_ble_eq_true rfl) (by simp [zcat, Value.category]) ?_
  intro p e s m args below meth c loc0 C hr hnm hT
  refine z_iload_n (i := 1) C dX7_isAccount_0 rfl rfl ?_
  refine z_iconst (v := 0) C dX7_isAccount_1 (by decide) ?_
  refine z_aload_n (i := 0) C dX7_isAccount_2 rfl rfl ?_
  refine z_getf C f_RX7_83 dX7_isAccount_3 hM.1 rfl ?_
  refine z_iconst (v := 1) C dX7_isAccount_6 (by decide) ?_
  refine z_isub C dX7_isAccount_7 ?_
  refine z_callS C Y_X7_in sm_yX7_in ml_RX7_86 (c_X7_in l) dX7_isAccount_8 rfl rfl (fun _ => Nat.le_of_ble_eq_true rfl) ⟨Nat.le_of_ble_eq_true rfl, Nat.le_of_ble_eq_true rfl⟩ ⟨Nat.le_of_ble_eq_true rfl, Nat.le_of_ble_eq_true rfl⟩ (z_ri (fun x σ1 hx => ?_)) (z_nx)
  obtain ⟨rfl, rfl⟩ := hx
  exact z_iret C hr (by cases (inB v 0 (x 1 - 1)) <;> rfl) dX7_isAccount_11 (Nat.le_of_ble_eq_true rfl) (Nat.le_of_ble_eq_true rfl) ⟨_, rfl, rfl, rfl⟩

set_option maxRecDepth 100000 in
set_option maxHeartbeats 4000000 in
theorem c_X7_isSeller {X : zX} (l : Launch) {x : Nat → Int32} {a : Nat → Nat → Int32} {σ : zHp} (hM : MD x a σ) {v : Int32} : zM X l yX7_isSeller cX7_isSeller 2 (some .boolean) 1 0 0 [aR 12 0, aI v] σ (zPi (fun r σ1 => r = zb (isSel x v) ∧ σ1 = σ)) zNx := by
  refine zM.of (by decide +kernel) (Nat.le_of_ble_eq_true rfl) (by simp [zcat, Value.category]) ?_
  intro p e s m args below meth c loc0 C hr hnm hT
  refine z_iload_n (i := 1) C dX7_isSeller_0 rfl rfl ?_
  refine z_iconst (v := 0) C dX7_isSeller_1 (by decide) ?_
  refine z_aload_n (i := 0) C dX7_isSeller_2 rfl rfl ?_
  refine z_getf C f_RX7_90 dX7_isSeller_3 hM.1 rfl ?_
  refine z_iconst (v := 1) C dX7_isSeller_6 (by decide) ?_
  refine z_isub C dX7_isSeller_7 ?_
  refine z_callS C Y_X7_in sm_yX7_in ml_RX7_86 (c_X7_in l) dX7_isSeller_8 rfl rfl (fun _ => Nat.le_of_ble_eq_true rfl) ⟨Nat.le_of_ble_eq_true rfl, Nat.le_of_ble_eq_true rfl⟩ ⟨Nat.le_of_ble_eq_true rfl, Nat.le_of_ble_eq_true rfl⟩ (z_ri (fun x σ1 hx => ?_)) (z_nx)
  obtain ⟨rfl, rfl⟩ := hx
  exact z_iret C hr (by cases (inB v 0 (x 11 - 1)) <;> rfl) dX7_isSeller_11 (Nat.le_of_ble_eq_true rfl) (Nat.le_of_ble_eq_true rfl) ⟨_, rfl, rfl, rfl⟩

set_option maxRecDepth 100000 in
set_option maxHeartbeats 4000000 in
theorem c_X7_isChance {X : zX} (l : Launch) {x : Nat → Int32} {a : Nat → Nat → Int32} {σ : zHp} (hM : MD x a σ) {v : Int32} : zM X l yX7_isChance cX7_isChance 2 (some .boolean) 1 0 0 [aR 12 0, aI v] σ (zPi (fun r σ1 => r = zb (isCha x v) ∧ σ1 = σ)) zNx := by
  refine zM.of (by decide +kernel) (Nat.le_of_ble_eq_true rfl) (by simp [zcat, Value.category]) ?_
  intro p e s m args below meth c loc0 C hr hnm hT
  refine z_iload_n (i := 1) C dX7_isChance_0 rfl rfl ?_
  refine z_iconst (v := 0) C dX7_isChance_1 (by decide) ?_
  refine z_aload_n (i := 0) C dX7_isChance_2 rfl rfl ?_
  refine z_getf C f_RX7_93 dX7_isChance_3 hM.1 rfl ?_
  refine z_iconst (v := 1) C dX7_isChance_6 (by decide) ?_
  refine z_isub C dX7_isChance_7 ?_
  refine z_callS C Y_X7_in sm_yX7_in ml_RX7_86 (c_X7_in l) dX7_isChance_8 rfl rfl (fun _ => Nat.le_of_ble_eq_true rfl) ⟨Nat.le_of_ble_eq_true rfl, Nat.le_of_ble_eq_true rfl⟩ ⟨Nat.le_of_ble_eq_true rfl, Nat.le_of_ble_eq_true rfl⟩ (z_ri (fun x σ1 hx => ?_)) (z_nx)
  obtain ⟨rfl, rfl⟩ := hx
  exact z_iret C hr (by cases (inB v 0 (x 15 - 1)) <;> rfl) dX7_isChance_11 (Nat.le_of_ble_eq_true rfl) (Nat.le_of_ble_eq_true rfl) ⟨_, rfl, rfl, rfl⟩

set_option maxRecDepth 100000 in
set_option maxHeartbeats 4000000 in
theorem c_X7_isOpen {X : zX} (l : Launch) {x : Nat → Int32} {a : Nat → Nat → Int32} {σ : zHp} (hM : MD x a σ) {i : Nat} (hi : i < 30) : zM X l yX7_isOpen cX7_isOpen 2 (some .boolean) 0 0 0 [aR 12 0, aI (nI i)] σ (zPi (fun r σ1 => r = zb (opnB a i) ∧ σ1 = σ)) zNx := by
  refine zM.of (by decide +kernel) (Nat.le_of_ble_eq_true rfl) (by simp [zcat, Value.category]) ?_
  intro p e s m args below meth c loc0 C hr hnm hT
  refine z_aload_n (i := 0) C dX7_isOpen_0 rfl rfl ?_
  refine z_getf C f_RX7_49 dX7_isOpen_1 hM.1 rfl ?_
  refine z_iload_n (i := 1) C dX7_isOpen_4 rfl rfl ?_
  refine z_ialdN C dX7_isOpen_5 (hM.2 18 (by decide)) (show _ < 30 by omega) (by decide) ?_
  refine z_iconst (v := 4) C dX7_isOpen_6 (by decide) ?_
  refine z_icmp_ge (tgt := 14) C dX7_isOpen_7 (by decide) (fun h7 => ?_) (fun h7 => ?_)
  · refine z_iconst (v := 0) C dX7_isOpen_14 (by decide) ?_
    exact z_iret C hr rfl dX7_isOpen_15 (Nat.le_of_ble_eq_true rfl) (Nat.le_of_ble_eq_true rfl) ⟨_, rfl, by first | exact zbf (decide_eq_false (Int32.not_lt.mpr h7)) | exact zbt (decide_eq_true (Int32.not_le.mp h7)), rfl⟩
  · refine z_iconst (v := 1) C dX7_isOpen_10 (by decide) ?_
    refine z_goto (tgt := 15) C dX7_isOpen_11 (by decide) ?_
    exact z_iret C hr rfl dX7_isOpen_15 (Nat.le_of_ble_eq_true rfl) (Nat.le_of_ble_eq_true rfl) ⟨_, rfl, by first | exact zbf (decide_eq_false (Int32.not_lt.mpr h7)) | exact zbt (decide_eq_true (Int32.not_le.mp h7)), rfl⟩
end
section
/-! the reference: its loops -/
section ML
variable {X : zX} {p : Program} {l : Launch} {e : Env} {s : State} {m : MethodId} {args : Array Value} {below : List Frame} {meth : Method} {c : Code} {nL : Nat} {σ0 σ : zHp} {loc0 : zK → Nat} {Q : State → Prop} {mc ms : Nat}
theorem zdec (k : Nat) : nI k + Int32.ofInt (-1) = nI k - 1 := by rw [Int32.sub_eq_add_neg]; rfl
theorem zinc (k : Nat) : nI k + Int32.ofInt 1 = nI (k + 1) := nI_1 k
theorem zneg : (nI 0 - 1 : Int32) < 0 := by decide
theorem zpos (k : Nat) (h : k < 2 ^ 30) : ¬ (nI (k + 1) - 1 < 0) := by
  rw [nI_pred]; exact nI_pos (by omega)
set_option maxRecDepth 100000 in
set_option maxHeartbeats 4000000 in
theorem lp_ownRegion (C : zC X p l s m args meth c cX7_ownRegion 4 yX7_ownRegion.cls) {x : Nat → Int32} {a : Nat → Nat → Int32} (hM : MD x a σ) {i : Nat} {r : Int32} (hi : i < 16) (kk : zG X p l e (zRm 1 mc ms) s m args below meth c 4 σ0 loc0 Q 0 0 σ 69 [(0, aR 12 0), (1, aI (nI i)), (2, aI r)] []) : ∀ (k : Nat) (f : Int32), k ≤ 8 → ruledL a i k f = r → zG X p l e (zRm 1 mc ms) s m args below meth c 4 σ0 loc0 Q 0 0 σ 9 [(0, aR 12 0), (1, aI (nI i)), (2, aI f), (3, aI (nI k - 1))] [] := by
  intro k
  induction k with
  | zero =>
    intro f hk hf
    refine z_iload_n (i := 3) C dX7_ownRegion_9 rfl rfl ?_
    refine z_if_lt (tgt := 69) C dX7_ownRegion_10 (by decide) (fun _ => ?_) (fun h => absurd zneg h)
    subst hf
    refine z_sub (L' := [(0, aR 12 0), (1, aI (nI i)), (2, aI f)]) (zs1 rfl (zs1 rfl (zs1 rfl zs0))) ?_
    exact kk
  | succ k ih =>
    intro f hk hf
    refine z_iload_n (i := 3) C dX7_ownRegion_9 rfl rfl ?_
    refine z_if_lt (tgt := 69) C dX7_ownRegion_10 (by decide) (fun h => absurd h (zpos k (by omega))) (fun _ => ?_)
    rw [nI_pred]
    refine z_aload_n (i := 0) C dX7_ownRegion_13 rfl rfl ?_
    refine z_getf C f_RX7_13 dX7_ownRegion_14 hM.1 rfl ?_
    refine z_iload_n (i := 1) C dX7_ownRegion_17 rfl rfl ?_
    refine z_ialdN C dX7_ownRegion_18 (hM.2 3 (by decide)) (show _ < 16 by omega) (by decide) ?_
    refine z_aload_n (i := 0) C dX7_ownRegion_19 rfl rfl ?_
    refine z_getf C f_RX7_22 dX7_ownRegion_20 hM.1 rfl ?_
    refine z_iload_n (i := 3) C dX7_ownRegion_23 rfl rfl ?_
    refine z_ialdN C dX7_ownRegion_24 (hM.2 7 (by decide)) (show _ < 9 by omega) (by decide) ?_
    refine z_aload_n (i := 0) C dX7_ownRegion_25 rfl rfl ?_
    refine z_getf C f_RX7_25 dX7_ownRegion_26 hM.1 rfl ?_
    refine z_iload_n (i := 3) C dX7_ownRegion_29 rfl rfl ?_
    refine z_ialdN C dX7_ownRegion_30 (hM.2 8 (by decide)) (show _ < 9 by omega) (by decide) ?_
    refine z_callS C Y_X7_in sm_yX7_in ml_RX7_86 (c_X7_in l) dX7_ownRegion_31 rfl rfl (fun _ => Nat.le_of_ble_eq_true rfl) ⟨Nat.le_of_ble_eq_true rfl, Nat.le_of_ble_eq_true rfl⟩ ⟨Nat.zero_le _, Nat.zero_le _⟩ (z_ri (fun x σ1 hx => ?_)) (z_nx)
    obtain ⟨rfl, rfl⟩ := hx
    refine z_if_eqB (tgt := 61) C dX7_ownRegion_34 (by decide) (fun hb => ?_) (fun hb => ?_)
    · refine z_iload_n (i := 2) C dX7_ownRegion_61 rfl rfl ?_
      refine z_istore_n (i := 2) C dX7_ownRegion_62 rfl (by decide) ?_
      refine z_iinc (v := nI k - 1) C dX7_ownRegion_63 (by decide) rfl (zdec k) ?_
      refine z_goto (tgt := 9) C dX7_ownRegion_66 (by decide) ?_
      refine z_sub (L' := [(0, aR 12 0), (1, aI (nI i)), (2, aI f), (3, aI (nI k - 1))]) (zs1 rfl (zs1 rfl (zs1 rfl (zs1 rfl zs0)))) ?_
      exact ih _ (by omega) (by rw [← hf]; show _ = ruledL a i k (cond (inB _ _ _ && _) _ _); rw [hb]; rfl)
    · refine z_aload_n (i := 0) C dX7_ownRegion_37 rfl rfl ?_
      refine z_getf C f_RX7_28 dX7_ownRegion_38 hM.1 rfl ?_
      refine z_iload_n (i := 3) C dX7_ownRegion_41 rfl rfl ?_
      refine z_ialdN C dX7_ownRegion_42 (hM.2 9 (by decide)) (show _ < 9 by omega) (by decide) ?_
      refine z_aload_n (i := 0) C dX7_ownRegion_43 rfl rfl ?_
      refine z_getf C f_RX7_16 dX7_ownRegion_44 hM.1 rfl ?_
      refine z_iload_n (i := 1) C dX7_ownRegion_47 rfl rfl ?_
      refine z_ialdN C dX7_ownRegion_48 (hM.2 4 (by decide)) (show _ < 16 by omega) (by decide) ?_
      refine z_icmp_gt (tgt := 61) C dX7_ownRegion_49 (by decide) (fun hc => ?_) (fun hc => ?_)
      · refine z_iload_n (i := 2) C dX7_ownRegion_61 rfl rfl ?_
        refine z_istore_n (i := 2) C dX7_ownRegion_62 rfl (by decide) ?_
        refine z_iinc (v := nI k - 1) C dX7_ownRegion_63 (by decide) rfl (zdec k) ?_
        refine z_goto (tgt := 9) C dX7_ownRegion_66 (by decide) ?_
        refine z_sub (L' := [(0, aR 12 0), (1, aI (nI i)), (2, aI f), (3, aI (nI k - 1))]) (zs1 rfl (zs1 rfl (zs1 rfl (zs1 rfl zs0)))) ?_
        exact ih _ (by omega) (by rw [← hf]; show _ = ruledL a i k (cond (inB _ _ _ && _) _ _); rw [hb, decide_eq_false (Int32.not_le.mpr hc)]; rfl)
      · refine z_aload_n (i := 0) C dX7_ownRegion_52 rfl rfl ?_
        refine z_getf C f_RX7_31 dX7_ownRegion_53 hM.1 rfl ?_
        refine z_iload_n (i := 3) C dX7_ownRegion_56 rfl rfl ?_
        refine z_ialdN C dX7_ownRegion_57 (hM.2 10 (by decide)) (show _ < 9 by omega) (by decide) ?_
        refine z_goto (tgt := 62) C dX7_ownRegion_58 (by decide) ?_
        refine z_istore_n (i := 2) C dX7_ownRegion_62 rfl (by decide) ?_
        refine z_iinc (v := nI k - 1) C dX7_ownRegion_63 (by decide) rfl (zdec k) ?_
        refine z_goto (tgt := 9) C dX7_ownRegion_66 (by decide) ?_
        refine z_sub (L' := [(0, aR 12 0), (1, aI (nI i)), (2, aI (a 10 k)), (3, aI (nI k - 1))]) (zs1 rfl (zs1 rfl (zs1 rfl (zs1 rfl zs0)))) ?_
        exact ih _ (by omega) (by rw [← hf]; show _ = ruledL a i k (cond (inB _ _ _ && _) _ _); rw [hb, decide_eq_true (Int32.not_lt.mp hc)]; rfl)

end ML
set_option maxRecDepth 100000 in
set_option maxHeartbeats 4000000 in
theorem c_X7_ownRegion {X : zX} (l : Launch) {x : Nat → Int32} {a : Nat → Nat → Int32} {σ : zHp} (hM : MD x a σ) (hI : zInv x a) {i : Nat} (hi : i < 16) : zM X l yX7_ownRegion cX7_ownRegion 4 (some .int) 1 0 0 [aR 12 0, aI (nI i)] σ (zPi (fun r σ1 => r = ownR x a i ∧ σ1 = σ)) zNx := by
  obtain ⟨i0, i1, i6, i11, i15, i23, i24, i29, iA, iS, iC, iQ, iP⟩ := id hI
  have b1 := i1.2
  have b6 := i6.2
  have b11 := i11.2
  have b15 := i15.2
  have b23 := i23.2
  have b24 := i24.2
  have b29 := i29.2
  refine zM.of (by decide +kernel) (Nat.le_of_ble_eq_true rfl) (by simp [zcat, Value.category]) ?_
  intro p e s m args below meth c loc0 C hr hnm hT
  refine z_iconst (v := -1) C dX7_ownRegion_0 (by decide) ?_
  refine z_istore_n (i := 2) C dX7_ownRegion_1 rfl (by decide) ?_
  refine z_aload_n (i := 0) C dX7_ownRegion_2 rfl rfl ?_
  refine z_getf C f_RX7_108 dX7_ownRegion_3 hM.1 rfl ?_
  refine z_iconst (v := 1) C dX7_ownRegion_6 (by decide) ?_
  refine z_isub C dX7_ownRegion_7 ?_
  rw [i6.1]
  refine z_istore_n (i := 3) C dX7_ownRegion_8 rfl (by decide) ?_
  refine z_sub (L' := [(0, aR 12 0), (1, aI (nI i)), (2, aI (-1)), (3, aI (nI (zN (x 6)) - 1))]) (zs1 rfl (zs1 rfl (zs1 rfl (zs1 rfl zs0)))) ?_
  refine lp_ownRegion C hM (r := ruledL a i (zN (x 6)) (-1)) (by omega) ?_ _ _ (by omega) rfl
  refine z_aload_n (i := 0) C dX7_ownRegion_69 rfl rfl ?_
  refine z_getf C f_RX7_19 dX7_ownRegion_70 hM.1 rfl ?_
  refine z_iload_n (i := 1) C dX7_ownRegion_73 rfl rfl ?_
  refine z_ialdN C dX7_ownRegion_74 (hM.2 5 (by decide)) (show _ < 16 by omega) (by decide) ?_
  refine z_iconst (v := -1) C dX7_ownRegion_75 (by decide) ?_
  refine z_icmp_eq (tgt := 88) C dX7_ownRegion_76 (by decide) (fun h76 => ?_) (fun h76 => ?_)
  · refine z_iload_n (i := 2) C dX7_ownRegion_88 rfl rfl ?_
    exact z_iret C hr rfl dX7_ownRegion_89 (Nat.le_of_ble_eq_true rfl) (Nat.le_of_ble_eq_true rfl) ⟨_, rfl, by unfold ownR; first | rw [if_pos h76] | rw [if_neg h76], rfl⟩
  · refine z_aload_n (i := 0) C dX7_ownRegion_79 rfl rfl ?_
    refine z_getf C f_RX7_19 dX7_ownRegion_80 hM.1 rfl ?_
    refine z_iload_n (i := 1) C dX7_ownRegion_83 rfl rfl ?_
    refine z_ialdN C dX7_ownRegion_84 (hM.2 5 (by decide)) (show _ < 16 by omega) (by decide) ?_
    refine z_goto (tgt := 89) C dX7_ownRegion_85 (by decide) ?_
    exact z_iret C hr rfl dX7_ownRegion_89 (Nat.le_of_ble_eq_true rfl) (Nat.le_of_ble_eq_true rfl) ⟨_, rfl, by unfold ownR; first | rw [if_pos h76] | rw [if_neg h76], rfl⟩
end
section
/-! the reference: regions, quotes that count, forecasts -/
section ML2
variable {X : zX} {p : Program} {l : Launch} {e : Env} {s : State} {m : MethodId} {args : Array Value} {below : List Frame} {meth : Method} {c : Code} {nL : Nat} {σ0 σ : zHp} {loc0 : zK → Nat} {Q : State → Prop} {mc ms : Nat}
set_option maxRecDepth 100000 in
set_option maxHeartbeats 4000000 in
theorem lp_region (C : zC X p l s m args meth c cX7_region 3 yX7_region.cls) {x : Nat → Int32} {a : Nat → Nat → Int32} (hM : MD x a σ) (hI : zInv x a) {j : Nat} {r : Int32} (kk : zG X p l e (zRm 2 mc ms) s m args below meth c 3 σ0 loc0 Q 0 0 σ 40 [(0, aR 12 0)] [aI r]) : ∀ (f i : Nat), i < f → i < zN (x 1) → regF x a f i = r → zG X p l e (zRm 2 mc ms) s m args below meth c 3 σ0 loc0 Q 0 0 σ 2 [(0, aR 12 0), (1, aI (nI j)), (2, aI (nI i))] [] := by
  obtain ⟨i0, i1, i6, i11, i15, i23, i24, i29, iA, iS, iC, iQ, iP⟩ := id hI
  have b1 := i1.2
  have b6 := i6.2
  have b11 := i11.2
  have b15 := i15.2
  have b23 := i23.2
  have b24 := i24.2
  have b29 := i29.2
  intro f
  induction f with
  | zero =>
    intro i h
    omega
  | succ f ih =>
    intro i hi hn hr
    refine z_iload_n (i := 2) C dX7_region_2 rfl rfl ?_
    refine z_iconst (v := -1) C dX7_region_3 (by decide) ?_
    refine z_icmp_eq (tgt := 26) C dX7_region_4 (by decide) (fun h => absurd h (nI_nm1 (by omega))) (fun _ => ?_)
    refine z_aload_n (i := 0) C dX7_region_7 rfl rfl ?_
    refine z_iload_n (i := 2) C dX7_region_8 rfl rfl ?_
    refine z_callV C Y_X7_ownRegion V_X7_ownRegion ml_RX7_115 (c_X7_ownRegion l hM hI (i := i) (by omega)) dX7_region_9 rfl rfl hM.1 ⟨_, _, rfl⟩ (fun _ => Nat.le_of_ble_eq_true rfl) ⟨Nat.le_of_ble_eq_true rfl, Nat.le_of_ble_eq_true rfl⟩ ⟨Nat.zero_le _, Nat.zero_le _⟩ (z_ri (fun x σ1 hx => ?_)) (z_nx)
    obtain ⟨rfl, rfl⟩ := hx
    refine z_iconst (v := -1) C dX7_region_12 (by decide) ?_
    refine z_icmp_ne (tgt := 26) C dX7_region_13 (by decide) (fun hne => ?_) (fun heq => ?_)
    · refine z_iload_n (i := 2) C dX7_region_26 rfl rfl ?_
      refine z_iconst (v := -1) C dX7_region_27 (by decide) ?_
      refine z_icmp_ne (tgt := 35) C dX7_region_28 (by decide) (fun _ => ?_) (fun h => absurd h (nI_nm1 (by omega)))
      refine z_aload_n (i := 0) C dX7_region_35 rfl rfl ?_
      refine z_iload_n (i := 2) C dX7_region_36 rfl rfl ?_
      refine z_callV C Y_X7_ownRegion V_X7_ownRegion ml_RX7_115 (c_X7_ownRegion l hM hI (i := i) (by omega)) dX7_region_37 rfl rfl hM.1 ⟨_, _, rfl⟩ (fun _ => Nat.le_of_ble_eq_true rfl) ⟨Nat.le_of_ble_eq_true rfl, Nat.le_of_ble_eq_true rfl⟩ ⟨Nat.zero_le _, Nat.zero_le _⟩ (z_ri (fun x σ1 hx => ?_)) (z_nx)
      obtain ⟨rfl, rfl⟩ := hx
      refine z_sub (L' := [(0, aR 12 0)]) (zs1 rfl zs0) ?_
      rw [show ownR x a i = r by rw [← hr, regF, if_neg hne]]
      exact kk
    · refine z_aload_n (i := 0) C dX7_region_16 rfl rfl ?_
      refine z_getf C f_RX7_7 dX7_region_17 hM.1 rfl ?_
      refine z_iload_n (i := 2) C dX7_region_20 rfl rfl ?_
      refine z_ialdN C dX7_region_21 (hM.2 2 (by decide)) (show _ < 16 by omega) (by decide) ?_
      refine z_istore_n (i := 2) C dX7_region_22 rfl (by decide) ?_
      refine z_goto (tgt := 2) C dX7_region_23 (by decide) ?_
      rcases iA i hn with hu | ⟨j2, hj2, hu⟩
      · rw [hu]
        refine z_iload_n (i := 2) C dX7_region_2 rfl rfl ?_
        refine z_iconst (v := -1) C dX7_region_3 (by decide) ?_
        refine z_icmp_eq (tgt := 26) C dX7_region_4 (by decide) (fun _ => ?_) (fun h => absurd rfl h)
        refine z_iload_n (i := 2) C dX7_region_26 rfl rfl ?_
        refine z_iconst (v := -1) C dX7_region_27 (by decide) ?_
        refine z_icmp_ne (tgt := 35) C dX7_region_28 (by decide) (fun h => absurd rfl h) (fun _ => ?_)
        refine z_iconst (v := 0) C dX7_region_31 (by decide) ?_
        refine z_goto (tgt := 40) C dX7_region_32 (by decide) ?_
        refine z_sub (L' := [(0, aR 12 0)]) (zs1 rfl zs0) ?_
        rw [show (0 : Int32) = r by rw [← hr, regF, if_pos heq, if_pos hu]]
        exact kk
      · rw [hu]
        refine z_sub (L' := [(0, aR 12 0), (1, aI (nI j)), (2, aI (nI j2))]) (zs1 rfl (zs1 rfl (zs1 rfl zs0))) ?_
        refine ih j2 (by omega) (by omega) ?_
        rw [← hr, regF, if_pos heq, if_neg (by rw [hu]; exact nI_nm1 (by omega)), hu, zN_nI (by omega)]

theorem cntL_rng (a : Nat → Nat → Int32) (q : Int32) : ∀ k, cntL a q k = -1 ∨ ∃ j, j < k ∧ cntL a q k = nI j
  | 0 => Or.inl rfl
  | k + 1 => by
    rw [cntL]
    cases cntC a q k (cntL a q k) with
    | true => exact Or.inr ⟨k, by omega, rfl⟩
    | false =>
      rcases cntL_rng a q k with h | ⟨j, hj, h⟩
      · exact Or.inl h
      · exact Or.inr ⟨j, by omega, h⟩
set_option maxRecDepth 100000 in
set_option maxHeartbeats 4000000 in
theorem lp_counts (C : zC X p l s m args meth c cX7_counts 5 yX7_counts.cls) {x : Nat → Int32} {a : Nat → Nat → Int32} (hM : MD x a σ) (hI : zInv x a) {q : Int32} (kk : zG X p l e (zRm 0 mc ms) s m args below meth c 5 σ0 loc0 Q 0 0 σ 75 [(0, aR 12 0), (2, aI (cntL a q (zN (x 23))))] []) : ∀ (r k : Nat) (f : Int32), k + r = zN (x 23) → f = cntL a q k → zG X p l e (zRm 0 mc ms) s m args below meth c 5 σ0 loc0 Q 0 0 σ 4 [(0, aR 12 0), (1, aI q), (2, aI f), (3, aI (nI k))] [] := by
  obtain ⟨i0, i1, i6, i11, i15, i23, i24, i29, iA, iS, iC, iQ, iP⟩ := id hI
  have b1 := i1.2
  have b6 := i6.2
  have b11 := i11.2
  have b15 := i15.2
  have b23 := i23.2
  have b24 := i24.2
  have b29 := i29.2
  intro r
  induction r with
  | zero =>
    intro k f hk hf
    refine z_iload_n (i := 3) C dX7_counts_4 rfl rfl ?_
    refine z_aload_n (i := 0) C dX7_counts_5 rfl rfl ?_
    refine z_getf C f_RX7_133 dX7_counts_6 hM.1 rfl ?_
    have ek : k = zN (x 23) := by omega
    refine z_icmp_ge (tgt := 75) C dX7_counts_9 (by decide) (fun _ => ?_) (fun h => absurd (by rw [i23.1, ek]; exact Int32.le_refl _) h)
    subst ek
    subst hf
    refine z_sub (L' := [(0, aR 12 0), (2, aI (cntL a q (zN (x 23))))]) (zs1 rfl (zs1 rfl zs0)) ?_
    exact kk
  | succ r ih =>
    intro k f hk hf
    refine z_iload_n (i := 3) C dX7_counts_4 rfl rfl ?_
    refine z_aload_n (i := 0) C dX7_counts_5 rfl rfl ?_
    refine z_getf C f_RX7_133 dX7_counts_6 hM.1 rfl ?_
    refine z_icmp_ge (tgt := 75) C dX7_counts_9 (by decide) (fun h => absurd h (by rw [i23.1]; exact nI_ge (by omega) (by omega))) (fun _ => ?_)
    refine z_aload_n (i := 0) C dX7_counts_12 rfl rfl ?_
    refine z_getf C f_RX7_64 dX7_counts_13 hM.1 rfl ?_
    refine z_iload_n (i := 3) C dX7_counts_16 rfl rfl ?_
    refine z_ialdN C dX7_counts_17 (hM.2 25 (by decide)) (show _ < 40 by omega) (by decide) ?_
    refine z_iload_n (i := 1) C dX7_counts_18 rfl rfl ?_
    refine z_icmp_ne (tgt := 55) C dX7_counts_19 (by decide) (fun h1 => ?_) (fun h1 => ?_)
    · refine z_iconst (v := 0) C dX7_counts_55 (by decide) ?_
      refine z_istore C dX7_counts_56 (by decide) ?_
      refine z_iload C dX7_counts_58 rfl ?_
      refine z_if_eq (tgt := 67) C dX7_counts_60 (by decide) (fun _ => ?_) (fun h => absurd rfl h)
      refine z_iload_n (i := 2) C dX7_counts_67 rfl rfl ?_
      refine z_istore_n (i := 2) C dX7_counts_68 rfl (by decide) ?_
      refine z_iinc C dX7_counts_69 (by decide) rfl (zinc k) ?_
      refine z_goto (tgt := 4) C dX7_counts_72 (by decide) ?_
      refine z_sub (L' := [(0, aR 12 0), (1, aI q), (2, aI f), (3, aI (nI (k + 1)))]) (zs1 rfl (zs1 rfl (zs1 rfl (zs1 rfl zs0)))) ?_
      exact ih _ _ (by omega) (by rw [cntL, ← hf]; show _ = cond (cntC a q k f) _ _; rw [show cntC a q k f = false by simp [cntC, h1]]; rfl)
    · refine z_aload_n (i := 0) C dX7_counts_22 rfl rfl ?_
      refine z_getf C f_RX7_73 dX7_counts_23 hM.1 rfl ?_
      refine z_iload_n (i := 3) C dX7_counts_26 rfl rfl ?_
      refine z_ialdN C dX7_counts_27 (hM.2 28 (by decide)) (show _ < 40 by omega) (by decide) ?_
      refine z_if_le (tgt := 55) C dX7_counts_28 (by decide) (fun h2 => ?_) (fun h2 => ?_)
      · refine z_iconst (v := 0) C dX7_counts_55 (by decide) ?_
        refine z_istore C dX7_counts_56 (by decide) ?_
        refine z_iload C dX7_counts_58 rfl ?_
        refine z_if_eq (tgt := 67) C dX7_counts_60 (by decide) (fun _ => ?_) (fun h => absurd rfl h)
        refine z_iload_n (i := 2) C dX7_counts_67 rfl rfl ?_
        refine z_istore_n (i := 2) C dX7_counts_68 rfl (by decide) ?_
        refine z_iinc C dX7_counts_69 (by decide) rfl (zinc k) ?_
        refine z_goto (tgt := 4) C dX7_counts_72 (by decide) ?_
        refine z_sub (L' := [(0, aR 12 0), (1, aI q), (2, aI f), (3, aI (nI (k + 1)))]) (zs1 rfl (zs1 rfl (zs1 rfl (zs1 rfl zs0)))) ?_
        exact ih _ _ (by omega) (by rw [cntL, ← hf]; show _ = cond (cntC a q k f) _ _; rw [show cntC a q k f = false by simp [cntC, Int32.not_lt.mpr h2]]; rfl)
      · refine z_iload_n (i := 2) C dX7_counts_31 rfl rfl ?_
        refine z_iconst (v := -1) C dX7_counts_32 (by decide) ?_
        have h2 := Int32.not_le.mp h2
        refine z_icmp_eq (tgt := 51) C dX7_counts_33 (by decide) (fun h3 => ?_) (fun h3 => ?_)
        · refine z_iconst (v := 1) C dX7_counts_51 (by decide) ?_
          refine z_goto (tgt := 56) C dX7_counts_52 (by decide) ?_
          refine z_istore C dX7_counts_56 (by decide) ?_
          refine z_iload C dX7_counts_58 rfl ?_
          refine z_if_eq (tgt := 67) C dX7_counts_60 (by decide) (fun h => absurd h (by decide)) (fun _ => ?_)
          refine z_iload_n (i := 3) C dX7_counts_63 rfl rfl ?_
          refine z_goto (tgt := 68) C dX7_counts_64 (by decide) ?_
          refine z_istore_n (i := 2) C dX7_counts_68 rfl (by decide) ?_
          refine z_iinc C dX7_counts_69 (by decide) rfl (zinc k) ?_
          refine z_goto (tgt := 4) C dX7_counts_72 (by decide) ?_
          refine z_sub (L' := [(0, aR 12 0), (1, aI q), (2, aI (nI k)), (3, aI (nI (k + 1)))]) (zs1 rfl (zs1 rfl (zs1 rfl (zs1 rfl zs0)))) ?_
          exact ih _ _ (by omega) (by rw [cntL, ← hf]; show _ = cond (cntC a q k f) _ _; rw [show cntC a q k f = true by simp [cntC, h1, h2, h3]]; rfl)
        · obtain ⟨j, hj, ej⟩ : ∃ j, j < k ∧ f = nI j := by
            rcases cntL_rng a q k with h | h
            · exact absurd (hf.trans h) h3
            · obtain ⟨j, hj, e⟩ := h; exact ⟨j, hj, hf.trans e⟩
          refine z_aload_n (i := 0) C dX7_counts_36 rfl rfl ?_
          refine z_getf C f_RX7_73 dX7_counts_37 hM.1 rfl ?_
          refine z_iload_n (i := 3) C dX7_counts_40 rfl rfl ?_
          refine z_ialdN C dX7_counts_41 (hM.2 28 (by decide)) (show _ < 40 by omega) (by decide) ?_
          refine z_aload_n (i := 0) C dX7_counts_42 rfl rfl ?_
          refine z_getf C f_RX7_73 dX7_counts_43 hM.1 rfl ?_
          refine z_iload_n (i := 2) C dX7_counts_46 rfl rfl ?_
          refine z_iald C dX7_counts_47 (hM.2 28 (by decide)) (by rw [ej]; exact vp_in_nI (show j < 40 by omega) (by decide)) ?_
          refine z_icmp_le (tgt := 55) C dX7_counts_48 (by decide) (fun h4 => ?_) (fun h4 => ?_)
          · refine z_iconst (v := 0) C dX7_counts_55 (by decide) ?_
            refine z_istore C dX7_counts_56 (by decide) ?_
            refine z_iload C dX7_counts_58 rfl ?_
            refine z_if_eq (tgt := 67) C dX7_counts_60 (by decide) (fun _ => ?_) (fun h => absurd rfl h)
            refine z_iload_n (i := 2) C dX7_counts_67 rfl rfl ?_
            refine z_istore_n (i := 2) C dX7_counts_68 rfl (by decide) ?_
            refine z_iinc C dX7_counts_69 (by decide) rfl (zinc k) ?_
            refine z_goto (tgt := 4) C dX7_counts_72 (by decide) ?_
            refine z_sub (L' := [(0, aR 12 0), (1, aI q), (2, aI f), (3, aI (nI (k + 1)))]) (zs1 rfl (zs1 rfl (zs1 rfl (zs1 rfl zs0)))) ?_
            exact ih _ _ (by omega) (by rw [cntL, ← hf]; show _ = cond (cntC a q k f) _ _; rw [show cntC a q k f = false by simp [cntC, h3, Int32.not_lt.mpr (show a 28 k ≤ a 28 (zN f) from h4)]]; rfl)
          · refine z_iconst (v := 1) C dX7_counts_51 (by decide) ?_
            refine z_goto (tgt := 56) C dX7_counts_52 (by decide) ?_
            refine z_istore C dX7_counts_56 (by decide) ?_
            refine z_iload C dX7_counts_58 rfl ?_
            refine z_if_eq (tgt := 67) C dX7_counts_60 (by decide) (fun h => absurd h (by decide)) (fun _ => ?_)
            refine z_iload_n (i := 3) C dX7_counts_63 rfl rfl ?_
            refine z_goto (tgt := 68) C dX7_counts_64 (by decide) ?_
            refine z_istore_n (i := 2) C dX7_counts_68 rfl (by decide) ?_
            refine z_iinc C dX7_counts_69 (by decide) rfl (zinc k) ?_
            refine z_goto (tgt := 4) C dX7_counts_72 (by decide) ?_
            refine z_sub (L' := [(0, aR 12 0), (1, aI q), (2, aI (nI k)), (3, aI (nI (k + 1)))]) (zs1 rfl (zs1 rfl (zs1 rfl (zs1 rfl zs0)))) ?_
            exact ih _ _ (by omega) (by rw [cntL, ← hf]; show _ = cond (cntC a q k f) _ _; rw [show cntC a q k f = true by simp [cntC, h1, h2, Int32.not_le.mp (show ¬ a 28 k ≤ a 28 (zN f) from h4)]]; rfl)

set_option maxRecDepth 100000 in
set_option maxHeartbeats 4000000 in
theorem lp_isAbove (C : zC X p l s m args meth c cX7_isAbove 4 yX7_isAbove.cls) {x : Nat → Int32} {a : Nat → Nat → Int32} (hM : MD x a σ) (hI : zInv x a) {t : Nat} {r : Bool} (ht : t < 8) (kk : zG X p l e (zRm 0 mc ms) s m args below meth c 4 σ0 loc0 Q 0 0 σ 37 [(0, aR 12 0)] [aI (zb r)]) : ∀ (F : Nat) (h : Int32), zUp h F → F ≤ zN (x 11) → abvF a (nI t) F h = r → zG X p l e (zRm 0 mc ms) s m args below meth c 4 σ0 loc0 Q 0 0 σ 7 [(0, aR 12 0), (1, aI (nI t)), (3, aI h)] [] := by
  obtain ⟨i0, i1, i6, i11, i15, i23, i24, i29, iA, iS, iC, iQ, iP⟩ := id hI
  have b1 := i1.2
  have b6 := i6.2
  have b11 := i11.2
  have b15 := i15.2
  have b23 := i23.2
  have b24 := i24.2
  have b29 := i29.2
  intro F
  induction F with
  | zero =>
    intro h hu hF hr
    rcases hu with rfl | ⟨j, hj, -⟩
    · refine z_iload_n (i := 3) C dX7_isAbove_7 rfl rfl ?_
      refine z_iconst (v := -1) C dX7_isAbove_8 (by decide) ?_
      refine z_icmp_eq (tgt := 27) C dX7_isAbove_9 (by decide) (fun _ => ?_) (fun h => absurd rfl h)
      refine z_iload_n (i := 3) C dX7_isAbove_27 rfl rfl ?_
      refine z_iload_n (i := 1) C dX7_isAbove_28 rfl rfl ?_
      refine z_icmp_ne (tgt := 36) C dX7_isAbove_29 (by decide) (fun _ => ?_) (fun h => absurd h.symm (nI_nm1 (by omega)))
      refine z_iconst (v := 0) C dX7_isAbove_36 (by decide) ?_
      refine z_sub (L' := [(0, aR 12 0)]) (zs1 rfl zs0) ?_
      rw [show (0 : Int32) = zb r by rw [← hr]; rfl]
      exact kk
    · omega
  | succ F ih =>
    intro h hu hF hr
    rcases hu with rfl | ⟨j, hj, rfl⟩
    · refine z_iload_n (i := 3) C dX7_isAbove_7 rfl rfl ?_
      refine z_iconst (v := -1) C dX7_isAbove_8 (by decide) ?_
      refine z_icmp_eq (tgt := 27) C dX7_isAbove_9 (by decide) (fun _ => ?_) (fun h => absurd rfl h)
      refine z_iload_n (i := 3) C dX7_isAbove_27 rfl rfl ?_
      refine z_iload_n (i := 1) C dX7_isAbove_28 rfl rfl ?_
      refine z_icmp_ne (tgt := 36) C dX7_isAbove_29 (by decide) (fun _ => ?_) (fun h => absurd h.symm (nI_nm1 (by omega)))
      refine z_iconst (v := 0) C dX7_isAbove_36 (by decide) ?_
      refine z_sub (L' := [(0, aR 12 0)]) (zs1 rfl zs0) ?_
      rw [show (0 : Int32) = zb r by rw [← hr]; rfl]
      exact kk
    · refine z_iload_n (i := 3) C dX7_isAbove_7 rfl rfl ?_
      refine z_iconst (v := -1) C dX7_isAbove_8 (by decide) ?_
      refine z_icmp_eq (tgt := 27) C dX7_isAbove_9 (by decide) (fun h => absurd h (nI_nm1 (by omega))) (fun _ => ?_)
      refine z_iload_n (i := 3) C dX7_isAbove_12 rfl rfl ?_
      refine z_iload_n (i := 1) C dX7_isAbove_13 rfl rfl ?_
      refine z_icmp_eq (tgt := 27) C dX7_isAbove_14 (by decide) (fun he => ?_) (fun he => ?_)
      · refine z_iload_n (i := 3) C dX7_isAbove_27 rfl rfl ?_
        refine z_iload_n (i := 1) C dX7_isAbove_28 rfl rfl ?_
        refine z_icmp_ne (tgt := 36) C dX7_isAbove_29 (by decide) (fun h => absurd he h) (fun _ => ?_)
        refine z_iconst (v := 1) C dX7_isAbove_32 (by decide) ?_
        refine z_goto (tgt := 37) C dX7_isAbove_33 (by decide) ?_
        refine z_sub (L' := [(0, aR 12 0)]) (zs1 rfl zs0) ?_
        rw [show (1 : Int32) = zb r by rw [← hr, abvF, if_neg (nI_nm1 (by omega)), if_pos he]; rfl]
        exact kk
      · refine z_aload_n (i := 0) C dX7_isAbove_17 rfl rfl ?_
        refine z_getf C f_RX7_34 dX7_isAbove_18 hM.1 rfl ?_
        refine z_iload_n (i := 3) C dX7_isAbove_21 rfl rfl ?_
        refine z_ialdN C dX7_isAbove_22 (hM.2 12 (by decide)) (show _ < 8 by omega) (by decide) ?_
        refine z_istore_n (i := 3) C dX7_isAbove_23 rfl (by decide) ?_
        refine z_goto (tgt := 7) C dX7_isAbove_24 (by decide) ?_
        refine z_sub (L' := [(0, aR 12 0), (1, aI (nI t)), (3, aI (a 12 j))]) (zs1 rfl (zs1 rfl (zs1 rfl zs0))) ?_
        refine ih _ ?_ (by omega) ?_
        · rcases iS j (by omega) with h | ⟨j2, hj2, h⟩
          · exact Or.inl h
          · exact Or.inr ⟨j2, by omega, h⟩
        · rw [← hr, abvF, if_neg (nI_nm1 (by omega)), if_neg he, zN_nI (by omega)]

end ML2
set_option maxRecDepth 100000 in
set_option maxHeartbeats 4000000 in
theorem c_X7_region {X : zX} (l : Launch) {x : Nat → Int32} {a : Nat → Nat → Int32} {σ : zHp} (hM : MD x a σ) (hI : zInv x a) {i : Nat} (hi : i < zN (x 1)) : zM X l yX7_region cX7_region 3 (some .int) 2 0 0 [aR 12 0, aI (nI i)] σ (zPi (fun r σ1 => r = regS x a i ∧ σ1 = σ)) zNx := by
  refine zM.of (by decide +kernel) (Nat.le_of_ble_eq_true rfl) (by simp [zcat, Value.category]) ?_
  intro p e s m args below meth c loc0 C hr hnm hT
  refine z_iload_n (i := 1) C dX7_region_0 rfl rfl ?_
  refine z_istore_n (i := 2) C dX7_region_1 rfl (by decide) ?_
  refine z_sub (L' := [(0, aR 12 0), (1, aI (nI i)), (2, aI (nI i))]) (zs1 rfl (zs1 rfl (zs1 rfl zs0))) ?_
  refine lp_region C hM hI (r := regS x a i) ?_ (i + 1) i (by omega) hi rfl
  exact z_iret C hr rfl dX7_region_40 (Nat.le_of_ble_eq_true rfl) (Nat.le_of_ble_eq_true rfl) ⟨_, rfl, rfl, rfl⟩

set_option maxRecDepth 100000 in
set_option maxHeartbeats 4000000 in
theorem c_X7_counts {X : zX} (l : Launch) {x : Nat → Int32} {a : Nat → Nat → Int32} {σ : zHp} (hM : MD x a σ) (hI : zInv x a) {q : Int32} : zM X l yX7_counts cX7_counts 5 (some .int) 0 0 0 [aR 12 0, aI q] σ (zPi (fun r σ1 => r = cnt x a q ∧ σ1 = σ)) zNx := by
  refine zM.of (by decide +kernel) (Nat.le_of_ble_eq_true rfl) (by simp [zcat, Value.category]) ?_
  intro p e s m args below meth c loc0 C hr hnm hT
  refine z_iconst (v := -1) C dX7_counts_0 (by decide) ?_
  refine z_istore_n (i := 2) C dX7_counts_1 rfl (by decide) ?_
  refine z_iconst (v := 0) C dX7_counts_2 (by decide) ?_
  refine z_istore_n (i := 3) C dX7_counts_3 rfl (by decide) ?_
  refine z_sub (L' := [(0, aR 12 0), (1, aI q), (2, aI (-1)), (3, aI (nI 0))]) (zs1 rfl (zs1 rfl (zs1 rfl (zs1 rfl zs0)))) ?_
  refine lp_counts C hM hI ?_ (zN (x 23)) 0 (-1) (by omega) rfl
  refine z_iload_n (i := 2) C dX7_counts_75 rfl rfl ?_
  exact z_iret C hr rfl dX7_counts_76 (Nat.le_of_ble_eq_true rfl) (Nat.le_of_ble_eq_true rfl) ⟨_, rfl, rfl, rfl⟩

set_option maxRecDepth 100000 in
set_option maxHeartbeats 4000000 in
theorem c_X7_isAbove {X : zX} (l : Launch) {x : Nat → Int32} {a : Nat → Nat → Int32} {σ : zHp} (hM : MD x a σ) (hI : zInv x a) {t i : Nat} (ht : t < 8) (hi : i < zN (x 11)) : zM X l yX7_isAbove cX7_isAbove 4 (some .boolean) 0 0 0 [aR 12 0, aI (nI t), aI (nI i)] σ (zPi (fun r σ1 => r = zb (abvB a (nI t) i) ∧ σ1 = σ)) zNx := by
  obtain ⟨i0, i1, i6, i11, i15, i23, i24, i29, iA, iS, iC, iQ, iP⟩ := id hI
  have b1 := i1.2
  have b6 := i6.2
  have b11 := i11.2
  have b15 := i15.2
  have b23 := i23.2
  have b24 := i24.2
  have b29 := i29.2
  refine zM.of (by decide +kernel) (Nat.le_of_ble_eq_true rfl) (by simp [zcat, Value.category]) ?_
  intro p e s m args below meth c loc0 C hr hnm hT
  refine z_aload_n (i := 0) C dX7_isAbove_0 rfl rfl ?_
  refine z_getf C f_RX7_34 dX7_isAbove_1 hM.1 rfl ?_
  refine z_iload_n (i := 2) C dX7_isAbove_4 rfl rfl ?_
  refine z_ialdN C dX7_isAbove_5 (hM.2 12 (by decide)) (show _ < 8 by omega) (by decide) ?_
  refine z_istore_n (i := 3) C dX7_isAbove_6 rfl (by decide) ?_
  refine z_sub (L' := [(0, aR 12 0), (1, aI (nI t)), (3, aI (a 12 i))]) (zs1 rfl (zs1 rfl (zs1 rfl zs0))) ?_
  refine lp_isAbove C hM hI (r := abvB a (nI t) i) ht ?_ (i + 1) (a 12 i) ?_ (by omega) rfl
  · exact z_iret C hr (by cases abvB a (nI t) i <;> rfl) dX7_isAbove_37 (Nat.le_of_ble_eq_true rfl) (Nat.le_of_ble_eq_true rfl) ⟨_, rfl, rfl, rfl⟩
  · rcases iS i hi with h | ⟨j2, hj2, h⟩
    · exact Or.inl h
    · exact Or.inr ⟨j2, by omega, h⟩
end
section
/-! the reference: worths, own forecasts, forecasts -/
theorem mdF_set (x : Nat → Int32) (v : Int32) : ∀ j, j < 32 → mdLen j = 0 → (mdF x).set j (aI v) = mdF (upd x j v) := by
  intro j hj h0
  have h : ∀ j, j < 32 → mdLen j = 0 → j = 0 ∨ j = 1 ∨ j = 6 ∨ j = 11 ∨ j = 15 ∨ j = 23 ∨ j = 24 ∨ j = 29 ∨ j = 31 := by decide
  rcases h j hj h0 with rfl | rfl | rfl | rfl | rfl | rfl | rfl | rfl | rfl <;> rfl
section MR2
variable {X : zX} {p : Program} {l : Launch} {e : Env} {s : State} {m : MethodId} {args : Array Value} {below : List Frame} {meth : Method} {c : Code} {nL : Nat} {σ0 σ : zHp} {loc0 : zK → Nat} {Q : State → Prop} {mc ms : Nat} {R : Room} {cells slots pc : Nat} {cc : ByteArray} {own : String} {L : List (Nat × zV)} {st : List zV}
theorem z_iastM (C : zC X p l s m args meth c cc nL own) {x : Nat → Int32} {a : Nat → Nat → Int32} {i : Nat} {v : Int32} (hd : decode cc pc = .ok (.iastore, 1)) (hM : MD x a σ) (j : Nat) (hj : 0 < mdLen j ∧ mdLen j ≤ 1000) (hi : i < mdLen j) (kk : ∀ σ', MD x (ua a j (upd (a j) i v)) σ' → Fm σ σ' → zG X p l e R s m args below meth c nL σ0 loc0 Q cells slots σ' (pc + 1) L st) : zG X p l e R s m args below meth c nL σ0 loc0 Q cells slots σ pc L (aI v :: aI (nI i) :: aR 13 j :: st) :=
  z_iastN C hd (hM.2 j hj.1) (by decide) hi hj.2 (kk _ (hM.row j _) Fm.p13)
theorem z_putM (C : zC X p l s m args meth c cc nL own) {x : Nat → Int32} {a : Nat → Nat → Int32} {j idx : Nat} {v : Int32} (hf : zFp own idx 10 j .int false) (hd : decode cc pc = .ok (.putfield idx, 3)) (hM : MD x a σ) (hj : j < 32) (h0 : mdLen j = 0) (kk : ∀ σ', MD (upd x j v) a σ' → Fm σ σ' → zG X p l e R s m args below meth c nL σ0 loc0 Q cells slots σ' (pc + 3) L st) : zG X p l e R s m args below meth c nL σ0 loc0 Q cells slots σ pc L (aI v :: aR 12 0 :: st) :=
  z_putf C hf hd hM.1 (by decide) (by rw [show (mdF x).length = 32 from rfl]; exact hj) (fun _ => ⟨rfl, rfl⟩) (kk _ (hM.obj (mdF_set x v j hj h0)) Fm.p12)
end MR2
set_option maxRecDepth 100000 in
set_option maxHeartbeats 4000000 in
theorem c_X7_worthOf {X : zX} (l : Launch) {x : Nat → Int32} {a : Nat → Nat → Int32} {σ : zHp} (hM : MD x a σ) (hI : zInv x a) {i : Nat} (hi : i < 30) : zM X l yX7_worthOf cX7_worthOf 3 (some .int) 1 0 0 [aR 12 0, aI (nI i)] σ (zPi (fun r σ1 => r = wrt x a i ∧ σ1 = σ)) zNx := by
  obtain ⟨i0, i1, i6, i11, i15, i23, i24, i29, iA, iS, iC, iQ, iP⟩ := id hI
  have b1 := i1.2
  have b6 := i6.2
  have b11 := i11.2
  have b15 := i15.2
  have b23 := i23.2
  have b24 := i24.2
  have b29 := i29.2
  refine zM.of (by decide +kernel) (Nat.le_of_ble_eq_true rfl) (by simp [zcat, Value.category]) ?_
  intro p e s m args below meth c loc0 C hr hnm hT
  refine z_aload_n (i := 0) C dX7_worthOf_0 rfl rfl ?_
  refine z_iload_n (i := 1) C dX7_worthOf_1 rfl rfl ?_
  refine z_callV C Y_X7_counts V_X7_counts ml_RX7_136 (c_X7_counts l hM hI) dX7_worthOf_2 rfl rfl hM.1 ⟨_, _, rfl⟩ (fun _ => Nat.le_of_ble_eq_true rfl) ⟨Nat.le_of_ble_eq_true rfl, Nat.le_of_ble_eq_true rfl⟩ ⟨Nat.zero_le _, Nat.zero_le _⟩ (z_ri (fun x σ1 hx => ?_)) (z_nx)
  obtain ⟨rfl, rfl⟩ := hx
  refine z_istore_n (i := 2) C dX7_worthOf_5 rfl (by decide) ?_
  refine z_iload_n (i := 2) C dX7_worthOf_6 rfl rfl ?_
  refine z_iconst (v := -1) C dX7_worthOf_7 (by decide) ?_
  refine z_icmp_ne (tgt := 20) C dX7_worthOf_8 (by decide) (fun h8 => ?_) (fun h8 => ?_)
  · obtain ⟨j, hj, ej⟩ : ∃ j, j < zN (x 23) ∧ cnt x a (nI i) = nI j := by
      rcases cntL_rng a (nI i) (zN (x 23)) with h | h
      · exact absurd h h8
      · exact h
    refine z_aload_n (i := 0) C dX7_worthOf_20 rfl rfl ?_
    refine z_getf C f_RX7_46 dX7_worthOf_21 hM.1 rfl ?_
    refine z_iload_n (i := 1) C dX7_worthOf_24 rfl rfl ?_
    refine z_ialdN C dX7_worthOf_25 (hM.2 17 (by decide)) (show _ < 30 by omega) (by decide) ?_
    refine z_bipush (v := 100) C dX7_worthOf_26 (by decide) ?_
    refine z_aload_n (i := 0) C dX7_worthOf_28 rfl rfl ?_
    refine z_getf C f_RX7_70 dX7_worthOf_29 hM.1 rfl ?_
    refine z_iload_n (i := 2) C dX7_worthOf_32 rfl rfl ?_
    rw [ej]
    refine z_ialdN C dX7_worthOf_33 (hM.2 27 (by decide)) (show _ < 40 by omega) (by decide) ?_
    refine z_isub C dX7_worthOf_34 ?_
    refine z_imul C dX7_worthOf_35 ?_
    refine z_bipush (v := 100) C dX7_worthOf_36 (by decide) ?_
    refine z_idiv C dX7_worthOf_38 (by decide) ?_
    exact z_iret C hr rfl dX7_worthOf_39 (Nat.le_of_ble_eq_true rfl) (Nat.le_of_ble_eq_true rfl) ⟨_, rfl, by rw [wrt, if_neg h8, ej, zN_nI (by omega)], rfl⟩
  · refine z_aload_n (i := 0) C dX7_worthOf_11 rfl rfl ?_
    refine z_getf C f_RX7_46 dX7_worthOf_12 hM.1 rfl ?_
    refine z_iload_n (i := 1) C dX7_worthOf_15 rfl rfl ?_
    refine z_ialdN C dX7_worthOf_16 (hM.2 17 (by decide)) (show _ < 30 by omega) (by decide) ?_
    refine z_goto (tgt := 39) C dX7_worthOf_17 (by decide) ?_
    exact z_iret C hr rfl dX7_worthOf_39 (Nat.le_of_ble_eq_true rfl) (Nat.le_of_ble_eq_true rfl) ⟨_, rfl, by rw [wrt, if_pos h8], rfl⟩

set_option maxRecDepth 100000 in
set_option maxHeartbeats 4000000 in
theorem c_X7_weight {X : zX} (l : Launch) {σ : zHp} {v : Int32} : zM X l yX7_weight cX7_weight 1 (some .int) 0 0 0 [aI v] σ (zPi (fun r σ1 => r = wgt v ∧ σ1 = σ)) zNx := by
  refine zM.of (by decide +kernel) (Nat.le_of_ble_eq_true rfl) (by simp [zcat, Value.category]) ?_
  intro p e s m args below meth c loc0 C hr hnm hT
  refine z_iload_n (i := 0) C dX7_weight_0 rfl rfl ?_
  refine z_if_ne (tgt := 9) C dX7_weight_1 (by decide) (fun h1 => ?_) (fun h1 => ?_)
  · refine z_iload_n (i := 0) C dX7_weight_9 rfl rfl ?_
    refine z_iconst (v := 1) C dX7_weight_10 (by decide) ?_
    refine z_icmp_ne (tgt := 19) C dX7_weight_11 (by decide) (fun h11 => ?_) (fun h11 => ?_)
    · refine z_iload_n (i := 0) C dX7_weight_19 rfl rfl ?_
      refine z_iconst (v := 2) C dX7_weight_20 (by decide) ?_
      refine z_icmp_ne (tgt := 29) C dX7_weight_21 (by decide) (fun h21 => ?_) (fun h21 => ?_)
      · refine z_iload_n (i := 0) C dX7_weight_29 rfl rfl ?_
        refine z_iconst (v := 3) C dX7_weight_30 (by decide) ?_
        refine z_icmp_ne (tgt := 39) C dX7_weight_31 (by decide) (fun h31 => ?_) (fun h31 => ?_)
        · refine z_iload_n (i := 0) C dX7_weight_39 rfl rfl ?_
          refine z_iconst (v := 4) C dX7_weight_40 (by decide) ?_
          refine z_icmp_ne (tgt := 49) C dX7_weight_41 (by decide) (fun h41 => ?_) (fun h41 => ?_)
          · refine z_iconst (v := 0) C dX7_weight_49 (by decide) ?_
            exact z_iret C hr rfl dX7_weight_50 (Nat.le_of_ble_eq_true rfl) (Nat.le_of_ble_eq_true rfl) ⟨_, rfl, by simp [wgt, h1, h11, h21, h31, h41], rfl⟩
          · refine z_bipush (v := 100) C dX7_weight_44 (by decide) ?_
            refine z_goto (tgt := 50) C dX7_weight_46 (by decide) ?_
            exact z_iret C hr rfl dX7_weight_50 (Nat.le_of_ble_eq_true rfl) (Nat.le_of_ble_eq_true rfl) ⟨_, rfl, by simp [wgt, h1, h11, h21, h31, h41], rfl⟩
        · refine z_bipush (v := 90) C dX7_weight_34 (by decide) ?_
          refine z_goto (tgt := 50) C dX7_weight_36 (by decide) ?_
          exact z_iret C hr rfl dX7_weight_50 (Nat.le_of_ble_eq_true rfl) (Nat.le_of_ble_eq_true rfl) ⟨_, rfl, by simp [wgt, h1, h11, h21, h31], rfl⟩
      · refine z_bipush (v := 60) C dX7_weight_24 (by decide) ?_
        refine z_goto (tgt := 50) C dX7_weight_26 (by decide) ?_
        exact z_iret C hr rfl dX7_weight_50 (Nat.le_of_ble_eq_true rfl) (Nat.le_of_ble_eq_true rfl) ⟨_, rfl, by simp [wgt, h1, h11, h21], rfl⟩
    · refine z_bipush (v := 30) C dX7_weight_14 (by decide) ?_
      refine z_goto (tgt := 50) C dX7_weight_16 (by decide) ?_
      exact z_iret C hr rfl dX7_weight_50 (Nat.le_of_ble_eq_true rfl) (Nat.le_of_ble_eq_true rfl) ⟨_, rfl, by simp [wgt, h1, h11], rfl⟩
  · refine z_bipush (v := 10) C dX7_weight_4 (by decide) ?_
    refine z_goto (tgt := 50) C dX7_weight_6 (by decide) ?_
    exact z_iret C hr rfl dX7_weight_50 (Nat.le_of_ble_eq_true rfl) (Nat.le_of_ble_eq_true rfl) ⟨_, rfl, by simp [wgt, h1], rfl⟩

section ML3
variable {X : zX} {p : Program} {l : Launch} {e : Env} {s : State} {m : MethodId} {args : Array Value} {below : List Frame} {meth : Method} {c : Code} {nL : Nat} {σ0 σ : zHp} {loc0 : zK → Nat} {Q : State → Prop} {mc ms : Nat}
theorem nI_lin8 (k i : Nat) : (8 : Int32) * nI k + nI i = nI (8 * k + i) := by
  show nI 8 * nI k + nI i = _
  rw [show nI 8 * nI k = nI (8 * k) from (Int32.ofNat_mul 8 k).symm, nI_add]
set_option maxRecDepth 100000 in
set_option maxHeartbeats 4000000 in
theorem lp_ownOf (C : zC X p l s m args meth c cX7_ownOf 5 yX7_ownOf.cls) {x : Nat → Int32} {a : Nat → Nat → Int32} (hM : MD x a σ) (hI : zInv x a) {i : Nat} (hi : i < 8) (kk : zG X p l e (zRm 2 mc ms) s m args below meth c 5 σ0 loc0 Q 0 0 σ 58 [(0, aR 12 0), (2, aI (ownL x a i (zN (x 15))))] []) : ∀ (r k : Nat) (f : Int32), k + r = zN (x 15) → f = ownL x a i k → zG X p l e (zRm 2 mc ms) s m args below meth c 5 σ0 loc0 Q 0 0 σ 4 [(0, aR 12 0), (1, aI (nI i)), (2, aI f), (3, aI (nI k))] [] := by
  obtain ⟨i0, i1, i6, i11, i15, i23, i24, i29, iA, iS, iC, iQ, iP⟩ := id hI
  have b1 := i1.2
  have b6 := i6.2
  have b11 := i11.2
  have b15 := i15.2
  have b23 := i23.2
  have b24 := i24.2
  have b29 := i29.2
  intro r
  induction r with
  | zero =>
    intro k f hk hf
    refine z_iload_n (i := 3) C dX7_ownOf_4 rfl rfl ?_
    refine z_aload_n (i := 0) C dX7_ownOf_5 rfl rfl ?_
    refine z_getf C f_RX7_93 dX7_ownOf_6 hM.1 rfl ?_
    have ek : k = zN (x 15) := by omega
    refine z_icmp_ge (tgt := 58) C dX7_ownOf_9 (by decide) (fun _ => ?_) (fun h => absurd (by rw [i15.1, ek]; exact Int32.le_refl _) h)
    subst ek
    subst hf
    refine z_sub (L' := [(0, aR 12 0), (2, aI (ownL x a i (zN (x 15))))]) (zs1 rfl (zs1 rfl zs0)) ?_
    exact kk
  | succ r ih =>
    intro k f hk hf
    subst hf
    refine z_iload_n (i := 3) C dX7_ownOf_4 rfl rfl ?_
    refine z_aload_n (i := 0) C dX7_ownOf_5 rfl rfl ?_
    refine z_getf C f_RX7_93 dX7_ownOf_6 hM.1 rfl ?_
    refine z_icmp_ge (tgt := 58) C dX7_ownOf_9 (by decide) (fun h => absurd h (by rw [i15.1]; exact nI_ge (by omega) (by omega))) (fun _ => ?_)
    refine z_aload_n (i := 0) C dX7_ownOf_12 rfl rfl ?_
    refine z_iload_n (i := 3) C dX7_ownOf_13 rfl rfl ?_
    refine z_callV C Y_X7_worthOf V_X7_worthOf ml_RX7_143 (c_X7_worthOf l hM hI (i := k) (by omega)) dX7_ownOf_14 rfl rfl hM.1 ⟨_, _, rfl⟩ (fun _ => Nat.le_of_ble_eq_true rfl) ⟨Nat.le_of_ble_eq_true rfl, Nat.le_of_ble_eq_true rfl⟩ ⟨Nat.zero_le _, Nat.zero_le _⟩ (z_ri (fun x σ1 hx => ?_)) (z_nx)
    obtain ⟨rfl, rfl⟩ := hx
    refine z_aload_n (i := 0) C dX7_ownOf_17 rfl rfl ?_
    refine z_getf C f_RX7_58 dX7_ownOf_18 hM.1 rfl ?_
    refine z_bipush (v := 8) C dX7_ownOf_21 (by decide) ?_
    refine z_iload_n (i := 3) C dX7_ownOf_23 rfl rfl ?_
    refine z_imul C dX7_ownOf_24 ?_
    refine z_iload_n (i := 1) C dX7_ownOf_25 rfl rfl ?_
    refine z_iadd C dX7_ownOf_26 ?_
    rw [nI_lin8 k i]
    refine z_ialdN C dX7_ownOf_27 (hM.2 21 (by decide)) (show _ < 240 by omega) (by decide) ?_
    refine z_imul C dX7_ownOf_28 ?_
    refine z_bipush (v := 100) C dX7_ownOf_29 (by decide) ?_
    refine z_idiv C dX7_ownOf_31 (by decide) ?_
    refine z_istore C dX7_ownOf_32 (by decide) ?_
    refine z_iload_n (i := 2) C dX7_ownOf_34 rfl rfl ?_
    refine z_iload C dX7_ownOf_35 rfl ?_
    refine z_aload_n (i := 0) C dX7_ownOf_37 rfl rfl ?_
    refine z_getf C f_RX7_49 dX7_ownOf_38 hM.1 rfl ?_
    refine z_iload_n (i := 3) C dX7_ownOf_41 rfl rfl ?_
    refine z_ialdN C dX7_ownOf_42 (hM.2 18 (by decide)) (show _ < 30 by omega) (by decide) ?_
    refine z_callS C Y_X7_weight sm_yX7_weight ml_RX7_156 (c_X7_weight l) dX7_ownOf_43 rfl rfl (fun _ => Nat.le_of_ble_eq_true rfl) ⟨Nat.le_of_ble_eq_true rfl, Nat.le_of_ble_eq_true rfl⟩ ⟨Nat.zero_le _, Nat.zero_le _⟩ (z_ri (fun x σ1 hx => ?_)) (z_nx)
    obtain ⟨rfl, rfl⟩ := hx
    refine z_imul C dX7_ownOf_46 ?_
    refine z_bipush (v := 100) C dX7_ownOf_47 (by decide) ?_
    refine z_idiv C dX7_ownOf_49 (by decide) ?_
    refine z_iadd C dX7_ownOf_50 ?_
    refine z_istore_n (i := 2) C dX7_ownOf_51 rfl (by decide) ?_
    refine z_iinc C dX7_ownOf_52 (by decide) rfl (zinc k) ?_
    refine z_goto (tgt := 4) C dX7_ownOf_55 (by decide) ?_
    refine z_sub (L' := [(0, aR 12 0), (1, aI (nI i)), (2, aI (ownL x a i (k + 1))), (3, aI (nI (k + 1)))]) (zs1 rfl (zs1 rfl (zs1 rfl (zs1 rfl zs0)))) ?_
    exact ih _ _ (by omega) rfl

end ML3
set_option maxRecDepth 100000 in
set_option maxHeartbeats 4000000 in
theorem c_X7_ownOf {X : zX} (l : Launch) {x : Nat → Int32} {a : Nat → Nat → Int32} {σ : zHp} (hM : MD x a σ) (hI : zInv x a) {i : Nat} (hi : i < 8) : zM X l yX7_ownOf cX7_ownOf 5 (some .int) 2 0 0 [aR 12 0, aI (nI i)] σ (zPi (fun r σ1 => r = ownS x a i ∧ σ1 = σ)) zNx := by
  refine zM.of (by decide +kernel) (Nat.le_of_ble_eq_true rfl) (by simp [zcat, Value.category]) ?_
  intro p e s m args below meth c loc0 C hr hnm hT
  refine z_iconst (v := 0) C dX7_ownOf_0 (by decide) ?_
  refine z_istore_n (i := 2) C dX7_ownOf_1 rfl (by decide) ?_
  refine z_iconst (v := 0) C dX7_ownOf_2 (by decide) ?_
  refine z_istore_n (i := 3) C dX7_ownOf_3 rfl (by decide) ?_
  refine z_sub (L' := [(0, aR 12 0), (1, aI (nI i)), (2, aI 0), (3, aI (nI 0))]) (zs1 rfl (zs1 rfl (zs1 rfl (zs1 rfl zs0)))) ?_
  refine lp_ownOf C hM hI hi ?_ (zN (x 15)) 0 0 (by omega) rfl
  refine z_iload_n (i := 2) C dX7_ownOf_58 rfl rfl ?_
  exact z_iret C hr rfl dX7_ownOf_59 (Nat.le_of_ble_eq_true rfl) (Nat.le_of_ble_eq_true rfl) ⟨_, rfl, rfl, rfl⟩

section ML4
variable {X : zX} {p : Program} {l : Launch} {e : Env} {s : State} {m : MethodId} {args : Array Value} {below : List Frame} {meth : Method} {c : Code} {nL : Nat} {σ0 σ : zHp} {loc0 : zK → Nat} {Q : State → Prop} {mc ms : Nat}
set_option maxRecDepth 100000 in
set_option maxHeartbeats 4000000 in
theorem lp_forecastOf (C : zC X p l s m args meth c cX7_forecastOf 4 yX7_forecastOf.cls) {x : Nat → Int32} {a : Nat → Nat → Int32} (hM : MD x a σ) (hI : zInv x a) {t : Nat} (ht : t < 8) (kk : zG X p l e (zRm 3 mc ms) s m args below meth c 4 σ0 loc0 Q 0 0 σ 51 [(0, aR 12 0), (2, aI (forL x a t (zN (x 11))))] []) : ∀ (r k : Nat) (f : Int32), k + r = zN (x 11) → f = forL x a t k → zG X p l e (zRm 3 mc ms) s m args below meth c 4 σ0 loc0 Q 0 0 σ 4 [(0, aR 12 0), (1, aI (nI t)), (2, aI f), (3, aI (nI k))] [] := by
  obtain ⟨i0, i1, i6, i11, i15, i23, i24, i29, iA, iS, iC, iQ, iP⟩ := id hI
  have b1 := i1.2
  have b6 := i6.2
  have b11 := i11.2
  have b15 := i15.2
  have b23 := i23.2
  have b24 := i24.2
  have b29 := i29.2
  intro r
  induction r with
  | zero =>
    intro k f hk hf
    refine z_iload_n (i := 3) C dX7_forecastOf_4 rfl rfl ?_
    refine z_aload_n (i := 0) C dX7_forecastOf_5 rfl rfl ?_
    refine z_getf C f_RX7_90 dX7_forecastOf_6 hM.1 rfl ?_
    have ek : k = zN (x 11) := by omega
    refine z_icmp_ge (tgt := 51) C dX7_forecastOf_9 (by decide) (fun _ => ?_) (fun h => absurd (by rw [i11.1, ek]; exact Int32.le_refl _) h)
    subst ek
    subst hf
    refine z_sub (L' := [(0, aR 12 0), (2, aI (forL x a t (zN (x 11))))]) (zs1 rfl (zs1 rfl zs0)) ?_
    exact kk
  | succ r ih =>
    intro k f hk hf
    subst hf
    refine z_iload_n (i := 3) C dX7_forecastOf_4 rfl rfl ?_
    refine z_aload_n (i := 0) C dX7_forecastOf_5 rfl rfl ?_
    refine z_getf C f_RX7_90 dX7_forecastOf_6 hM.1 rfl ?_
    refine z_icmp_ge (tgt := 51) C dX7_forecastOf_9 (by decide) (fun h => absurd h (by rw [i11.1]; exact nI_ge (by omega) (by omega))) (fun _ => ?_)
    refine z_iload_n (i := 2) C dX7_forecastOf_12 rfl rfl ?_
    refine z_iload_n (i := 3) C dX7_forecastOf_13 rfl rfl ?_
    refine z_iload_n (i := 1) C dX7_forecastOf_14 rfl rfl ?_
    refine z_icmp_eq (tgt := 27) C dX7_forecastOf_15 (by decide) (fun he => ?_) (fun hne => ?_)
    · refine z_aload_n (i := 0) C dX7_forecastOf_27 rfl rfl ?_
      refine z_iload_n (i := 3) C dX7_forecastOf_28 rfl rfl ?_
      refine z_callV C Y_X7_ownOf V_X7_ownOf ml_RX7_159 (c_X7_ownOf l hM hI (i := k) (by omega)) dX7_forecastOf_29 rfl rfl hM.1 ⟨_, _, rfl⟩ (fun _ => Nat.le_of_ble_eq_true rfl) ⟨Nat.le_of_ble_eq_true rfl, Nat.le_of_ble_eq_true rfl⟩ ⟨Nat.zero_le _, Nat.zero_le _⟩ (z_ri (fun x σ1 hx => ?_)) (z_nx)
      obtain ⟨rfl, rfl⟩ := hx
      refine z_aload_n (i := 0) C dX7_forecastOf_32 rfl rfl ?_
      refine z_getf C f_RX7_40 dX7_forecastOf_33 hM.1 rfl ?_
      refine z_iload_n (i := 3) C dX7_forecastOf_36 rfl rfl ?_
      refine z_ialdN C dX7_forecastOf_37 (hM.2 14 (by decide)) (show _ < 8 by omega) (by decide) ?_
      refine z_iadd C dX7_forecastOf_38 ?_
      refine z_goto (tgt := 43) C dX7_forecastOf_39 (by decide) ?_
      refine z_iadd C dX7_forecastOf_43 ?_
      refine z_istore_n (i := 2) C dX7_forecastOf_44 rfl (by decide) ?_
      refine z_iinc C dX7_forecastOf_45 (by decide) rfl (zinc k) ?_
      refine z_goto (tgt := 4) C dX7_forecastOf_48 (by decide) ?_
      refine z_sub (L' := [(0, aR 12 0), (1, aI (nI t)), (2, aI (forL x a t k + (ownS x a k + a 14 k))), (3, aI (nI (k + 1)))]) (zs1 rfl (zs1 rfl (zs1 rfl (zs1 rfl zs0)))) ?_
      exact ih _ _ (by omega) (by rw [forL, show (decide (k = t) || abvB a (nI t) k) = true by rw [decide_eq_true ((nI_eq (by omega) (by omega)).mp he)]; rfl]; rfl)
    · refine z_aload_n (i := 0) C dX7_forecastOf_18 rfl rfl ?_
      refine z_iload_n (i := 1) C dX7_forecastOf_19 rfl rfl ?_
      refine z_iload_n (i := 3) C dX7_forecastOf_20 rfl rfl ?_
      refine z_callV C Y_X7_isAbove V_X7_isAbove ml_RX7_153 (c_X7_isAbove l hM hI (t := t) (i := k) ht (by omega)) dX7_forecastOf_21 rfl rfl hM.1 ⟨_, _, rfl⟩ (fun _ => Nat.le_of_ble_eq_true rfl) ⟨Nat.le_of_ble_eq_true rfl, Nat.le_of_ble_eq_true rfl⟩ ⟨Nat.zero_le _, Nat.zero_le _⟩ (z_ri (fun x σ1 hx => ?_)) (z_nx)
      obtain ⟨rfl, rfl⟩ := hx
      refine z_if_eqB (tgt := 42) C dX7_forecastOf_24 (by decide) (fun hb => ?_) (fun hb => ?_)
      · refine z_iconst (v := 0) C dX7_forecastOf_42 (by decide) ?_
        refine z_iadd C dX7_forecastOf_43 ?_
        refine z_istore_n (i := 2) C dX7_forecastOf_44 rfl (by decide) ?_
        refine z_iinc C dX7_forecastOf_45 (by decide) rfl (zinc k) ?_
        refine z_goto (tgt := 4) C dX7_forecastOf_48 (by decide) ?_
        refine z_sub (L' := [(0, aR 12 0), (1, aI (nI t)), (2, aI (forL x a t k + 0)), (3, aI (nI (k + 1)))]) (zs1 rfl (zs1 rfl (zs1 rfl (zs1 rfl zs0)))) ?_
        exact ih _ _ (by omega) (by rw [forL, show (decide (k = t) || abvB a (nI t) k) = false by rw [hb, decide_eq_false (fun e => hne (by rw [e]))]; rfl]; rfl)
      · refine z_aload_n (i := 0) C dX7_forecastOf_27 rfl rfl ?_
        refine z_iload_n (i := 3) C dX7_forecastOf_28 rfl rfl ?_
        refine z_callV C Y_X7_ownOf V_X7_ownOf ml_RX7_159 (c_X7_ownOf l hM hI (i := k) (by omega)) dX7_forecastOf_29 rfl rfl hM.1 ⟨_, _, rfl⟩ (fun _ => Nat.le_of_ble_eq_true rfl) ⟨Nat.le_of_ble_eq_true rfl, Nat.le_of_ble_eq_true rfl⟩ ⟨Nat.zero_le _, Nat.zero_le _⟩ (z_ri (fun x σ1 hx => ?_)) (z_nx)
        obtain ⟨rfl, rfl⟩ := hx
        refine z_aload_n (i := 0) C dX7_forecastOf_32 rfl rfl ?_
        refine z_getf C f_RX7_40 dX7_forecastOf_33 hM.1 rfl ?_
        refine z_iload_n (i := 3) C dX7_forecastOf_36 rfl rfl ?_
        refine z_ialdN C dX7_forecastOf_37 (hM.2 14 (by decide)) (show _ < 8 by omega) (by decide) ?_
        refine z_iadd C dX7_forecastOf_38 ?_
        refine z_goto (tgt := 43) C dX7_forecastOf_39 (by decide) ?_
        refine z_iadd C dX7_forecastOf_43 ?_
        refine z_istore_n (i := 2) C dX7_forecastOf_44 rfl (by decide) ?_
        refine z_iinc C dX7_forecastOf_45 (by decide) rfl (zinc k) ?_
        refine z_goto (tgt := 4) C dX7_forecastOf_48 (by decide) ?_
        refine z_sub (L' := [(0, aR 12 0), (1, aI (nI t)), (2, aI (forL x a t k + (ownS x a k + a 14 k))), (3, aI (nI (k + 1)))]) (zs1 rfl (zs1 rfl (zs1 rfl (zs1 rfl zs0)))) ?_
        exact ih _ _ (by omega) (by rw [forL, show (decide (k = t) || abvB a (nI t) k) = true by rw [hb, Bool.or_true]]; rfl)

end ML4
set_option maxRecDepth 100000 in
set_option maxHeartbeats 4000000 in
theorem c_X7_forecastOf {X : zX} (l : Launch) {x : Nat → Int32} {a : Nat → Nat → Int32} {σ : zHp} (hM : MD x a σ) (hI : zInv x a) {t : Nat} (ht : t < 8) : zM X l yX7_forecastOf cX7_forecastOf 4 (some .int) 3 0 0 [aR 12 0, aI (nI t)] σ (zPi (fun r σ1 => r = forS x a t ∧ σ1 = σ)) zNx := by
  refine zM.of (by decide +kernel) (Nat.le_of_ble_eq_true rfl) (by simp [zcat, Value.category]) ?_
  intro p e s m args below meth c loc0 C hr hnm hT
  refine z_iconst (v := 0) C dX7_forecastOf_0 (by decide) ?_
  refine z_istore_n (i := 2) C dX7_forecastOf_1 rfl (by decide) ?_
  refine z_iconst (v := 0) C dX7_forecastOf_2 (by decide) ?_
  refine z_istore_n (i := 3) C dX7_forecastOf_3 rfl (by decide) ?_
  refine z_sub (L' := [(0, aR 12 0), (1, aI (nI t)), (2, aI 0), (3, aI (nI 0))]) (zs1 rfl (zs1 rfl (zs1 rfl (zs1 rfl zs0)))) ?_
  refine lp_forecastOf C hM hI ht ?_ (zN (x 11)) 0 0 (by omega) rfl
  refine z_iload_n (i := 2) C dX7_forecastOf_51 rfl rfl ?_
  exact z_iret C hr rfl dX7_forecastOf_52 (Nat.le_of_ble_eq_true rfl) (Nat.le_of_ble_eq_true rfl) ⟨_, rfl, rfl, rfl⟩

def cpR (a : Nat → Nat → Int32) (i j : Nat) : Nat → Nat → Int32 := ua (ua (ua (ua a 7 (upd (a 7) j (a 7 i))) 8 (upd (a 8) j (a 8 i))) 9 (upd (a 9) j (a 9 i))) 10 (upd (a 10) j (a 10 i))
set_option maxRecDepth 100000 in
set_option maxHeartbeats 4000000 in
theorem c_X7_copyRule {X : zX} (l : Launch) {x : Nat → Int32} {a : Nat → Nat → Int32} {σ : zHp} (hM : MD x a σ) {i j : Nat} (hi : i < 9) (hj : j < 9) : zM X l yX7_copyRule cX7_copyRule 3 none 0 0 0 [aR 12 0, aI (nI i), aI (nI j)] σ (zPv (fun σ1 => MD x (cpR a i j) σ1 ∧ Fm σ σ1)) zNx := by
  refine zM.of (by decide +kernel) (Nat.le_of_ble_eq_true rfl) (by simp [zcat, Value.category]) ?_
  intro p e s m args below meth c loc0 C hr hnm hT
  have hF : Fm σ σ := Fm.rf
  refine z_aload_n (i := 0) C dX7_copyRule_0 rfl rfl ?_
  refine z_getf C f_RX7_22 dX7_copyRule_1 hM.1 rfl ?_
  refine z_iload_n (i := 2) C dX7_copyRule_4 rfl rfl ?_
  refine z_aload_n (i := 0) C dX7_copyRule_5 rfl rfl ?_
  refine z_getf C f_RX7_22 dX7_copyRule_6 hM.1 rfl ?_
  refine z_iload_n (i := 1) C dX7_copyRule_9 rfl rfl ?_
  refine z_ialdN C dX7_copyRule_10 (hM.2 7 (by decide)) (show _ < 9 by omega) (by decide) ?_
  refine z_iastM C dX7_copyRule_11 hM 7 (by decide) (show _ < 9 by omega) (fun σ hM hF9 => ?_)
  replace hF := hF.tr hF9
  refine z_aload_n (i := 0) C dX7_copyRule_12 rfl rfl ?_
  refine z_getf C f_RX7_25 dX7_copyRule_13 hM.1 rfl ?_
  refine z_iload_n (i := 2) C dX7_copyRule_16 rfl rfl ?_
  refine z_aload_n (i := 0) C dX7_copyRule_17 rfl rfl ?_
  refine z_getf C f_RX7_25 dX7_copyRule_18 hM.1 rfl ?_
  refine z_iload_n (i := 1) C dX7_copyRule_21 rfl rfl ?_
  refine z_ialdN C dX7_copyRule_22 (hM.2 8 (by decide)) (show _ < 9 by omega) (by decide) ?_
  refine z_iastM C dX7_copyRule_23 hM 8 (by decide) (show _ < 9 by omega) (fun σ hM hF9 => ?_)
  replace hF := hF.tr hF9
  refine z_aload_n (i := 0) C dX7_copyRule_24 rfl rfl ?_
  refine z_getf C f_RX7_28 dX7_copyRule_25 hM.1 rfl ?_
  refine z_iload_n (i := 2) C dX7_copyRule_28 rfl rfl ?_
  refine z_aload_n (i := 0) C dX7_copyRule_29 rfl rfl ?_
  refine z_getf C f_RX7_28 dX7_copyRule_30 hM.1 rfl ?_
  refine z_iload_n (i := 1) C dX7_copyRule_33 rfl rfl ?_
  refine z_ialdN C dX7_copyRule_34 (hM.2 9 (by decide)) (show _ < 9 by omega) (by decide) ?_
  refine z_iastM C dX7_copyRule_35 hM 9 (by decide) (show _ < 9 by omega) (fun σ hM hF9 => ?_)
  replace hF := hF.tr hF9
  refine z_aload_n (i := 0) C dX7_copyRule_36 rfl rfl ?_
  refine z_getf C f_RX7_31 dX7_copyRule_37 hM.1 rfl ?_
  refine z_iload_n (i := 2) C dX7_copyRule_40 rfl rfl ?_
  refine z_aload_n (i := 0) C dX7_copyRule_41 rfl rfl ?_
  refine z_getf C f_RX7_31 dX7_copyRule_42 hM.1 rfl ?_
  refine z_iload_n (i := 1) C dX7_copyRule_45 rfl rfl ?_
  refine z_ialdN C dX7_copyRule_46 (hM.2 10 (by decide)) (show _ < 9 by omega) (by decide) ?_
  refine z_iastM C dX7_copyRule_47 hM 10 (by decide) (show _ < 9 by omega) (fun σ hM hF9 => ?_)
  replace hF := hF.tr hF9
  exact z_vret C hr dX7_copyRule_48 (Nat.le_of_ble_eq_true rfl) (Nat.le_of_ble_eq_true rfl) ⟨rfl, hM, hF⟩

set_option maxRecDepth 100000 in
set_option maxHeartbeats 4000000 in
theorem c_X7_approves {X : zX} (l : Launch) {x : Nat → Int32} {a : Nat → Nat → Int32} {σ : zHp} (hM : MD x a σ) {i : Nat} (hi : i < 40) : zM X l yX7_approves cX7_approves 2 none 0 0 0 [aR 12 0, aI (nI i)] σ (zPv (fun σ1 => MD (upd x 24 (x 24 + 1)) (ua a 28 (upd (a 28) i (x 24 + 1))) σ1 ∧ Fm σ σ1)) zNx := by
  refine zM.of (by decide +kernel) (Nat.le_of_ble_eq_true rfl) (by simp [zcat, Value.category]) ?_
  intro p e s m args below meth c loc0 C hr hnm hT
  have hF : Fm σ σ := Fm.rf
  refine z_aload_n (i := 0) C dX7_approves_0 rfl rfl ?_
  refine z_dup C (by first | trivial | rfl) dX7_approves_1 ?_
  refine z_getf C f_RX7_146 dX7_approves_2 hM.1 rfl ?_
  refine z_iconst (v := 1) C dX7_approves_5 (by decide) ?_
  refine z_iadd C dX7_approves_6 ?_
  refine z_putM (j := 24) C fp_RX7_146 dX7_approves_7 hM (by decide) (by decide) (fun σ hM hF9 => ?_)
  replace hF := hF.tr hF9
  refine z_aload_n (i := 0) C dX7_approves_10 rfl rfl ?_
  refine z_getf C f_RX7_73 dX7_approves_11 hM.1 rfl ?_
  refine z_iload_n (i := 1) C dX7_approves_14 rfl rfl ?_
  refine z_aload_n (i := 0) C dX7_approves_15 rfl rfl ?_
  refine z_getf C f_RX7_146 dX7_approves_16 hM.1 rfl ?_
  refine z_iastM C dX7_approves_19 hM 28 (by decide) (show _ < 40 by omega) (fun σ hM hF9 => ?_)
  replace hF := hF.tr hF9
  exact z_vret C hr dX7_approves_20 (Nat.le_of_ble_eq_true rfl) (Nat.le_of_ble_eq_true rfl) ⟨rfl, hM, hF⟩

set_option maxRecDepth 100000 in
set_option maxHeartbeats 4000000 in
theorem c_X7_canCome {X : zX} (l : Launch) {x : Nat → Int32} {a : Nat → Nat → Int32} {σ : zHp} (hM : MD x a σ) (hI : zInv x a) {i : Nat} (hi : i < 30) {n : Int32} : zM X l yX7_canCome cX7_canCome 5 (some .boolean) 1 0 0 [aR 12 0, aI (nI i), aI n] σ (zPi (fun r σ1 => r = zb (comB x a i n) ∧ σ1 = σ)) zNx := by
  obtain ⟨i0, i1, i6, i11, i15, i23, i24, i29, iA, iS, iC, iQ, iP⟩ := id hI
  have b1 := i1.2
  have b6 := i6.2
  have b11 := i11.2
  have b15 := i15.2
  have b23 := i23.2
  have b24 := i24.2
  have b29 := i29.2
  refine zM.of (by decide +kernel) (Nat.le_of_ble_eq_true rfl) (by simp [zcat, Value.category]) ?_
  intro p e s m args below meth c loc0 C hr hnm hT
  refine z_aload_n (i := 0) C dX7_canCome_0 rfl rfl ?_
  refine z_getf C f_RX7_49 dX7_canCome_1 hM.1 rfl ?_
  refine z_iload_n (i := 1) C dX7_canCome_4 rfl rfl ?_
  refine z_ialdN C dX7_canCome_5 (hM.2 18 (by decide)) (show _ < 30 by omega) (by decide) ?_
  refine z_istore_n (i := 3) C dX7_canCome_6 rfl (by decide) ?_
  refine z_iload_n (i := 2) C dX7_canCome_7 rfl rfl ?_
  refine z_iload_n (i := 3) C dX7_canCome_8 rfl rfl ?_
  refine z_icmp_lt (tgt := 24) C dX7_canCome_9 (by decide) (fun h9 => ?_) (fun h9 => ?_)
  · refine z_iconst (v := 1) C dX7_canCome_24 (by decide) ?_
    refine z_goto (tgt := 29) C dX7_canCome_25 (by decide) ?_
    refine z_istore C dX7_canCome_29 (by decide) ?_
    refine z_aload_n (i := 0) C dX7_canCome_31 rfl rfl ?_
    refine z_iload_n (i := 1) C dX7_canCome_32 rfl rfl ?_
    refine z_callV C Y_X7_isOpen V_X7_isOpen ml_RX7_130 (c_X7_isOpen l hM (i := i) hi) dX7_canCome_33 rfl rfl hM.1 ⟨_, _, rfl⟩ (fun _ => Nat.le_of_ble_eq_true rfl) ⟨Nat.le_of_ble_eq_true rfl, Nat.le_of_ble_eq_true rfl⟩ ⟨Nat.zero_le _, Nat.zero_le _⟩ (z_ri (fun x σ1 hx => ?_)) (z_nx)
    obtain ⟨rfl, rfl⟩ := hx
    refine z_if_eqB (tgt := 67) C dX7_canCome_36 (by decide) (fun ho => ?_) (fun ho => ?_)
    · refine z_iconst (v := 0) C dX7_canCome_67 (by decide) ?_
      exact z_iret C hr rfl dX7_canCome_68 (Nat.le_of_ble_eq_true rfl) (Nat.le_of_ble_eq_true rfl) ⟨_, rfl, by rw [show comB x a i n = false by simp [comB, ho]]; rfl, rfl⟩
    · refine z_iload C dX7_canCome_39 rfl ?_
      refine z_if_eq (tgt := 67) C dX7_canCome_41 (by decide) (fun h => absurd h (by decide)) (fun _ => ?_)
      refine z_iload_n (i := 3) C dX7_canCome_44 rfl rfl ?_
      refine z_iconst (v := 2) C dX7_canCome_45 (by decide) ?_
      refine z_icmp_ne (tgt := 63) C dX7_canCome_46 (by decide) (fun h2 => ?_) (fun h2 => ?_)
      · refine z_iconst (v := 1) C dX7_canCome_63 (by decide) ?_
        refine z_goto (tgt := 68) C dX7_canCome_64 (by decide) ?_
        exact z_iret C hr rfl dX7_canCome_68 (Nat.le_of_ble_eq_true rfl) (Nat.le_of_ble_eq_true rfl) ⟨_, rfl, by rw [show comB x a i n = true by simp only [comB, (show (decide (n < a 18 i) || (decide (n = 5) || decide (n = a 18 i + 1))) = true by simp [h9]), ho, decide_eq_false h2, decide_true, decide_false, Bool.not_true, Bool.not_false, Bool.and_true, Bool.true_and, Bool.true_or, Bool.or_true, Bool.false_or]]; rfl, rfl⟩
      · refine z_iload_n (i := 2) C dX7_canCome_49 rfl rfl ?_
        refine z_iconst (v := 3) C dX7_canCome_50 (by decide) ?_
        refine z_icmp_ne (tgt := 63) C dX7_canCome_51 (by decide) (fun h3 => ?_) (fun h3 => ?_)
        · refine z_iconst (v := 1) C dX7_canCome_63 (by decide) ?_
          refine z_goto (tgt := 68) C dX7_canCome_64 (by decide) ?_
          exact z_iret C hr rfl dX7_canCome_68 (Nat.le_of_ble_eq_true rfl) (Nat.le_of_ble_eq_true rfl) ⟨_, rfl, by rw [show comB x a i n = true by simp only [comB, (show (decide (n < a 18 i) || (decide (n = 5) || decide (n = a 18 i + 1))) = true by simp [h9]), ho, decide_eq_false h3, decide_true, decide_false, Bool.not_true, Bool.not_false, Bool.and_true, Bool.true_and, Bool.true_or, Bool.or_true, Bool.false_or]]; rfl, rfl⟩
        · refine z_aload_n (i := 0) C dX7_canCome_54 rfl rfl ?_
          refine z_iload_n (i := 1) C dX7_canCome_55 rfl rfl ?_
          refine z_callV C Y_X7_counts V_X7_counts ml_RX7_136 (c_X7_counts l hM hI) dX7_canCome_56 rfl rfl hM.1 ⟨_, _, rfl⟩ (fun _ => Nat.le_of_ble_eq_true rfl) ⟨Nat.le_of_ble_eq_true rfl, Nat.le_of_ble_eq_true rfl⟩ ⟨Nat.zero_le _, Nat.zero_le _⟩ (z_ri (fun x σ1 hx => ?_)) (z_nx)
          obtain ⟨rfl, rfl⟩ := hx
          refine z_iconst (v := -1) C dX7_canCome_59 (by decide) ?_
          refine z_icmp_eq (tgt := 67) C dX7_canCome_60 (by decide) (fun h4 => ?_) (fun h4 => ?_)
          · refine z_iconst (v := 0) C dX7_canCome_67 (by decide) ?_
            exact z_iret C hr rfl dX7_canCome_68 (Nat.le_of_ble_eq_true rfl) (Nat.le_of_ble_eq_true rfl) ⟨_, rfl, by rw [show comB x a i n = false by simp only [comB, (show (decide (n < a 18 i) || (decide (n = 5) || decide (n = a 18 i + 1))) = true by simp [h9]), ho, decide_eq_true h2, decide_eq_true h3, decide_eq_true h4, decide_true, decide_false, Bool.not_true, Bool.not_false, Bool.and_true, Bool.true_and, Bool.false_or, Bool.and_false]]; rfl, rfl⟩
          · refine z_iconst (v := 1) C dX7_canCome_63 (by decide) ?_
            refine z_goto (tgt := 68) C dX7_canCome_64 (by decide) ?_
            exact z_iret C hr rfl dX7_canCome_68 (Nat.le_of_ble_eq_true rfl) (Nat.le_of_ble_eq_true rfl) ⟨_, rfl, by rw [show comB x a i n = true by simp only [comB, (show (decide (n < a 18 i) || (decide (n = 5) || decide (n = a 18 i + 1))) = true by simp [h9]), ho, decide_eq_false h4, decide_true, decide_false, Bool.not_true, Bool.not_false, Bool.and_true, Bool.true_and, Bool.true_or, Bool.or_true, Bool.false_or]]; rfl, rfl⟩
  · refine z_iload_n (i := 2) C dX7_canCome_12 rfl rfl ?_
    refine z_iconst (v := 5) C dX7_canCome_13 (by decide) ?_
    refine z_icmp_eq (tgt := 24) C dX7_canCome_14 (by decide) (fun h14 => ?_) (fun h14 => ?_)
    · refine z_iconst (v := 1) C dX7_canCome_24 (by decide) ?_
      refine z_goto (tgt := 29) C dX7_canCome_25 (by decide) ?_
      refine z_istore C dX7_canCome_29 (by decide) ?_
      refine z_aload_n (i := 0) C dX7_canCome_31 rfl rfl ?_
      refine z_iload_n (i := 1) C dX7_canCome_32 rfl rfl ?_
      refine z_callV C Y_X7_isOpen V_X7_isOpen ml_RX7_130 (c_X7_isOpen l hM (i := i) hi) dX7_canCome_33 rfl rfl hM.1 ⟨_, _, rfl⟩ (fun _ => Nat.le_of_ble_eq_true rfl) ⟨Nat.le_of_ble_eq_true rfl, Nat.le_of_ble_eq_true rfl⟩ ⟨Nat.zero_le _, Nat.zero_le _⟩ (z_ri (fun x σ1 hx => ?_)) (z_nx)
      obtain ⟨rfl, rfl⟩ := hx
      refine z_if_eqB (tgt := 67) C dX7_canCome_36 (by decide) (fun ho => ?_) (fun ho => ?_)
      · refine z_iconst (v := 0) C dX7_canCome_67 (by decide) ?_
        exact z_iret C hr rfl dX7_canCome_68 (Nat.le_of_ble_eq_true rfl) (Nat.le_of_ble_eq_true rfl) ⟨_, rfl, by rw [show comB x a i n = false by simp [comB, ho]]; rfl, rfl⟩
      · refine z_iload C dX7_canCome_39 rfl ?_
        refine z_if_eq (tgt := 67) C dX7_canCome_41 (by decide) (fun h => absurd h (by decide)) (fun _ => ?_)
        refine z_iload_n (i := 3) C dX7_canCome_44 rfl rfl ?_
        refine z_iconst (v := 2) C dX7_canCome_45 (by decide) ?_
        refine z_icmp_ne (tgt := 63) C dX7_canCome_46 (by decide) (fun h2 => ?_) (fun h2 => ?_)
        · refine z_iconst (v := 1) C dX7_canCome_63 (by decide) ?_
          refine z_goto (tgt := 68) C dX7_canCome_64 (by decide) ?_
          exact z_iret C hr rfl dX7_canCome_68 (Nat.le_of_ble_eq_true rfl) (Nat.le_of_ble_eq_true rfl) ⟨_, rfl, by rw [show comB x a i n = true by simp only [comB, (show (decide (n < a 18 i) || (decide (n = 5) || decide (n = a 18 i + 1))) = true by simp [h14]), ho, decide_eq_false h2, decide_true, decide_false, Bool.not_true, Bool.not_false, Bool.and_true, Bool.true_and, Bool.true_or, Bool.or_true, Bool.false_or]]; rfl, rfl⟩
        · refine z_iload_n (i := 2) C dX7_canCome_49 rfl rfl ?_
          refine z_iconst (v := 3) C dX7_canCome_50 (by decide) ?_
          refine z_icmp_ne (tgt := 63) C dX7_canCome_51 (by decide) (fun h3 => ?_) (fun h3 => ?_)
          · refine z_iconst (v := 1) C dX7_canCome_63 (by decide) ?_
            refine z_goto (tgt := 68) C dX7_canCome_64 (by decide) ?_
            exact z_iret C hr rfl dX7_canCome_68 (Nat.le_of_ble_eq_true rfl) (Nat.le_of_ble_eq_true rfl) ⟨_, rfl, by rw [show comB x a i n = true by simp only [comB, (show (decide (n < a 18 i) || (decide (n = 5) || decide (n = a 18 i + 1))) = true by simp [h14]), ho, decide_eq_false h3, decide_true, decide_false, Bool.not_true, Bool.not_false, Bool.and_true, Bool.true_and, Bool.true_or, Bool.or_true, Bool.false_or]]; rfl, rfl⟩
          · refine z_aload_n (i := 0) C dX7_canCome_54 rfl rfl ?_
            refine z_iload_n (i := 1) C dX7_canCome_55 rfl rfl ?_
            refine z_callV C Y_X7_counts V_X7_counts ml_RX7_136 (c_X7_counts l hM hI) dX7_canCome_56 rfl rfl hM.1 ⟨_, _, rfl⟩ (fun _ => Nat.le_of_ble_eq_true rfl) ⟨Nat.le_of_ble_eq_true rfl, Nat.le_of_ble_eq_true rfl⟩ ⟨Nat.zero_le _, Nat.zero_le _⟩ (z_ri (fun x σ1 hx => ?_)) (z_nx)
            obtain ⟨rfl, rfl⟩ := hx
            refine z_iconst (v := -1) C dX7_canCome_59 (by decide) ?_
            refine z_icmp_eq (tgt := 67) C dX7_canCome_60 (by decide) (fun h4 => ?_) (fun h4 => ?_)
            · refine z_iconst (v := 0) C dX7_canCome_67 (by decide) ?_
              exact z_iret C hr rfl dX7_canCome_68 (Nat.le_of_ble_eq_true rfl) (Nat.le_of_ble_eq_true rfl) ⟨_, rfl, by rw [show comB x a i n = false by simp only [comB, (show (decide (n < a 18 i) || (decide (n = 5) || decide (n = a 18 i + 1))) = true by simp [h14]), ho, decide_eq_true h2, decide_eq_true h3, decide_eq_true h4, decide_true, decide_false, Bool.not_true, Bool.not_false, Bool.and_true, Bool.true_and, Bool.false_or, Bool.and_false]]; rfl, rfl⟩
            · refine z_iconst (v := 1) C dX7_canCome_63 (by decide) ?_
              refine z_goto (tgt := 68) C dX7_canCome_64 (by decide) ?_
              exact z_iret C hr rfl dX7_canCome_68 (Nat.le_of_ble_eq_true rfl) (Nat.le_of_ble_eq_true rfl) ⟨_, rfl, by rw [show comB x a i n = true by simp only [comB, (show (decide (n < a 18 i) || (decide (n = 5) || decide (n = a 18 i + 1))) = true by simp [h14]), ho, decide_eq_false h4, decide_true, decide_false, Bool.not_true, Bool.not_false, Bool.and_true, Bool.true_and, Bool.true_or, Bool.or_true, Bool.false_or]]; rfl, rfl⟩
    · refine z_iload_n (i := 2) C dX7_canCome_17 rfl rfl ?_
      refine z_iload_n (i := 3) C dX7_canCome_18 rfl rfl ?_
      refine z_iconst (v := 1) C dX7_canCome_19 (by decide) ?_
      refine z_iadd C dX7_canCome_20 ?_
      refine z_icmp_ne (tgt := 28) C dX7_canCome_21 (by decide) (fun h21 => ?_) (fun h21 => ?_)
      · refine z_iconst (v := 0) C dX7_canCome_28 (by decide) ?_
        refine z_istore C dX7_canCome_29 (by decide) ?_
        refine z_aload_n (i := 0) C dX7_canCome_31 rfl rfl ?_
        refine z_iload_n (i := 1) C dX7_canCome_32 rfl rfl ?_
        refine z_callV C Y_X7_isOpen V_X7_isOpen ml_RX7_130 (c_X7_isOpen l hM (i := i) hi) dX7_canCome_33 rfl rfl hM.1 ⟨_, _, rfl⟩ (fun _ => Nat.le_of_ble_eq_true rfl) ⟨Nat.le_of_ble_eq_true rfl, Nat.le_of_ble_eq_true rfl⟩ ⟨Nat.zero_le _, Nat.zero_le _⟩ (z_ri (fun x σ1 hx => ?_)) (z_nx)
        obtain ⟨rfl, rfl⟩ := hx
        refine z_if_eqB (tgt := 67) C dX7_canCome_36 (by decide) (fun ho => ?_) (fun ho => ?_)
        · refine z_iconst (v := 0) C dX7_canCome_67 (by decide) ?_
          exact z_iret C hr rfl dX7_canCome_68 (Nat.le_of_ble_eq_true rfl) (Nat.le_of_ble_eq_true rfl) ⟨_, rfl, by rw [show comB x a i n = false by simp [comB, ho]]; rfl, rfl⟩
        · refine z_iload C dX7_canCome_39 rfl ?_
          refine z_if_eq (tgt := 67) C dX7_canCome_41 (by decide) (fun _ => ?_) (fun h => absurd rfl h)
          refine z_iconst (v := 0) C dX7_canCome_67 (by decide) ?_
          exact z_iret C hr rfl dX7_canCome_68 (Nat.le_of_ble_eq_true rfl) (Nat.le_of_ble_eq_true rfl) ⟨_, rfl, by rw [show comB x a i n = false by simp only [comB, (show (decide (n < a 18 i) || (decide (n = 5) || decide (n = a 18 i + 1))) = false by rw [decide_eq_false h9, decide_eq_false h14, decide_eq_false h21]; rfl), Bool.false_and, Bool.and_false]]; rfl, rfl⟩
      · refine z_iconst (v := 1) C dX7_canCome_24 (by decide) ?_
        refine z_goto (tgt := 29) C dX7_canCome_25 (by decide) ?_
        refine z_istore C dX7_canCome_29 (by decide) ?_
        refine z_aload_n (i := 0) C dX7_canCome_31 rfl rfl ?_
        refine z_iload_n (i := 1) C dX7_canCome_32 rfl rfl ?_
        refine z_callV C Y_X7_isOpen V_X7_isOpen ml_RX7_130 (c_X7_isOpen l hM (i := i) hi) dX7_canCome_33 rfl rfl hM.1 ⟨_, _, rfl⟩ (fun _ => Nat.le_of_ble_eq_true rfl) ⟨Nat.le_of_ble_eq_true rfl, Nat.le_of_ble_eq_true rfl⟩ ⟨Nat.zero_le _, Nat.zero_le _⟩ (z_ri (fun x σ1 hx => ?_)) (z_nx)
        obtain ⟨rfl, rfl⟩ := hx
        refine z_if_eqB (tgt := 67) C dX7_canCome_36 (by decide) (fun ho => ?_) (fun ho => ?_)
        · refine z_iconst (v := 0) C dX7_canCome_67 (by decide) ?_
          exact z_iret C hr rfl dX7_canCome_68 (Nat.le_of_ble_eq_true rfl) (Nat.le_of_ble_eq_true rfl) ⟨_, rfl, by rw [show comB x a i n = false by simp [comB, ho]]; rfl, rfl⟩
        · refine z_iload C dX7_canCome_39 rfl ?_
          refine z_if_eq (tgt := 67) C dX7_canCome_41 (by decide) (fun h => absurd h (by decide)) (fun _ => ?_)
          refine z_iload_n (i := 3) C dX7_canCome_44 rfl rfl ?_
          refine z_iconst (v := 2) C dX7_canCome_45 (by decide) ?_
          refine z_icmp_ne (tgt := 63) C dX7_canCome_46 (by decide) (fun h2 => ?_) (fun h2 => ?_)
          · refine z_iconst (v := 1) C dX7_canCome_63 (by decide) ?_
            refine z_goto (tgt := 68) C dX7_canCome_64 (by decide) ?_
            exact z_iret C hr rfl dX7_canCome_68 (Nat.le_of_ble_eq_true rfl) (Nat.le_of_ble_eq_true rfl) ⟨_, rfl, by rw [show comB x a i n = true by simp only [comB, (show (decide (n < a 18 i) || (decide (n = 5) || decide (n = a 18 i + 1))) = true by rw [decide_eq_true h21]; simp), ho, decide_eq_false h2, decide_true, decide_false, Bool.not_true, Bool.not_false, Bool.and_true, Bool.true_and, Bool.true_or, Bool.or_true, Bool.false_or]]; rfl, rfl⟩
          · refine z_iload_n (i := 2) C dX7_canCome_49 rfl rfl ?_
            refine z_iconst (v := 3) C dX7_canCome_50 (by decide) ?_
            refine z_icmp_ne (tgt := 63) C dX7_canCome_51 (by decide) (fun h3 => ?_) (fun h3 => ?_)
            · refine z_iconst (v := 1) C dX7_canCome_63 (by decide) ?_
              refine z_goto (tgt := 68) C dX7_canCome_64 (by decide) ?_
              exact z_iret C hr rfl dX7_canCome_68 (Nat.le_of_ble_eq_true rfl) (Nat.le_of_ble_eq_true rfl) ⟨_, rfl, by rw [show comB x a i n = true by simp only [comB, (show (decide (n < a 18 i) || (decide (n = 5) || decide (n = a 18 i + 1))) = true by rw [decide_eq_true h21]; simp), ho, decide_eq_false h3, decide_true, decide_false, Bool.not_true, Bool.not_false, Bool.and_true, Bool.true_and, Bool.true_or, Bool.or_true, Bool.false_or]]; rfl, rfl⟩
            · refine z_aload_n (i := 0) C dX7_canCome_54 rfl rfl ?_
              refine z_iload_n (i := 1) C dX7_canCome_55 rfl rfl ?_
              refine z_callV C Y_X7_counts V_X7_counts ml_RX7_136 (c_X7_counts l hM hI) dX7_canCome_56 rfl rfl hM.1 ⟨_, _, rfl⟩ (fun _ => Nat.le_of_ble_eq_true rfl) ⟨Nat.le_of_ble_eq_true rfl, Nat.le_of_ble_eq_true rfl⟩ ⟨Nat.zero_le _, Nat.zero_le _⟩ (z_ri (fun x σ1 hx => ?_)) (z_nx)
              obtain ⟨rfl, rfl⟩ := hx
              refine z_iconst (v := -1) C dX7_canCome_59 (by decide) ?_
              refine z_icmp_eq (tgt := 67) C dX7_canCome_60 (by decide) (fun h4 => ?_) (fun h4 => ?_)
              · refine z_iconst (v := 0) C dX7_canCome_67 (by decide) ?_
                exact z_iret C hr rfl dX7_canCome_68 (Nat.le_of_ble_eq_true rfl) (Nat.le_of_ble_eq_true rfl) ⟨_, rfl, by rw [show comB x a i n = false by simp only [comB, (show (decide (n < a 18 i) || (decide (n = 5) || decide (n = a 18 i + 1))) = true by rw [decide_eq_true h21]; simp), ho, decide_eq_true h2, decide_eq_true h3, decide_eq_true h4, decide_true, decide_false, Bool.not_true, Bool.not_false, Bool.and_true, Bool.true_and, Bool.false_or, Bool.and_false]]; rfl, rfl⟩
              · refine z_iconst (v := 1) C dX7_canCome_63 (by decide) ?_
                refine z_goto (tgt := 68) C dX7_canCome_64 (by decide) ?_
                exact z_iret C hr rfl dX7_canCome_68 (Nat.le_of_ble_eq_true rfl) (Nat.le_of_ble_eq_true rfl) ⟨_, rfl, by rw [show comB x a i n = true by simp only [comB, (show (decide (n < a 18 i) || (decide (n = 5) || decide (n = a 18 i + 1))) = true by rw [decide_eq_true h21]; simp), ho, decide_eq_false h4, decide_true, decide_false, Bool.not_true, Bool.not_false, Bool.and_true, Bool.true_and, Bool.true_or, Bool.or_true, Bool.false_or]]; rfl, rfl⟩
end
