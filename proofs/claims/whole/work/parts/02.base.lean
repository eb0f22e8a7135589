/-! the strings that the classes name: their lengths and bytes -/
def s_txt : List String := ["after", "before", "first", "both", "far", "dead", "sign", "votes", "apart", "if", "and", "not", "share", "people", "parts", "year"]
def s_len : List Nat := s_txt.map (fun s => s.length)
def s_byt : List (List Int32) := s_txt.map (fun s => s.toList.map (fun c => Int32.ofNat c.toNat))
abbrev VE : Type := va_G × (ClassId × ClassId × ClassId × ClassId × ClassId) × (Nat → Nat) × (Nat → Nat)
abbrev eB (E : VE) : ClassId := E.2.1.1
abbrev eI (E : VE) : ClassId := E.2.1.2.1
abbrev eJ (E : VE) : ClassId := E.2.1.2.2.1
abbrev eZ (E : VE) : ClassId := E.2.1.2.2.2.1
abbrev eS (E : VE) : ClassId := E.2.1.2.2.2.2
abbrev tysE (E : VE) : List (ClassId × FieldType) := [(eB E, .byte), (eI E, .int), (eJ E, .long), (eZ E, .boolean), (eS E, .object "NameBoard$State")]
/-- what holds of the strings: their cells lie outside A; where the constants are -/
def s_refs : List (String × Nat × String × Nat) := [("NameBoard$Speech", 80, "after", 0), ("NameBoard$Speech", 123, "before", 1), ("NameBoard$Acts", 74, "first", 2), ("NameBoard$Acts", 80, "both", 3), ("NameBoard$Acts", 82, "far", 4), ("NameBoard$Acts", 84, "dead", 5), ("NameBoard$Acts", 86, "sign", 6), ("NameBoard$Acts", 88, "votes", 7), ("NameBoard$Acts", 117, "apart", 8), ("NameBoard$Acts", 93, "if", 9), ("NameBoard$Acts", 98, "not", 11), ("NameBoard$Acts", 123, "share", 12), ("NameBoard$Acts", 125, "people", 13), ("NameBoard$Acts", 127, "parts", 14), ("NameBoard$Acts", 129, "year", 15), ("NameBoard$Acts", 107, "and", 10), ("NameBoardModel", 232, "after", 0), ("NameBoardModel", 234, "before", 1), ("NameBoardModel", 307, "first", 2), ("NameBoardModel", 309, "both", 3), ("NameBoardModel", 311, "far", 4), ("NameBoardModel", 313, "dead", 5), ("NameBoardModel", 315, "sign", 6), ("NameBoardModel", 317, "votes", 7), ("NameBoardModel", 341, "apart", 8), ("NameBoardModel", 342, "if", 9), ("NameBoardModel", 327, "not", 11), ("NameBoardModel", 319, "share", 12), ("NameBoardModel", 321, "people", 13), ("NameBoardModel", 323, "parts", 14), ("NameBoardModel", 325, "year", 15), ("NameBoardModel", 347, "and", 10)]
def vS (adK adV : Nat → Nat) (A : Nat → Prop) (U : State) (H : Heap) : Prop := ∀ i : Nat, i < 16 → va_O "java/lang/String" (adK i) A U H ∧ va_OF "java/lang/String" "coder" "B" (.int 0) (adK i) A U H ∧ va_OF "java/lang/String" "value" "[B" (.ref (adV i)) (adK i) A U H ∧ va_T .byte (adV i) (s_len.getD i 0) (fun j => .int ((s_byt.getD i []).getD j 0)) A U H
theorem vS.moved {adK adV : Nat → Nat} {A : Nat → Prop} {u U : State} {H : Heap} (hvm : u.vm.Alike U.vm) (h : vS adK adV A u H) : vS adK adV A U H := fun i hi => ⟨va_O.moved hvm (h i hi).1, va_OF.moved hvm (h i hi).2.1, va_OF.moved hvm (h i hi).2.2.1, va_T.moved hvm (h i hi).2.2.2⟩
theorem vS.kept {adK adV : Nat → Nat} {A : Nat → Prop} {U : State} {H H1 : Heap} (h : vS adK adV A U H) (hq : ∀ a : Nat, a < H.size → ¬ A a → H1[a]? = H[a]?) : vS adK adV A U H1 := fun i hi => ⟨(h i hi).1.kept hq, (h i hi).2.1.kept hq, (h i hi).2.2.1.kept hq, (h i hi).2.2.2.kept hq⟩
theorem vS.narrow {adK adV : Nat → Nat} {A B : Nat → Prop} {U : State} {H : Heap} (h : vS adK adV A U H) (hAB : ∀ q, B q → A q) : vS adK adV B U H := fun i hi => ⟨(h i hi).1.narrow hAB, (h i hi).2.1.narrow hAB, (h i hi).2.2.1.narrow hAB, (h i hi).2.2.2.narrow hAB⟩
def n_refs : List (String × Nat × MethodName) := [("NameBoard", 9, ⟨"NameBoard$State", "<init>", "()V"⟩), ("NameBoard$State", 17, ⟨"NameBoard$Land", "<init>", "()V"⟩), ("NameBoard$State", 24, ⟨"NameBoard$Speech", "<init>", "()V"⟩), ("NameBoard$State", 31, ⟨"NameBoard$Acts", "<init>", "()V"⟩), ("NameBoard$State", 38, ⟨"NameBoard$Board", "<init>", "()V"⟩), ("NameBoard$State", 45, ⟨"NameBoard$Signs", "<init>", "()V"⟩), ("NameBoard", 22, ⟨"NameBoard$Tape", "<init>", "()V"⟩), ("NameBoard", 29, ⟨"NameBoard$Row", "<init>", "()V"⟩), ("NameBoard", 36, ⟨"NameBoard$View", "<init>", "()V"⟩), ("NameBoard$View", 28, ⟨"NameBoard$Row", "<init>", "()V"⟩), ("NameBoard", 50, ⟨"NameBoard$Paper", "<init>", "()V"⟩), ("NameBoard$State", 54, ⟨"NameBoard", "copyFlags", "([Z[ZI)V"⟩), ("NameBoard$Acts", 149, ⟨"NameBoard", "copyFlags", "([Z[ZI)V"⟩), ("NameBoard$Board", 66, ⟨"NameBoard", "copyFlags", "([Z[ZI)V"⟩)]
def SF (E : VE) (A : Nat → Prop) (U : State) (H : Heap) : Prop :=
  vS E.2.2.1 E.2.2.2 A U H ∧ va_Z "java/lang/String" "COMPACT_STRINGS" "Z" (.int 1) A U H ∧ va_Zq "jdk/internal/util/Preconditions" "SIOOBE_FORMATTER" "Ljava/util/function/BiFunction;" A U H ∧ va_AO "NameBoard$State" U ∧ (∀ q ∈ n_refs, va_Nw (.methodLinkNest q.1 q.2.1 q.2.2 "NameBoard") U) ∧ ∀ q ∈ s_refs, vk_R q.1 q.2.1 q.2.2.1 (E.2.2.1 q.2.2.2) U
theorem SF.kept {E : VE} {A : Nat → Prop} {U : State} {H H1 : Heap} (h : SF E A U H) (hq : ∀ a : Nat, a < H.size → ¬ A a → H1[a]? = H[a]?) : SF E A U H1 := ⟨h.1.kept hq, h.2.1.kept hq, h.2.2.1.kept hq, h.2.2.2⟩
theorem SF.narrow {E : VE} {A B : Nat → Prop} {U : State} {H : Heap} (h : SF E A U H) (hAB : ∀ q, B q → A q) : SF E B U H := ⟨h.1.narrow hAB, h.2.1.narrow hAB, h.2.2.1.narrow hAB, h.2.2.2⟩
theorem SF.warm {E : VE} {A : Nat → Prop} {s U : State} {H : Heap} (hW : s.WarmedH U.vm) (h : SF E A s H) : SF E A U H := ⟨h.1.moved hW.alike, h.2.1.moved hW.alike, h.2.2.1.moved hW.alike, h.2.2.2.1.moved hW.alike, fun q hq => (h.2.2.2.2.1 q hq).warmM hW, fun q hq => (h.2.2.2.2.2 q hq).warm hW⟩
theorem SF.same {E : VE} {A : Nat → Prop} {u U : State} {H : Heap} (hv : U.vm = u.vm) (h : SF E A u H) : SF E A U H := ⟨h.1.moved (by rw [hv]; exact Vm.Alike.refl u.vm), h.2.1.moved (by rw [hv]; exact Vm.Alike.refl u.vm), h.2.2.1.moved (by rw [hv]; exact Vm.Alike.refl u.vm), h.2.2.2.1.moved (by rw [hv]; exact Vm.Alike.refl u.vm), fun q hq => (h.2.2.2.2.1 q hq).same rfl hv.symm, fun q hq => (h.2.2.2.2.2 q hq).same hv⟩
abbrev VX : Type := Program × Launch × Env × Room × State × MethodId × Array Value × List Frame × Method × Code × (State → Prop) × (Nat → Prop) × Nat × VE
/-- from every heap that holds the world ws, with these locals and this stack at pc, the machine comes to its end -/
def VV (X : VX) (a b : Nat) (ws : va_W) (lv : List (Nat × Value)) (pc : Nat) (st : List Value) : Prop := match X with
  | (p, l, e, R, s, m, args, below, meth, c, Q, A, nL, E) => ∀ (H : Heap) (locs : List Loc) (ls : Array Slot), va_P E.1 vwCl ws H → va_D A ws → va_S A s.heap H locs → lv_has ls nL lv → W p l e R s m args below meth c H locs a b Q (F0 m pc ls st)
def VC (X : VX) (cc : ByteArray) (n : Nat) (own : String) (R : Room) (E : VE) (l : Launch) : Prop := match X with
  | (p, l', e, R', s, m, args, _, _, c, _, A, nL, E') => p.tables.exec = Jvm.exec ∧ c.code = cc ∧ c.maxLocals = n ∧ s.vm.findClass own = some m.cls ∧ (∀ w ∈ lwG, w.before args s = true) ∧ va_K E.1 vwCl (tysE E) s ∧ SF E A s s.heap ∧ (∀ q, s.heap.size ≤ q → A q) ∧ R' = R ∧ nL = n ∧ E' = E ∧ l' = l
theorem va_is {ws ws' : va_W} (is : List Nat) (hs : is.map (fun i => ws[i]?) = ws'.map some) : ∀ (k : Nat) (q : Nat × va_E), ws'[k]? = some q → ∃ i, is[k]? = some i ∧ ws[i]? = some q := by
  intro k q hq
  have h1 : (is.map (fun i => ws[i]?))[k]? = some (some q) := by rw [hs, List.getElem?_map, hq]; rfl
  rw [List.getElem?_map] at h1
  cases hi : is[k]? with
  | none => rw [hi] at h1; cases h1
  | some i => rw [hi] at h1; exact ⟨i, rfl, Option.some.inj h1⟩
theorem va_rng (ws : va_W) : (List.range ws.length).map (fun i => ws[i]?) = ws.map some := by
  apply List.ext_getElem?
  intro i
  by_cases h : i < ws.length
  · simp [h]
  · simp [h, Nat.le_of_not_lt h]
def rmL (d mc ms : Nat) : Room := { frames := d, cells := mc, slots := ms, locals := 40 * d }
def PK (E : VE) (A : Nat → Prop) (U : State) : Prop := va_K E.1 vwCl (tysE E) U ∧ SF E A U U.heap
def mPre (E : VE) (av : List Value) (w0 : va_W) (sz : Nat) : Array Value → State → Prop := va_Pc av (fun U => U.heap.size = sz ∧ va_P E.1 vwCl w0 U.heap ∧ PK E (va_A w0 sz) U ∧ va_D (fun _ => True) w0)
def mB {S : Type} (E : VE) (w0 : va_W) (sz : Nat) (wf : S → va_W) : S → State → Prop := fun u t => va_P E.1 vwCl (wf u) t.heap ∧ va_K E.1 vwCl (tysE E) t ∧ va_D (va_A w0 sz) (wf u)
def MI {S : Type} (l : Launch) (y : MethodName) (cc : ByteArray) (n : Nat) (ty : FieldType) (d mc ms : Nat) (E : VE) (av : List Value) (w0 : va_W) (wf : S → va_W) (post : Int32 → S → Prop) : Prop :=
  ∀ sz, Met l y (.code y cc n (some ty) :: lwG) (rmL d mc ms) (mPre E av w0 sz) (va_Qi post (mB E w0 sz wf) (va_A w0 sz)) mc ms (va_A w0 sz)
def ML {S : Type} (l : Launch) (y : MethodName) (cc : ByteArray) (n : Nat) (d mc ms : Nat) (E : VE) (av : List Value) (w0 : va_W) (wf : S → va_W) (post : Int64 → S → Prop) : Prop :=
  ∀ sz, Met l y (.code y cc n (some .long) :: lwG) (rmL d mc ms) (mPre E av w0 sz) (va_Ql post (mB E w0 sz wf) (va_A w0 sz)) mc ms (va_A w0 sz)
def MV {S : Type} (l : Launch) (y : MethodName) (cc : ByteArray) (n : Nat) (d mc ms : Nat) (E : VE) (av : List Value) (w0 : va_W) (wf : S → va_W) (post : S → Prop) : Prop :=
  ∀ sz, Met l y (.code y cc n none :: lwG) (rmL d mc ms) (mPre E av w0 sz) (va_Qv post (mB E w0 sz wf) (va_A w0 sz)) mc ms (va_A w0 sz)
theorem mPre_blind {E : VE} {av : List Value} {w0 : va_W} {sz : Nat} : FrameBlind (mPre E av w0 sz) := fun a U g mk q => by
  obtain ⟨q0, q1, qP, ⟨qK, qF⟩, qD⟩ := q
  exact ⟨q0, q1, qP, ⟨va_K.moved (u := U) (U := U.calling g mk a) (Vm.Alike.refl U.vm) qK, SF.same (u := U) rfl qF⟩, qD⟩

def RetI {S : Type} (X : VX) (cc : ByteArray) (ty : FieldType) (mc ms : Nat) (wf : S → va_W) (post : Int32 → S → Prop) : Prop := ∀ (a b pc : Nat) (lv : List (Nat × Value)) (r : Int32) (u : S), decode cc pc = .ok (.ireturn, 1) → narrow ty (.int r) = .int r → post r u → a ≤ mc → b ≤ ms → VV X a b (wf u) lv pc [.int r]
def RetL {S : Type} (X : VX) (cc : ByteArray) (mc ms : Nat) (wf : S → va_W) (post : Int64 → S → Prop) : Prop := ∀ (a b pc : Nat) (lv : List (Nat × Value)) (r : Int64) (u : S), decode cc pc = .ok (.lreturn, 1) → post r u → a ≤ mc → b ≤ ms → VV X a b (wf u) lv pc [.long r]
def RetV {S : Type} (X : VX) (cc : ByteArray) (mc ms : Nat) (wf : S → va_W) (post : S → Prop) : Prop := ∀ (a b pc : Nat) (lv : List (Nat × Value)) (u : S), decode cc pc = .ok (.return_, 1) → post u → a ≤ mc → b ≤ ms → VV X a b (wf u) lv pc []
abbrev Md : Type := (Nat → Int32) × (Nat → Nat → Int32) × (Nat → Nat → Int64) × (Nat → Nat → Int8) × (Nat → Nat → Bool) × (Nat → Nat → Option Nat) × (Nat → Nat)
def gF (u : Md) (k : Nat) : Int32 := u.1 k
def gA (u : Md) (k : Nat) : Nat → Int32 := u.2.1 k
def gL (u : Md) (k : Nat) : Nat → Int64 := u.2.2.1 k
def gB (u : Md) (k : Nat) : Nat → Int8 := u.2.2.2.1 k
def gZ (u : Md) (k : Nat) : Nat → Bool := u.2.2.2.2.1 k
def gO (u : Md) (k : Nat) : Nat → Option Nat := u.2.2.2.2.2.1 k
def gX (u : Md) (k : Nat) : Nat := u.2.2.2.2.2.2 k
def sF (u : Md) (k : Nat) (v : Int32) : Md := (va_up u.1 k v, u.2)
def sA (u : Md) (k : Nat) (f : Nat → Int32) : Md := (u.1, va_up u.2.1 k f, u.2.2)
def sL (u : Md) (k : Nat) (f : Nat → Int64) : Md := (u.1, u.2.1, va_up u.2.2.1 k f, u.2.2.2)
def sB (u : Md) (k : Nat) (f : Nat → Int8) : Md := (u.1, u.2.1, u.2.2.1, va_up u.2.2.2.1 k f, u.2.2.2.2)
def sZ (u : Md) (k : Nat) (f : Nat → Bool) : Md := (u.1, u.2.1, u.2.2.1, u.2.2.2.1, va_up u.2.2.2.2.1 k f, u.2.2.2.2.2)
def sO (u : Md) (k : Nat) (f : Nat → Option Nat) : Md := (u.1, u.2.1, u.2.2.1, u.2.2.2.1, u.2.2.2.2.1, va_up u.2.2.2.2.2.1 k f, u.2.2.2.2.2.2)
def sX (u : Md) (k : Nat) (v : Nat) : Md := (u.1, u.2.1, u.2.2.1, u.2.2.2.1, u.2.2.2.2.1, u.2.2.2.2.2.1, va_up u.2.2.2.2.2.2 k v)
def tA (u : Md) (k : Nat) (i : Int32) (x : Int32) : Md := sA u k (va_up (gA u k) i.toNatClampNeg x)
def tL (u : Md) (k : Nat) (i : Int32) (x : Int64) : Md := sL u k (va_up (gL u k) i.toNatClampNeg x)
def tB (u : Md) (k : Nat) (i : Int32) (x : Int32) : Md := sB u k (va_up (gB u k) i.toNatClampNeg x.toInt8)
def tZ (u : Md) (k : Nat) (i : Int32) (x : Int32) : Md := sZ u k (va_up (gZ u k) i.toNatClampNeg (decide (x &&& 1 = 1)))
def b8 (f : Nat → Int8) : Nat → Int32 := fun j => (f j).toInt32
def bz (f : Nat → Bool) : Nat → Int32 := fun j => if f j then 1 else 0
abbrev i2z (x : Int32) : Bool := decide (x &&& 1 = 1)
theorem up_b8 (f : Nat → Int8) (i : Nat) (x : Int32) : upd (b8 f) i (vp_nar .byte x) = b8 (va_up f i x.toInt8) := by
  funext j
  by_cases h : j = i
  · simp [upd, b8, va_up, h, vp_nar, narrow]
  · simp [upd, b8, va_up, h]
theorem and1 (x : Int32) : x &&& 1 = 0 ∨ x &&& 1 = 1 := by
  have h : ∀ b : BitVec 32, b &&& 1#32 = 0#32 ∨ b &&& 1#32 = 1#32 := by
    intro b
    have hb : (b &&& 1#32).toNat = b.toNat % 2 := by rw [BitVec.toNat_and]; exact Nat.and_one_is_mod _
    rcases Nat.mod_two_eq_zero_or_one b.toNat with h | h
    · exact Or.inl (BitVec.eq_of_toNat_eq (by rw [hb, h]; rfl))
    · exact Or.inr (BitVec.eq_of_toNat_eq (by rw [hb, h]; rfl))
  rcases h x.toBitVec with h | h
  · exact Or.inl (Int32.toBitVec_inj.mp (by rw [Int32.toBitVec_and]; exact h))
  · exact Or.inr (Int32.toBitVec_inj.mp (by rw [Int32.toBitVec_and]; exact h))
theorem nar_z (x : Int32) : vp_nar .boolean x = x &&& 1 := by
  simp [vp_nar, narrow]
theorem up_bz (f : Nat → Bool) (i : Nat) (x : Int32) : upd (bz f) i (vp_nar .boolean x) = bz (va_up f i (i2z x)) := by
  funext j
  rw [nar_z]
  by_cases h : j = i
  · rcases and1 x with h1 | h1 <;> simp [upd, bz, va_up, h, i2z, h1]
  · simp [upd, bz, va_up, h]
theorem fit_b8 (f : Nat → Int8) (j : Nat) : fits .byte (.int (b8 f j)) = true := by
  have h1 := Int8.le_toInt (f j)
  have h2 := Int8.toInt_lt (f j)
  simp only [fits, b8, Bool.and_eq_true, decide_eq_true_eq, Int32.le_iff_toInt_le, Int8.toInt_toInt32]
  exact ⟨h1, by show (f j).toInt ≤ 127; omega⟩
theorem fit_bz (f : Nat → Bool) (j : Nat) : fits .boolean (.int (bz f j)) = true := by
  unfold bz; by_cases h : f j <;> simp [fits, h]
theorem cpy_b8 (f g : Nat → Int8) (a b n : Nat) : va_cpy (b8 f) (b8 g) a b n = b8 (va_cpy f g a b n) := by
  funext j; unfold va_cpy b8; by_cases h : b ≤ j ∧ j < b + n <;> simp [h]
theorem cpy_bz (f g : Nat → Bool) (a b n : Nat) : va_cpy (bz f) (bz g) a b n = bz (va_cpy f g a b n) := by
  funext j; unfold va_cpy bz; by_cases h : b ≤ j ∧ j < b + n <;> simp [h]
theorem nz01 {r : Int32} (h : r = 0 ∨ r = 1) : narrow .boolean (.int r) = .int r := by rcases h with rfl | rfl <;> rfl
theorem fz01 {r : Int32} (h : r = 0 ∨ r = 1) : fits .boolean (.int r) = true := by rcases h with rfl | rfl <;> rfl
def cpyOK (sp dp n : Int32) (N0 N1 : Nat) : Prop := ¬ sp < 0 ∧ ¬ dp < 0 ∧ ¬ n < 0 ∧ sp.toNatClampNeg + n.toNatClampNeg ≤ N0 ∧ dp.toNatClampNeg + n.toNatClampNeg ≤ N1
def imin (x y : Int32) : Int32 := if y < x then y else x
def imax (x y : Int32) : Int32 := if x < y then y else x
theorem va_nd_range (n : Nat) : va_nd (List.range n) = true := by
  have key : ∀ (l : List Nat), l.Nodup → va_nd l = true := by
    intro l
    induction l with
    | nil => intro _; rfl
    | cons a l ih => intro h; rw [List.nodup_cons] at h; simp [va_nd, h.1, ih h.2]
  exact key _ List.nodup_range
def VInit (X : VX) : Prop := match X with | (_, _, _, _, _, _, _, _, meth, _, _, _, _, _) => meth.name = "<init>"
theorem MI.of {S : Type} {l : Launch} {y : MethodName} {cc : ByteArray} {n : Nat} {ty : FieldType} {d mc ms : Nat} {E : VE} {av : List Value} {w0 : va_W} {wf : S → va_W} {post : Int32 → S → Prop} {own : String} (hy : plainName y.cls = true) (ho : y.cls = own) (hlen : (lg_sl av).length ≤ n) (body : ∀ X : VX, VC X cc n own (rmL d mc ms) E l → (y.name = "<init>" → VInit X) → RetI X cc ty mc ms wf post → VV X 0 0 w0 (lv_args 0 av) 0 []) : MI l y cc n ty d mc ms E av w0 wf post := by
  subst ho
  intro sz
  refine Met.ofW (cc := cc) (maxL := n) hy rfl ?_
  intro p e s m args below meth c s₁ B hml hv
  obtain ⟨rfl, hsz, hP, ⟨hK, hSF⟩, hD0⟩ := hv
  have hx := B.exec
  have hb := B.bytes
  have hr := B.returns
  have hts := atoms_spec B.pre
  have hown : s.vm.findClass y.cls = some m.cls := findClass_of_methodNamed B.named
  have hlocks := B.notSynchronized
  have hin : y.name = "<init>" → meth.name = "<init>" := fun h => ((name_of_methodNamed B.named B.method).1).trans h
  subst hsz
  have hD := hD0.self (sz := s.heap.size)
  have hA : ∀ q, s.heap.size ≤ q → va_A w0 s.heap.size q := fun q h => Or.inr h
  have hl := lv_entry av (n := n) hlen
  rw [lg_entry_eq]
  refine body (p, l, e, rmL d mc ms, s, m, av.toArray, below, meth, c, _, va_A w0 s.heap.size, n, E) ⟨hx, hb, hml, hown, fun w h => hts w (List.mem_cons_of_mem _ h), hK, hSF, hA, rfl, rfl, rfl, rfl⟩ hin ?_ s.heap [] _ hP hD va_S.rf hl
  intro a b pc lv r u hdg hn hq h1 h2 H locs ls hP hD hS hl
  refine W.widen (k := mc) (n := ms) h1 h2 ?_
  exact W.zret (v := r) hx hb hr hn (fun t ht hW => ⟨⟨r, u, rfl, hq, by rw [ht]; exact hP, va_K.moved hW.alike hK, hD⟩, hS.F ht⟩) hS.2.2 hdg
theorem ML.of {S : Type} {l : Launch} {y : MethodName} {cc : ByteArray} {n : Nat}  {d mc ms : Nat} {E : VE} {av : List Value} {w0 : va_W} {wf : S → va_W} {post : Int64 → S → Prop} {own : String} (hy : plainName y.cls = true) (ho : y.cls = own) (hlen : (lg_sl av).length ≤ n) (body : ∀ X : VX, VC X cc n own (rmL d mc ms) E l → (y.name = "<init>" → VInit X) → RetL X cc mc ms wf post → VV X 0 0 w0 (lv_args 0 av) 0 []) : ML l y cc n d mc ms E av w0 wf post := by
  subst ho
  intro sz
  refine Met.ofW (cc := cc) (maxL := n) hy rfl ?_
  intro p e s m args below meth c s₁ B hml hv
  obtain ⟨rfl, hsz, hP, ⟨hK, hSF⟩, hD0⟩ := hv
  have hx := B.exec
  have hb := B.bytes
  have hr := B.returns
  have hts := atoms_spec B.pre
  have hown : s.vm.findClass y.cls = some m.cls := findClass_of_methodNamed B.named
  have hlocks := B.notSynchronized
  have hin : y.name = "<init>" → meth.name = "<init>" := fun h => ((name_of_methodNamed B.named B.method).1).trans h
  subst hsz
  have hD := hD0.self (sz := s.heap.size)
  have hA : ∀ q, s.heap.size ≤ q → va_A w0 s.heap.size q := fun q h => Or.inr h
  have hl := lv_entry av (n := n) hlen
  rw [lg_entry_eq]
  refine body (p, l, e, rmL d mc ms, s, m, av.toArray, below, meth, c, _, va_A w0 s.heap.size, n, E) ⟨hx, hb, hml, hown, fun w h => hts w (List.mem_cons_of_mem _ h), hK, hSF, hA, rfl, rfl, rfl, rfl⟩ hin ?_ s.heap [] _ hP hD va_S.rf hl
  intro a b pc lv r u hdg hq h1 h2 H locs ls hP hD hS hl
  refine W.widen (k := mc) (n := ms) h1 h2 ?_
  exact W.lret (v := r) hx hb hr (fun t ht hW => ⟨⟨r, u, rfl, hq, by rw [ht]; exact hP, va_K.moved hW.alike hK, hD⟩, hS.F ht⟩) hS.2.2 hdg
theorem MV.of {S : Type} {l : Launch} {y : MethodName} {cc : ByteArray} {n : Nat}  {d mc ms : Nat} {E : VE} {av : List Value} {w0 : va_W} {wf : S → va_W} {post : S → Prop} {own : String} (hy : plainName y.cls = true) (ho : y.cls = own) (hlen : (lg_sl av).length ≤ n) (body : ∀ X : VX, VC X cc n own (rmL d mc ms) E l → (y.name = "<init>" → VInit X) → RetV X cc mc ms wf post → VV X 0 0 w0 (lv_args 0 av) 0 []) : MV l y cc n d mc ms E av w0 wf post := by
  subst ho
  intro sz
  refine Met.ofW (cc := cc) (maxL := n) hy rfl ?_
  intro p e s m args below meth c s₁ B hml hv
  obtain ⟨rfl, hsz, hP, ⟨hK, hSF⟩, hD0⟩ := hv
  have hx := B.exec
  have hb := B.bytes
  have hr := B.returns
  have hts := atoms_spec B.pre
  have hown : s.vm.findClass y.cls = some m.cls := findClass_of_methodNamed B.named
  have hlocks := B.notSynchronized
  have hin : y.name = "<init>" → meth.name = "<init>" := fun h => ((name_of_methodNamed B.named B.method).1).trans h
  subst hsz
  have hD := hD0.self (sz := s.heap.size)
  have hA : ∀ q, s.heap.size ≤ q → va_A w0 s.heap.size q := fun q h => Or.inr h
  have hl := lv_entry av (n := n) hlen
  rw [lg_entry_eq]
  refine body (p, l, e, rmL d mc ms, s, m, av.toArray, below, meth, c, _, va_A w0 s.heap.size, n, E) ⟨hx, hb, hml, hown, fun w h => hts w (List.mem_cons_of_mem _ h), hK, hSF, hA, rfl, rfl, rfl, rfl⟩ hin ?_ s.heap [] _ hP hD va_S.rf hl
  intro a b pc lv u hdg hq h1 h2 H locs ls hP hD hS hl
  refine W.widen (k := mc) (n := ms) h1 h2 ?_
  exact W.vret hx hb hr (fun t ht hW => ⟨⟨u, rfl, hq, by rw [ht]; exact hP, va_K.moved hW.alike hK, hD⟩, hS.F ht⟩) hS.2.2 hdg
theorem v_iconst {X : VX} {cc : ByteArray} {n : Nat} {own : String} {R : Room} {E : VE} {l : Launch} (C : VC X cc n own R E l) {a b : Nat} {ws : va_W} {lv : List (Nat × Value)} {pc : Nat} {st : List Value} {k : Int} {v : Int32} (hdg : decode cc pc = .ok (.iconst k, 1)) (hv : Int32.ofInt k = v) (kk : VV X a b ws lv (pc + 1) (.int v :: st)) : VV X a b ws lv pc st := by
  obtain ⟨p, l', e, R', s, m, args, below, meth, c, Q, A, nL, E'⟩ := X
  obtain ⟨hx, hb, hml, hown, hts, hK, hSF, hA, rfl, rfl, rfl, rfl⟩ := C
  intro H locs ls hP hD hS hl
  exact lv_iconst hx hb hdg hv (kk H locs ls hP hD hS hl)
theorem v_bipush {X : VX} {cc : ByteArray} {n : Nat} {own : String} {R : Room} {E : VE} {l : Launch} (C : VC X cc n own R E l) {a b : Nat} {ws : va_W} {lv : List (Nat × Value)} {pc : Nat} {st : List Value} {k : Int} {v : Int32} (hdg : decode cc pc = .ok (.bipush k, 2)) (hv : (Int8.ofInt k).toInt32 = v) (kk : VV X a b ws lv (pc + 2) (.int v :: st)) : VV X a b ws lv pc st := by
  obtain ⟨p, l', e, R', s, m, args, below, meth, c, Q, A, nL, E'⟩ := X
  obtain ⟨hx, hb, hml, hown, hts, hK, hSF, hA, rfl, rfl, rfl, rfl⟩ := C
  intro H locs ls hP hD hS hl
  exact lv_bipush hx hb hdg hv (kk H locs ls hP hD hS hl)
theorem v_sipush {X : VX} {cc : ByteArray} {n : Nat} {own : String} {R : Room} {E : VE} {l : Launch} (C : VC X cc n own R E l) {a b : Nat} {ws : va_W} {lv : List (Nat × Value)} {pc : Nat} {st : List Value} {k : Int} {v : Int32} (hdg : decode cc pc = .ok (.sipush k, 3)) (hv : (Int16.ofInt k).toInt32 = v) (kk : VV X a b ws lv (pc + 3) (.int v :: st)) : VV X a b ws lv pc st := by
  obtain ⟨p, l', e, R', s, m, args, below, meth, c, Q, A, nL, E'⟩ := X
  obtain ⟨hx, hb, hml, hown, hts, hK, hSF, hA, rfl, rfl, rfl, rfl⟩ := C
  intro H locs ls hP hD hS hl
  exact lv_sipush hx hb hdg hv (kk H locs ls hP hD hS hl)
theorem v_lconst {X : VX} {cc : ByteArray} {n : Nat} {own : String} {R : Room} {E : VE} {l : Launch} (C : VC X cc n own R E l) {a b : Nat} {ws : va_W} {lv : List (Nat × Value)} {pc : Nat} {st : List Value} {k : Fin 2} {v : Int64} (hdg : decode cc pc = .ok (.lconst k, 1)) (hv : Int64.ofNat k = v) (kk : VV X a b ws lv (pc + 1) (.long v :: st)) : VV X a b ws lv pc st := by
  obtain ⟨p, l', e, R', s, m, args, below, meth, c, Q, A, nL, E'⟩ := X
  obtain ⟨hx, hb, hml, hown, hts, hK, hSF, hA, rfl, rfl, rfl, rfl⟩ := C
  intro H locs ls hP hD hS hl
  exact lv_lconst hx hb hdg hv (kk H locs ls hP hD hS hl)
theorem v_iload_n {X : VX} {cc : ByteArray} {n : Nat} {own : String} {R : Room} {E : VE} {l : Launch} (C : VC X cc n own R E l) {a b : Nat} {ws : va_W} {lv : List (Nat × Value)} {pc : Nat} {st : List Value} {k : Fin 4} {x : Int32} (hdg : decode cc pc = .ok (.iload_n k, 1)) (j : Nat) (hj : lv[j]? = some ((k : Nat), .int x)) (kk : VV X a b ws lv (pc + 1) (.int x :: st)) : VV X a b ws lv pc st := by
  obtain ⟨p, l', e, R', s, m, args, below, meth, c, Q, A, nL, E'⟩ := X
  obtain ⟨hx, hb, hml, hown, hts, hK, hSF, hA, rfl, rfl, rfl, rfl⟩ := C
  intro H locs ls hP hD hS hl
  exact lv_iload_n hx hb hdg rfl (lv_at hl j hj) (kk H locs ls hP hD hS hl)
theorem v_iload {X : VX} {cc : ByteArray} {n : Nat} {own : String} {R : Room} {E : VE} {l : Launch} (C : VC X cc n own R E l) {a b : Nat} {ws : va_W} {lv : List (Nat × Value)} {pc : Nat} {st : List Value} {k : Nat} {x : Int32} (hdg : decode cc pc = .ok (.iload k, 2)) (j : Nat) (hj : lv[j]? = some (k, .int x)) (kk : VV X a b ws lv (pc + 2) (.int x :: st)) : VV X a b ws lv pc st := by
  obtain ⟨p, l', e, R', s, m, args, below, meth, c, Q, A, nL, E'⟩ := X
  obtain ⟨hx, hb, hml, hown, hts, hK, hSF, hA, rfl, rfl, rfl, rfl⟩ := C
  intro H locs ls hP hD hS hl
  exact lv_iload hx hb hdg (lv_at hl j hj) (kk H locs ls hP hD hS hl)
theorem v_lload_n {X : VX} {cc : ByteArray} {n : Nat} {own : String} {R : Room} {E : VE} {l : Launch} (C : VC X cc n own R E l) {a b : Nat} {ws : va_W} {lv : List (Nat × Value)} {pc : Nat} {st : List Value} {k : Fin 4} {x : Int64} (hdg : decode cc pc = .ok (.lload_n k, 1)) (j : Nat) (hj : lv[j]? = some ((k : Nat), .long x)) (kk : VV X a b ws lv (pc + 1) (.long x :: st)) : VV X a b ws lv pc st := by
  obtain ⟨p, l', e, R', s, m, args, below, meth, c, Q, A, nL, E'⟩ := X
  obtain ⟨hx, hb, hml, hown, hts, hK, hSF, hA, rfl, rfl, rfl, rfl⟩ := C
  intro H locs ls hP hD hS hl
  exact lv_lload_n hx hb hdg rfl (lv_at hl j hj) (kk H locs ls hP hD hS hl)
theorem v_lload {X : VX} {cc : ByteArray} {n : Nat} {own : String} {R : Room} {E : VE} {l : Launch} (C : VC X cc n own R E l) {a b : Nat} {ws : va_W} {lv : List (Nat × Value)} {pc : Nat} {st : List Value} {k : Nat} {x : Int64} (hdg : decode cc pc = .ok (.lload k, 2)) (j : Nat) (hj : lv[j]? = some (k, .long x)) (kk : VV X a b ws lv (pc + 2) (.long x :: st)) : VV X a b ws lv pc st := by
  obtain ⟨p, l', e, R', s, m, args, below, meth, c, Q, A, nL, E'⟩ := X
  obtain ⟨hx, hb, hml, hown, hts, hK, hSF, hA, rfl, rfl, rfl, rfl⟩ := C
  intro H locs ls hP hD hS hl
  exact lv_lload hx hb hdg (lv_at hl j hj) (kk H locs ls hP hD hS hl)
theorem v_aload_n {X : VX} {cc : ByteArray} {n : Nat} {own : String} {R : Room} {E : VE} {l : Launch} (C : VC X cc n own R E l) {a b : Nat} {ws : va_W} {lv : List (Nat × Value)} {pc : Nat} {st : List Value} {k : Fin 4} {x : Nat} (hdg : decode cc pc = .ok (.aload_n k, 1)) (j : Nat) (hj : lv[j]? = some ((k : Nat), .ref x)) (kk : VV X a b ws lv (pc + 1) (.ref x :: st)) : VV X a b ws lv pc st := by
  obtain ⟨p, l', e, R', s, m, args, below, meth, c, Q, A, nL, E'⟩ := X
  obtain ⟨hx, hb, hml, hown, hts, hK, hSF, hA, rfl, rfl, rfl, rfl⟩ := C
  intro H locs ls hP hD hS hl
  exact lv_aload_n hx hb hdg rfl (lv_at hl j hj) (kk H locs ls hP hD hS hl)
theorem v_aload {X : VX} {cc : ByteArray} {n : Nat} {own : String} {R : Room} {E : VE} {l : Launch} (C : VC X cc n own R E l) {a b : Nat} {ws : va_W} {lv : List (Nat × Value)} {pc : Nat} {st : List Value} {k : Nat} {x : Nat} (hdg : decode cc pc = .ok (.aload k, 2)) (j : Nat) (hj : lv[j]? = some (k, .ref x)) (kk : VV X a b ws lv (pc + 2) (.ref x :: st)) : VV X a b ws lv pc st := by
  obtain ⟨p, l', e, R', s, m, args, below, meth, c, Q, A, nL, E'⟩ := X
  obtain ⟨hx, hb, hml, hown, hts, hK, hSF, hA, rfl, rfl, rfl, rfl⟩ := C
  intro H locs ls hP hD hS hl
  exact lv_aload hx hb hdg (lv_at hl j hj) (kk H locs ls hP hD hS hl)
theorem v_istore_n {X : VX} {cc : ByteArray} {n : Nat} {own : String} {R : Room} {E : VE} {l : Launch} (C : VC X cc n own R E l) {a b : Nat} {ws : va_W} {lv : List (Nat × Value)} {pc : Nat} {st : List Value} {k : Fin 4} {x : Int32} {lv' : List (Nat × Value)} (hdg : decode cc pc = .ok (.istore_n k, 1)) (hn : (k : Nat) < n) (hl' : ((k : Nat), Value.int x) :: lv.filter (fun q => !(q.1 == (k : Nat)) && !(q.1 + 1 == (k : Nat) && q.2.category == 2)) = lv') (kk : VV X a b ws lv' (pc + 1) st) : VV X a b ws lv pc (.int x :: st) := by
  obtain ⟨p, l', e, R', s, m, args, below, meth, c, Q, A, nL, E'⟩ := X
  obtain ⟨hx, hb, hml, hown, hts, hK, hSF, hA, rfl, rfl, rfl, rfl⟩ := C
  intro H locs ls hP hD hS hl
  exact lv_istore_n hx hb hdg rfl hl hn hl' (fun ls hl => kk H locs ls hP hD hS hl)
theorem v_istore {X : VX} {cc : ByteArray} {n : Nat} {own : String} {R : Room} {E : VE} {l : Launch} (C : VC X cc n own R E l) {a b : Nat} {ws : va_W} {lv : List (Nat × Value)} {pc : Nat} {st : List Value} {k : Nat} {x : Int32} {lv' : List (Nat × Value)} (hdg : decode cc pc = .ok (.istore k, 2)) (hn : k < n) (hl' : (k, Value.int x) :: lv.filter (fun q => !(q.1 == k) && !(q.1 + 1 == k && q.2.category == 2)) = lv') (kk : VV X a b ws lv' (pc + 2) st) : VV X a b ws lv pc (.int x :: st) := by
  obtain ⟨p, l', e, R', s, m, args, below, meth, c, Q, A, nL, E'⟩ := X
  obtain ⟨hx, hb, hml, hown, hts, hK, hSF, hA, rfl, rfl, rfl, rfl⟩ := C
  intro H locs ls hP hD hS hl
  exact lv_istore hx hb hdg hl hn hl' (fun ls hl => kk H locs ls hP hD hS hl)
theorem v_lstore_n {X : VX} {cc : ByteArray} {n : Nat} {own : String} {R : Room} {E : VE} {l : Launch} (C : VC X cc n own R E l) {a b : Nat} {ws : va_W} {lv : List (Nat × Value)} {pc : Nat} {st : List Value} {k : Fin 4} {x : Int64} {lv' : List (Nat × Value)} (hdg : decode cc pc = .ok (.lstore_n k, 1)) (hn : (k : Nat) + 1 < n) (hl' : ((k : Nat), Value.long x) :: lv.filter (fun q => !(q.1 == (k : Nat)) && (!(q.1 == (k : Nat) + 1) && !(q.1 + 1 == (k : Nat) && q.2.category == 2))) = lv') (kk : VV X a b ws lv' (pc + 1) st) : VV X a b ws lv pc (.long x :: st) := by
  obtain ⟨p, l', e, R', s, m, args, below, meth, c, Q, A, nL, E'⟩ := X
  obtain ⟨hx, hb, hml, hown, hts, hK, hSF, hA, rfl, rfl, rfl, rfl⟩ := C
  intro H locs ls hP hD hS hl
  exact lv_lstore_n hx hb hdg rfl hl hn hl' (fun ls hl => kk H locs ls hP hD hS hl)
theorem v_lstore {X : VX} {cc : ByteArray} {n : Nat} {own : String} {R : Room} {E : VE} {l : Launch} (C : VC X cc n own R E l) {a b : Nat} {ws : va_W} {lv : List (Nat × Value)} {pc : Nat} {st : List Value} {k : Nat} {x : Int64} {lv' : List (Nat × Value)} (hdg : decode cc pc = .ok (.lstore k, 2)) (hn : k + 1 < n) (hl' : (k, Value.long x) :: lv.filter (fun q => !(q.1 == k) && (!(q.1 == k + 1) && !(q.1 + 1 == k && q.2.category == 2))) = lv') (kk : VV X a b ws lv' (pc + 2) st) : VV X a b ws lv pc (.long x :: st) := by
  obtain ⟨p, l', e, R', s, m, args, below, meth, c, Q, A, nL, E'⟩ := X
  obtain ⟨hx, hb, hml, hown, hts, hK, hSF, hA, rfl, rfl, rfl, rfl⟩ := C
  intro H locs ls hP hD hS hl
  exact lv_lstore hx hb hdg hl hn hl' (fun ls hl => kk H locs ls hP hD hS hl)
theorem v_astore_n {X : VX} {cc : ByteArray} {n : Nat} {own : String} {R : Room} {E : VE} {l : Launch} (C : VC X cc n own R E l) {a b : Nat} {ws : va_W} {lv : List (Nat × Value)} {pc : Nat} {st : List Value} {k : Fin 4} {x : Nat} {lv' : List (Nat × Value)} (hdg : decode cc pc = .ok (.astore_n k, 1)) (hn : (k : Nat) < n) (hl' : ((k : Nat), Value.ref x) :: lv.filter (fun q => !(q.1 == (k : Nat)) && !(q.1 + 1 == (k : Nat) && q.2.category == 2)) = lv') (kk : VV X a b ws lv' (pc + 1) st) : VV X a b ws lv pc (.ref x :: st) := by
  obtain ⟨p, l', e, R', s, m, args, below, meth, c, Q, A, nL, E'⟩ := X
  obtain ⟨hx, hb, hml, hown, hts, hK, hSF, hA, rfl, rfl, rfl, rfl⟩ := C
  intro H locs ls hP hD hS hl
  exact lv_astore_n hx hb hdg rfl hl hn hl' (fun ls hl => kk H locs ls hP hD hS hl)
theorem v_astore {X : VX} {cc : ByteArray} {n : Nat} {own : String} {R : Room} {E : VE} {l : Launch} (C : VC X cc n own R E l) {a b : Nat} {ws : va_W} {lv : List (Nat × Value)} {pc : Nat} {st : List Value} {k : Nat} {x : Nat} {lv' : List (Nat × Value)} (hdg : decode cc pc = .ok (.astore k, 2)) (hn : k < n) (hl' : (k, Value.ref x) :: lv.filter (fun q => !(q.1 == k) && !(q.1 + 1 == k && q.2.category == 2)) = lv') (kk : VV X a b ws lv' (pc + 2) st) : VV X a b ws lv pc (.ref x :: st) := by
  obtain ⟨p, l', e, R', s, m, args, below, meth, c, Q, A, nL, E'⟩ := X
  obtain ⟨hx, hb, hml, hown, hts, hK, hSF, hA, rfl, rfl, rfl, rfl⟩ := C
  intro H locs ls hP hD hS hl
  exact lv_astore hx hb hdg hl hn hl' (fun ls hl => kk H locs ls hP hD hS hl)
theorem v_iinc {X : VX} {cc : ByteArray} {n : Nat} {own : String} {R : Room} {E : VE} {l : Launch} (C : VC X cc n own R E l) {a b : Nat} {ws : va_W} {lv : List (Nat × Value)} {pc : Nat} {st : List Value} {k : Nat} {z : Int} {x : Int32} {lv' : List (Nat × Value)} (hdg : decode cc pc = .ok (.iinc k z, 3)) (j : Nat) (hj : lv[j]? = some (k, .int x)) (hn : k < n) (hl' : (k, Value.int (x + Int32.ofInt z)) :: lv.filter (fun q => !(q.1 == k) && !(q.1 + 1 == k && q.2.category == 2)) = lv') (kk : VV X a b ws lv' (pc + 3) st) : VV X a b ws lv pc st := by
  obtain ⟨p, l', e, R', s, m, args, below, meth, c, Q, A, nL, E'⟩ := X
  obtain ⟨hx, hb, hml, hown, hts, hK, hSF, hA, rfl, rfl, rfl, rfl⟩ := C
  intro H locs ls hP hD hS hl
  exact lv_iinc hx hb hdg hl hj rfl hn hl' (fun ls hl => kk H locs ls hP hD hS hl)
theorem v_iadd {X : VX} {cc : ByteArray} {n : Nat} {own : String} {R : Room} {E : VE} {l : Launch} (C : VC X cc n own R E l) {a b : Nat} {ws : va_W} {lv : List (Nat × Value)} {pc : Nat} {st : List Value} {x y : Int32} (hdg : decode cc pc = .ok (.iadd, 1)) (kk : VV X a b ws lv (pc + 1) (.int (x + y) :: st)) : VV X a b ws lv pc (.int y :: .int x :: st) := by
  obtain ⟨p, l', e, R', s, m, args, below, meth, c, Q, A, nL, E'⟩ := X
  obtain ⟨hx, hb, hml, hown, hts, hK, hSF, hA, rfl, rfl, rfl, rfl⟩ := C
  intro H locs ls hP hD hS hl
  exact lv_iadd hx hb hdg (kk H locs ls hP hD hS hl)
theorem v_isub {X : VX} {cc : ByteArray} {n : Nat} {own : String} {R : Room} {E : VE} {l : Launch} (C : VC X cc n own R E l) {a b : Nat} {ws : va_W} {lv : List (Nat × Value)} {pc : Nat} {st : List Value} {x y : Int32} (hdg : decode cc pc = .ok (.isub, 1)) (kk : VV X a b ws lv (pc + 1) (.int (x - y) :: st)) : VV X a b ws lv pc (.int y :: .int x :: st) := by
  obtain ⟨p, l', e, R', s, m, args, below, meth, c, Q, A, nL, E'⟩ := X
  obtain ⟨hx, hb, hml, hown, hts, hK, hSF, hA, rfl, rfl, rfl, rfl⟩ := C
  intro H locs ls hP hD hS hl
  exact lv_isub hx hb hdg (kk H locs ls hP hD hS hl)
theorem v_imul {X : VX} {cc : ByteArray} {n : Nat} {own : String} {R : Room} {E : VE} {l : Launch} (C : VC X cc n own R E l) {a b : Nat} {ws : va_W} {lv : List (Nat × Value)} {pc : Nat} {st : List Value} {x y : Int32} (hdg : decode cc pc = .ok (.imul, 1)) (kk : VV X a b ws lv (pc + 1) (.int (x * y) :: st)) : VV X a b ws lv pc (.int y :: .int x :: st) := by
  obtain ⟨p, l', e, R', s, m, args, below, meth, c, Q, A, nL, E'⟩ := X
  obtain ⟨hx, hb, hml, hown, hts, hK, hSF, hA, rfl, rfl, rfl, rfl⟩ := C
  intro H locs ls hP hD hS hl
  exact lv_imul hx hb hdg (kk H locs ls hP hD hS hl)
theorem v_iand {X : VX} {cc : ByteArray} {n : Nat} {own : String} {R : Room} {E : VE} {l : Launch} (C : VC X cc n own R E l) {a b : Nat} {ws : va_W} {lv : List (Nat × Value)} {pc : Nat} {st : List Value} {x y : Int32} (hdg : decode cc pc = .ok (.iand, 1)) (kk : VV X a b ws lv (pc + 1) (.int (x &&& y) :: st)) : VV X a b ws lv pc (.int y :: .int x :: st) := by
  obtain ⟨p, l', e, R', s, m, args, below, meth, c, Q, A, nL, E'⟩ := X
  obtain ⟨hx, hb, hml, hown, hts, hK, hSF, hA, rfl, rfl, rfl, rfl⟩ := C
  intro H locs ls hP hD hS hl
  exact lv_iand hx hb hdg (kk H locs ls hP hD hS hl)
theorem v_ior {X : VX} {cc : ByteArray} {n : Nat} {own : String} {R : Room} {E : VE} {l : Launch} (C : VC X cc n own R E l) {a b : Nat} {ws : va_W} {lv : List (Nat × Value)} {pc : Nat} {st : List Value} {x y : Int32} (hdg : decode cc pc = .ok (.ior, 1)) (kk : VV X a b ws lv (pc + 1) (.int (x ||| y) :: st)) : VV X a b ws lv pc (.int y :: .int x :: st) := by
  obtain ⟨p, l', e, R', s, m, args, below, meth, c, Q, A, nL, E'⟩ := X
  obtain ⟨hx, hb, hml, hown, hts, hK, hSF, hA, rfl, rfl, rfl, rfl⟩ := C
  intro H locs ls hP hD hS hl
  exact lv_ior hx hb hdg (kk H locs ls hP hD hS hl)
theorem v_ixor {X : VX} {cc : ByteArray} {n : Nat} {own : String} {R : Room} {E : VE} {l : Launch} (C : VC X cc n own R E l) {a b : Nat} {ws : va_W} {lv : List (Nat × Value)} {pc : Nat} {st : List Value} {x y : Int32} (hdg : decode cc pc = .ok (.ixor, 1)) (kk : VV X a b ws lv (pc + 1) (.int (x ^^^ y) :: st)) : VV X a b ws lv pc (.int y :: .int x :: st) := by
  obtain ⟨p, l', e, R', s, m, args, below, meth, c, Q, A, nL, E'⟩ := X
  obtain ⟨hx, hb, hml, hown, hts, hK, hSF, hA, rfl, rfl, rfl, rfl⟩ := C
  intro H locs ls hP hD hS hl
  exact lv_ixor hx hb hdg (kk H locs ls hP hD hS hl)
theorem v_ishl {X : VX} {cc : ByteArray} {n : Nat} {own : String} {R : Room} {E : VE} {l : Launch} (C : VC X cc n own R E l) {a b : Nat} {ws : va_W} {lv : List (Nat × Value)} {pc : Nat} {st : List Value} {x y : Int32} (hdg : decode cc pc = .ok (.ishl, 1)) (kk : VV X a b ws lv (pc + 1) (.int (x <<< (y &&& 31)) :: st)) : VV X a b ws lv pc (.int y :: .int x :: st) := by
  obtain ⟨p, l', e, R', s, m, args, below, meth, c, Q, A, nL, E'⟩ := X
  obtain ⟨hx, hb, hml, hown, hts, hK, hSF, hA, rfl, rfl, rfl, rfl⟩ := C
  intro H locs ls hP hD hS hl
  exact lv_ishl hx hb hdg (kk H locs ls hP hD hS hl)
theorem v_ishr {X : VX} {cc : ByteArray} {n : Nat} {own : String} {R : Room} {E : VE} {l : Launch} (C : VC X cc n own R E l) {a b : Nat} {ws : va_W} {lv : List (Nat × Value)} {pc : Nat} {st : List Value} {x y : Int32} (hdg : decode cc pc = .ok (.ishr, 1)) (kk : VV X a b ws lv (pc + 1) (.int (x >>> (y &&& 31)) :: st)) : VV X a b ws lv pc (.int y :: .int x :: st) := by
  obtain ⟨p, l', e, R', s, m, args, below, meth, c, Q, A, nL, E'⟩ := X
  obtain ⟨hx, hb, hml, hown, hts, hK, hSF, hA, rfl, rfl, rfl, rfl⟩ := C
  intro H locs ls hP hD hS hl
  exact lv_ishr hx hb hdg (kk H locs ls hP hD hS hl)
theorem v_idiv {X : VX} {cc : ByteArray} {n : Nat} {own : String} {R : Room} {E : VE} {l : Launch} (C : VC X cc n own R E l) {a b : Nat} {ws : va_W} {lv : List (Nat × Value)} {pc : Nat} {st : List Value} {x y : Int32} (hdg : decode cc pc = .ok (.idiv, 1)) (hne : ¬ y = 0) (kk : VV X a b ws lv (pc + 1) (.int (x / y) :: st)) : VV X a b ws lv pc (.int y :: .int x :: st) := by
  obtain ⟨p, l', e, R', s, m, args, below, meth, c, Q, A, nL, E'⟩ := X
  obtain ⟨hx, hb, hml, hown, hts, hK, hSF, hA, rfl, rfl, rfl, rfl⟩ := C
  intro H locs ls hP hD hS hl
  exact lv_idiv hx hb hdg hne (kk H locs ls hP hD hS hl)
theorem v_irem {X : VX} {cc : ByteArray} {n : Nat} {own : String} {R : Room} {E : VE} {l : Launch} (C : VC X cc n own R E l) {a b : Nat} {ws : va_W} {lv : List (Nat × Value)} {pc : Nat} {st : List Value} {x y : Int32} (hdg : decode cc pc = .ok (.irem, 1)) (hne : ¬ y = 0) (kk : VV X a b ws lv (pc + 1) (.int (x - x / y * y) :: st)) : VV X a b ws lv pc (.int y :: .int x :: st) := by
  obtain ⟨p, l', e, R', s, m, args, below, meth, c, Q, A, nL, E'⟩ := X
  obtain ⟨hx, hb, hml, hown, hts, hK, hSF, hA, rfl, rfl, rfl, rfl⟩ := C
  intro H locs ls hP hD hS hl
  exact lv_irem hx hb hdg hne (kk H locs ls hP hD hS hl)
theorem v_iushr {X : VX} {cc : ByteArray} {n : Nat} {own : String} {R : Room} {E : VE} {l : Launch} (C : VC X cc n own R E l) {a b : Nat} {ws : va_W} {lv : List (Nat × Value)} {pc : Nat} {st : List Value} {x y : Int32} (hdg : decode cc pc = .ok (.iushr, 1)) (kk : VV X a b ws lv (pc + 1) (.int ((x.toUInt32 >>> (y.toUInt32 &&& Int32.toUInt32 31)).toInt32) :: st)) : VV X a b ws lv pc (.int y :: .int x :: st) := by
  obtain ⟨p, l', e, R', s, m, args, below, meth, c, Q, A, nL, E'⟩ := X
  obtain ⟨hx, hb, hml, hown, hts, hK, hSF, hA, rfl, rfl, rfl, rfl⟩ := C
  intro H locs ls hP hD hS hl
  exact lv_iushr hx hb hdg rfl (kk H locs ls hP hD hS hl)
theorem v_ladd {X : VX} {cc : ByteArray} {n : Nat} {own : String} {R : Room} {E : VE} {l : Launch} (C : VC X cc n own R E l) {a b : Nat} {ws : va_W} {lv : List (Nat × Value)} {pc : Nat} {st : List Value} {x y v : Int64} (hdg : decode cc pc = .ok (.ladd, 1)) (hv : x + y = v) (kk : VV X a b ws lv (pc + 1) (.long v :: st)) : VV X a b ws lv pc (.long y :: .long x :: st) := by
  obtain ⟨p, l', e, R', s, m, args, below, meth, c, Q, A, nL, E'⟩ := X
  obtain ⟨hx, hb, hml, hown, hts, hK, hSF, hA, rfl, rfl, rfl, rfl⟩ := C
  intro H locs ls hP hD hS hl
  exact by subst hv; exact lv_ladd hx hb hdg (kk H locs ls hP hD hS hl)
theorem v_lsub {X : VX} {cc : ByteArray} {n : Nat} {own : String} {R : Room} {E : VE} {l : Launch} (C : VC X cc n own R E l) {a b : Nat} {ws : va_W} {lv : List (Nat × Value)} {pc : Nat} {st : List Value} {x y v : Int64} (hdg : decode cc pc = .ok (.lsub, 1)) (hv : x - y = v) (kk : VV X a b ws lv (pc + 1) (.long v :: st)) : VV X a b ws lv pc (.long y :: .long x :: st) := by
  obtain ⟨p, l', e, R', s, m, args, below, meth, c, Q, A, nL, E'⟩ := X
  obtain ⟨hx, hb, hml, hown, hts, hK, hSF, hA, rfl, rfl, rfl, rfl⟩ := C
  intro H locs ls hP hD hS hl
  exact by subst hv; exact lv_lsub hx hb hdg (kk H locs ls hP hD hS hl)
theorem v_lmul {X : VX} {cc : ByteArray} {n : Nat} {own : String} {R : Room} {E : VE} {l : Launch} (C : VC X cc n own R E l) {a b : Nat} {ws : va_W} {lv : List (Nat × Value)} {pc : Nat} {st : List Value} {x y v : Int64} (hdg : decode cc pc = .ok (.lmul, 1)) (hv : x * y = v) (kk : VV X a b ws lv (pc + 1) (.long v :: st)) : VV X a b ws lv pc (.long y :: .long x :: st) := by
  obtain ⟨p, l', e, R', s, m, args, below, meth, c, Q, A, nL, E'⟩ := X
  obtain ⟨hx, hb, hml, hown, hts, hK, hSF, hA, rfl, rfl, rfl, rfl⟩ := C
  intro H locs ls hP hD hS hl
  exact by subst hv; exact lv_lmul hx hb hdg (kk H locs ls hP hD hS hl)
theorem v_land {X : VX} {cc : ByteArray} {n : Nat} {own : String} {R : Room} {E : VE} {l : Launch} (C : VC X cc n own R E l) {a b : Nat} {ws : va_W} {lv : List (Nat × Value)} {pc : Nat} {st : List Value} {x y v : Int64} (hdg : decode cc pc = .ok (.land, 1)) (hv : x &&& y = v) (kk : VV X a b ws lv (pc + 1) (.long v :: st)) : VV X a b ws lv pc (.long y :: .long x :: st) := by
  obtain ⟨p, l', e, R', s, m, args, below, meth, c, Q, A, nL, E'⟩ := X
  obtain ⟨hx, hb, hml, hown, hts, hK, hSF, hA, rfl, rfl, rfl, rfl⟩ := C
  intro H locs ls hP hD hS hl
  exact by subst hv; exact lv_land hx hb hdg (kk H locs ls hP hD hS hl)
theorem v_lor {X : VX} {cc : ByteArray} {n : Nat} {own : String} {R : Room} {E : VE} {l : Launch} (C : VC X cc n own R E l) {a b : Nat} {ws : va_W} {lv : List (Nat × Value)} {pc : Nat} {st : List Value} {x y v : Int64} (hdg : decode cc pc = .ok (.lor, 1)) (hv : x ||| y = v) (kk : VV X a b ws lv (pc + 1) (.long v :: st)) : VV X a b ws lv pc (.long y :: .long x :: st) := by
  obtain ⟨p, l', e, R', s, m, args, below, meth, c, Q, A, nL, E'⟩ := X
  obtain ⟨hx, hb, hml, hown, hts, hK, hSF, hA, rfl, rfl, rfl, rfl⟩ := C
  intro H locs ls hP hD hS hl
  exact by subst hv; exact lv_lor hx hb hdg (kk H locs ls hP hD hS hl)
theorem v_lshl {X : VX} {cc : ByteArray} {n : Nat} {own : String} {R : Room} {E : VE} {l : Launch} (C : VC X cc n own R E l) {a b : Nat} {ws : va_W} {lv : List (Nat × Value)} {pc : Nat} {st : List Value} {x : Int64} {y : Int32} (hdg : decode cc pc = .ok (.lshl, 1)) (kk : VV X a b ws lv (pc + 1) (.long (x <<< (y.toInt64 &&& 63)) :: st)) : VV X a b ws lv pc (.int y :: .long x :: st) := by
  obtain ⟨p, l', e, R', s, m, args, below, meth, c, Q, A, nL, E'⟩ := X
  obtain ⟨hx, hb, hml, hown, hts, hK, hSF, hA, rfl, rfl, rfl, rfl⟩ := C
  intro H locs ls hP hD hS hl
  exact lv_lshl hx hb hdg rfl (kk H locs ls hP hD hS hl)
theorem v_lshr {X : VX} {cc : ByteArray} {n : Nat} {own : String} {R : Room} {E : VE} {l : Launch} (C : VC X cc n own R E l) {a b : Nat} {ws : va_W} {lv : List (Nat × Value)} {pc : Nat} {st : List Value} {x : Int64} {y : Int32} (hdg : decode cc pc = .ok (.lshr, 1)) (kk : VV X a b ws lv (pc + 1) (.long (x >>> (y.toInt64 &&& 63)) :: st)) : VV X a b ws lv pc (.int y :: .long x :: st) := by
  obtain ⟨p, l', e, R', s, m, args, below, meth, c, Q, A, nL, E'⟩ := X
  obtain ⟨hx, hb, hml, hown, hts, hK, hSF, hA, rfl, rfl, rfl, rfl⟩ := C
  intro H locs ls hP hD hS hl
  exact lv_lshr hx hb hdg rfl (kk H locs ls hP hD hS hl)
theorem v_lcmp {X : VX} {cc : ByteArray} {n : Nat} {own : String} {R : Room} {E : VE} {l : Launch} (C : VC X cc n own R E l) {a b : Nat} {ws : va_W} {lv : List (Nat × Value)} {pc : Nat} {st : List Value} {x y : Int64} (hdg : decode cc pc = .ok (.lcmp, 1)) (kk : VV X a b ws lv (pc + 1) (.int (lg_cmp x y) :: st)) : VV X a b ws lv pc (.long y :: .long x :: st) := by
  obtain ⟨p, l', e, R', s, m, args, below, meth, c, Q, A, nL, E'⟩ := X
  obtain ⟨hx, hb, hml, hown, hts, hK, hSF, hA, rfl, rfl, rfl, rfl⟩ := C
  intro H locs ls hP hD hS hl
  exact W.lcmp hx hb hdg (kk H locs ls hP hD hS hl)
theorem v_i2l {X : VX} {cc : ByteArray} {n : Nat} {own : String} {R : Room} {E : VE} {l : Launch} (C : VC X cc n own R E l) {a b : Nat} {ws : va_W} {lv : List (Nat × Value)} {pc : Nat} {st : List Value} {x : Int32} (hdg : decode cc pc = .ok (.i2l, 1)) (kk : VV X a b ws lv (pc + 1) (.long x.toInt64 :: st)) : VV X a b ws lv pc (.int x :: st) := by
  obtain ⟨p, l', e, R', s, m, args, below, meth, c, Q, A, nL, E'⟩ := X
  obtain ⟨hx, hb, hml, hown, hts, hK, hSF, hA, rfl, rfl, rfl, rfl⟩ := C
  intro H locs ls hP hD hS hl
  exact lv_i2l hx hb hdg rfl (kk H locs ls hP hD hS hl)
theorem v_l2i {X : VX} {cc : ByteArray} {n : Nat} {own : String} {R : Room} {E : VE} {l : Launch} (C : VC X cc n own R E l) {a b : Nat} {ws : va_W} {lv : List (Nat × Value)} {pc : Nat} {st : List Value} {x : Int64} (hdg : decode cc pc = .ok (.l2i, 1)) (kk : VV X a b ws lv (pc + 1) (.int x.toInt32 :: st)) : VV X a b ws lv pc (.long x :: st) := by
  obtain ⟨p, l', e, R', s, m, args, below, meth, c, Q, A, nL, E'⟩ := X
  obtain ⟨hx, hb, hml, hown, hts, hK, hSF, hA, rfl, rfl, rfl, rfl⟩ := C
  intro H locs ls hP hD hS hl
  exact lv_l2i hx hb hdg rfl (kk H locs ls hP hD hS hl)
theorem v_i2b {X : VX} {cc : ByteArray} {n : Nat} {own : String} {R : Room} {E : VE} {l : Launch} (C : VC X cc n own R E l) {a b : Nat} {ws : va_W} {lv : List (Nat × Value)} {pc : Nat} {st : List Value} {x : Int32} (hdg : decode cc pc = .ok (.i2b, 1)) (kk : VV X a b ws lv (pc + 1) (.int x.toInt8.toInt32 :: st)) : VV X a b ws lv pc (.int x :: st) := by
  obtain ⟨p, l', e, R', s, m, args, below, meth, c, Q, A, nL, E'⟩ := X
  obtain ⟨hx, hb, hml, hown, hts, hK, hSF, hA, rfl, rfl, rfl, rfl⟩ := C
  intro H locs ls hP hD hS hl
  exact lv_i2b hx hb hdg rfl (kk H locs ls hP hD hS hl)
theorem v_i2s {X : VX} {cc : ByteArray} {n : Nat} {own : String} {R : Room} {E : VE} {l : Launch} (C : VC X cc n own R E l) {a b : Nat} {ws : va_W} {lv : List (Nat × Value)} {pc : Nat} {st : List Value} {x : Int32} (hdg : decode cc pc = .ok (.i2s, 1)) (kk : VV X a b ws lv (pc + 1) (.int x.toInt16.toInt32 :: st)) : VV X a b ws lv pc (.int x :: st) := by
  obtain ⟨p, l', e, R', s, m, args, below, meth, c, Q, A, nL, E'⟩ := X
  obtain ⟨hx, hb, hml, hown, hts, hK, hSF, hA, rfl, rfl, rfl, rfl⟩ := C
  intro H locs ls hP hD hS hl
  exact lv_i2s hx hb hdg rfl (kk H locs ls hP hD hS hl)
theorem v_i2c {X : VX} {cc : ByteArray} {n : Nat} {own : String} {R : Room} {E : VE} {l : Launch} (C : VC X cc n own R E l) {a b : Nat} {ws : va_W} {lv : List (Nat × Value)} {pc : Nat} {st : List Value} {x : Int32} (hdg : decode cc pc = .ok (.i2c, 1)) (kk : VV X a b ws lv (pc + 1) (.int (x.toUInt32 % 65536).toInt32 :: st)) : VV X a b ws lv pc (.int x :: st) := by
  obtain ⟨p, l', e, R', s, m, args, below, meth, c, Q, A, nL, E'⟩ := X
  obtain ⟨hx, hb, hml, hown, hts, hK, hSF, hA, rfl, rfl, rfl, rfl⟩ := C
  intro H locs ls hP hD hS hl
  exact lv_i2c hx hb hdg rfl (kk H locs ls hP hD hS hl)
theorem v_dup {X : VX} {cc : ByteArray} {n : Nat} {own : String} {R : Room} {E : VE} {l : Launch} (C : VC X cc n own R E l) {a b : Nat} {ws : va_W} {lv : List (Nat × Value)} {pc : Nat} {st : List Value} {v : Value} (hdg : decode cc pc = .ok (.dup, 1)) (hc : v.category = 1) (kk : VV X a b ws lv (pc + 1) (v :: v :: st)) : VV X a b ws lv pc (v :: st) := by
  obtain ⟨p, l', e, R', s, m, args, below, meth, c, Q, A, nL, E'⟩ := X
  obtain ⟨hx, hb, hml, hown, hts, hK, hSF, hA, rfl, rfl, rfl, rfl⟩ := C
  intro H locs ls hP hD hS hl
  exact lv_dup hx hb hdg hc (kk H locs ls hP hD hS hl)
theorem v_dup2 {X : VX} {cc : ByteArray} {n : Nat} {own : String} {R : Room} {E : VE} {l : Launch} (C : VC X cc n own R E l) {a b : Nat} {ws : va_W} {lv : List (Nat × Value)} {pc : Nat} {st : List Value} {v w : Value} (hdg : decode cc pc = .ok (.dup2, 1)) (hc : v.category = 1) (hc2 : w.category = 1) (kk : VV X a b ws lv (pc + 1) (v :: w :: v :: w :: st)) : VV X a b ws lv pc (v :: w :: st) := by
  obtain ⟨p, l', e, R', s, m, args, below, meth, c, Q, A, nL, E'⟩ := X
  obtain ⟨hx, hb, hml, hown, hts, hK, hSF, hA, rfl, rfl, rfl, rfl⟩ := C
  intro H locs ls hP hD hS hl
  exact lv_dup2_11 hx hb hdg hc hc2 (kk H locs ls hP hD hS hl)
theorem v_pop {X : VX} {cc : ByteArray} {n : Nat} {own : String} {R : Room} {E : VE} {l : Launch} (C : VC X cc n own R E l) {a b : Nat} {ws : va_W} {lv : List (Nat × Value)} {pc : Nat} {st : List Value} {v : Value} (hdg : decode cc pc = .ok (.pop, 1)) (hc : v.category = 1) (kk : VV X a b ws lv (pc + 1) st) : VV X a b ws lv pc (v :: st) := by
  obtain ⟨p, l', e, R', s, m, args, below, meth, c, Q, A, nL, E'⟩ := X
  obtain ⟨hx, hb, hml, hown, hts, hK, hSF, hA, rfl, rfl, rfl, rfl⟩ := C
  intro H locs ls hP hD hS hl
  exact lv_pop hx hb hdg hc (kk H locs ls hP hD hS hl)
theorem v_goto {X : VX} {cc : ByteArray} {n : Nat} {own : String} {R : Room} {E : VE} {l : Launch} (C : VC X cc n own R E l) {a b : Nat} {ws : va_W} {lv : List (Nat × Value)} {pc : Nat} {st : List Value} {off : Int} {tgt : Nat} (hdg : decode cc pc = .ok (.goto off, 3)) (ht : (pc : Int) + off = (tgt : Int)) (kk : VV X a b ws lv tgt st) : VV X a b ws lv pc st := by
  obtain ⟨p, l', e, R', s, m, args, below, meth, c, Q, A, nL, E'⟩ := X
  obtain ⟨hx, hb, hml, hown, hts, hK, hSF, hA, rfl, rfl, rfl, rfl⟩ := C
  intro H locs ls hP hD hS hl
  exact lv_goto hx hb hdg ht (kk H locs ls hP hD hS hl)
theorem v_icmp_eq {X : VX} {cc : ByteArray} {n : Nat} {own : String} {R : Room} {E : VE} {l : Launch} (C : VC X cc n own R E l) {a b : Nat} {ws : va_W} {lv : List (Nat × Value)} {pc : Nat} {st : List Value} {x y : Int32} {off : Int} {tgt : Nat} (hdg : decode cc pc = .ok (.if_icmp .eq off, 3)) (ht : (pc : Int) + off = (tgt : Int)) (kt : x = y → VV X a b ws lv tgt st) (kf : ¬ x = y → VV X a b ws lv (pc + 3) st) : VV X a b ws lv pc (.int y :: .int x :: st) := by
  obtain ⟨p, l', e, R', s, m, args, below, meth, c, Q, A, nL, E'⟩ := X
  obtain ⟨hx, hb, hml, hown, hts, hK, hSF, hA, rfl, rfl, rfl, rfl⟩ := C
  intro H locs ls hP hD hS hl
  exact lv_icmp_eq hx hb hdg ht (fun h => kt h H locs ls hP hD hS hl) (fun h => kf h H locs ls hP hD hS hl)
theorem v_if_eq {X : VX} {cc : ByteArray} {n : Nat} {own : String} {R : Room} {E : VE} {l : Launch} (C : VC X cc n own R E l) {a b : Nat} {ws : va_W} {lv : List (Nat × Value)} {pc : Nat} {st : List Value} {x : Int32} {off : Int} {tgt : Nat} (hdg : decode cc pc = .ok (.ifCond .eq off, 3)) (ht : (pc : Int) + off = (tgt : Int)) (kt : x = 0 → VV X a b ws lv tgt st) (kf : ¬ x = 0 → VV X a b ws lv (pc + 3) st) : VV X a b ws lv pc (.int x :: st) := by
  obtain ⟨p, l', e, R', s, m, args, below, meth, c, Q, A, nL, E'⟩ := X
  obtain ⟨hx, hb, hml, hown, hts, hK, hSF, hA, rfl, rfl, rfl, rfl⟩ := C
  intro H locs ls hP hD hS hl
  exact lv_if_eq hx hb hdg ht (fun h => kt h H locs ls hP hD hS hl) (fun h => kf h H locs ls hP hD hS hl)
theorem v_icmp_ne {X : VX} {cc : ByteArray} {n : Nat} {own : String} {R : Room} {E : VE} {l : Launch} (C : VC X cc n own R E l) {a b : Nat} {ws : va_W} {lv : List (Nat × Value)} {pc : Nat} {st : List Value} {x y : Int32} {off : Int} {tgt : Nat} (hdg : decode cc pc = .ok (.if_icmp .ne off, 3)) (ht : (pc : Int) + off = (tgt : Int)) (kt : ¬ x = y → VV X a b ws lv tgt st) (kf : x = y → VV X a b ws lv (pc + 3) st) : VV X a b ws lv pc (.int y :: .int x :: st) := by
  obtain ⟨p, l', e, R', s, m, args, below, meth, c, Q, A, nL, E'⟩ := X
  obtain ⟨hx, hb, hml, hown, hts, hK, hSF, hA, rfl, rfl, rfl, rfl⟩ := C
  intro H locs ls hP hD hS hl
  exact lv_icmp_ne hx hb hdg ht (fun h => kt h H locs ls hP hD hS hl) (fun h => kf h H locs ls hP hD hS hl)
theorem v_if_ne {X : VX} {cc : ByteArray} {n : Nat} {own : String} {R : Room} {E : VE} {l : Launch} (C : VC X cc n own R E l) {a b : Nat} {ws : va_W} {lv : List (Nat × Value)} {pc : Nat} {st : List Value} {x : Int32} {off : Int} {tgt : Nat} (hdg : decode cc pc = .ok (.ifCond .ne off, 3)) (ht : (pc : Int) + off = (tgt : Int)) (kt : ¬ x = 0 → VV X a b ws lv tgt st) (kf : x = 0 → VV X a b ws lv (pc + 3) st) : VV X a b ws lv pc (.int x :: st) := by
  obtain ⟨p, l', e, R', s, m, args, below, meth, c, Q, A, nL, E'⟩ := X
  obtain ⟨hx, hb, hml, hown, hts, hK, hSF, hA, rfl, rfl, rfl, rfl⟩ := C
  intro H locs ls hP hD hS hl
  exact lv_if_ne hx hb hdg ht (fun h => kt h H locs ls hP hD hS hl) (fun h => kf h H locs ls hP hD hS hl)
theorem v_icmp_lt {X : VX} {cc : ByteArray} {n : Nat} {own : String} {R : Room} {E : VE} {l : Launch} (C : VC X cc n own R E l) {a b : Nat} {ws : va_W} {lv : List (Nat × Value)} {pc : Nat} {st : List Value} {x y : Int32} {off : Int} {tgt : Nat} (hdg : decode cc pc = .ok (.if_icmp .lt off, 3)) (ht : (pc : Int) + off = (tgt : Int)) (kt : x < y → VV X a b ws lv tgt st) (kf : ¬ x < y → VV X a b ws lv (pc + 3) st) : VV X a b ws lv pc (.int y :: .int x :: st) := by
  obtain ⟨p, l', e, R', s, m, args, below, meth, c, Q, A, nL, E'⟩ := X
  obtain ⟨hx, hb, hml, hown, hts, hK, hSF, hA, rfl, rfl, rfl, rfl⟩ := C
  intro H locs ls hP hD hS hl
  exact lv_icmp_lt hx hb hdg ht (fun h => kt h H locs ls hP hD hS hl) (fun h => kf h H locs ls hP hD hS hl)
theorem v_if_lt {X : VX} {cc : ByteArray} {n : Nat} {own : String} {R : Room} {E : VE} {l : Launch} (C : VC X cc n own R E l) {a b : Nat} {ws : va_W} {lv : List (Nat × Value)} {pc : Nat} {st : List Value} {x : Int32} {off : Int} {tgt : Nat} (hdg : decode cc pc = .ok (.ifCond .lt off, 3)) (ht : (pc : Int) + off = (tgt : Int)) (kt : x < 0 → VV X a b ws lv tgt st) (kf : ¬ x < 0 → VV X a b ws lv (pc + 3) st) : VV X a b ws lv pc (.int x :: st) := by
  obtain ⟨p, l', e, R', s, m, args, below, meth, c, Q, A, nL, E'⟩ := X
  obtain ⟨hx, hb, hml, hown, hts, hK, hSF, hA, rfl, rfl, rfl, rfl⟩ := C
  intro H locs ls hP hD hS hl
  exact lv_if_lt hx hb hdg ht (fun h => kt h H locs ls hP hD hS hl) (fun h => kf h H locs ls hP hD hS hl)
theorem v_icmp_ge {X : VX} {cc : ByteArray} {n : Nat} {own : String} {R : Room} {E : VE} {l : Launch} (C : VC X cc n own R E l) {a b : Nat} {ws : va_W} {lv : List (Nat × Value)} {pc : Nat} {st : List Value} {x y : Int32} {off : Int} {tgt : Nat} (hdg : decode cc pc = .ok (.if_icmp .ge off, 3)) (ht : (pc : Int) + off = (tgt : Int)) (kt : y ≤ x → VV X a b ws lv tgt st) (kf : ¬ y ≤ x → VV X a b ws lv (pc + 3) st) : VV X a b ws lv pc (.int y :: .int x :: st) := by
  obtain ⟨p, l', e, R', s, m, args, below, meth, c, Q, A, nL, E'⟩ := X
  obtain ⟨hx, hb, hml, hown, hts, hK, hSF, hA, rfl, rfl, rfl, rfl⟩ := C
  intro H locs ls hP hD hS hl
  exact lv_icmp_ge hx hb hdg ht (fun h => kt h H locs ls hP hD hS hl) (fun h => kf h H locs ls hP hD hS hl)
theorem v_if_ge {X : VX} {cc : ByteArray} {n : Nat} {own : String} {R : Room} {E : VE} {l : Launch} (C : VC X cc n own R E l) {a b : Nat} {ws : va_W} {lv : List (Nat × Value)} {pc : Nat} {st : List Value} {x : Int32} {off : Int} {tgt : Nat} (hdg : decode cc pc = .ok (.ifCond .ge off, 3)) (ht : (pc : Int) + off = (tgt : Int)) (kt : 0 ≤ x → VV X a b ws lv tgt st) (kf : ¬ 0 ≤ x → VV X a b ws lv (pc + 3) st) : VV X a b ws lv pc (.int x :: st) := by
  obtain ⟨p, l', e, R', s, m, args, below, meth, c, Q, A, nL, E'⟩ := X
  obtain ⟨hx, hb, hml, hown, hts, hK, hSF, hA, rfl, rfl, rfl, rfl⟩ := C
  intro H locs ls hP hD hS hl
  exact lv_if_ge hx hb hdg ht (fun h => kt h H locs ls hP hD hS hl) (fun h => kf h H locs ls hP hD hS hl)
theorem v_icmp_gt {X : VX} {cc : ByteArray} {n : Nat} {own : String} {R : Room} {E : VE} {l : Launch} (C : VC X cc n own R E l) {a b : Nat} {ws : va_W} {lv : List (Nat × Value)} {pc : Nat} {st : List Value} {x y : Int32} {off : Int} {tgt : Nat} (hdg : decode cc pc = .ok (.if_icmp .gt off, 3)) (ht : (pc : Int) + off = (tgt : Int)) (kt : y < x → VV X a b ws lv tgt st) (kf : ¬ y < x → VV X a b ws lv (pc + 3) st) : VV X a b ws lv pc (.int y :: .int x :: st) := by
  obtain ⟨p, l', e, R', s, m, args, below, meth, c, Q, A, nL, E'⟩ := X
  obtain ⟨hx, hb, hml, hown, hts, hK, hSF, hA, rfl, rfl, rfl, rfl⟩ := C
  intro H locs ls hP hD hS hl
  exact lv_icmp_gt hx hb hdg ht (fun h => kt h H locs ls hP hD hS hl) (fun h => kf h H locs ls hP hD hS hl)
theorem v_if_gt {X : VX} {cc : ByteArray} {n : Nat} {own : String} {R : Room} {E : VE} {l : Launch} (C : VC X cc n own R E l) {a b : Nat} {ws : va_W} {lv : List (Nat × Value)} {pc : Nat} {st : List Value} {x : Int32} {off : Int} {tgt : Nat} (hdg : decode cc pc = .ok (.ifCond .gt off, 3)) (ht : (pc : Int) + off = (tgt : Int)) (kt : 0 < x → VV X a b ws lv tgt st) (kf : ¬ 0 < x → VV X a b ws lv (pc + 3) st) : VV X a b ws lv pc (.int x :: st) := by
  obtain ⟨p, l', e, R', s, m, args, below, meth, c, Q, A, nL, E'⟩ := X
  obtain ⟨hx, hb, hml, hown, hts, hK, hSF, hA, rfl, rfl, rfl, rfl⟩ := C
  intro H locs ls hP hD hS hl
  exact lv_if_gt hx hb hdg ht (fun h => kt h H locs ls hP hD hS hl) (fun h => kf h H locs ls hP hD hS hl)
theorem v_icmp_le {X : VX} {cc : ByteArray} {n : Nat} {own : String} {R : Room} {E : VE} {l : Launch} (C : VC X cc n own R E l) {a b : Nat} {ws : va_W} {lv : List (Nat × Value)} {pc : Nat} {st : List Value} {x y : Int32} {off : Int} {tgt : Nat} (hdg : decode cc pc = .ok (.if_icmp .le off, 3)) (ht : (pc : Int) + off = (tgt : Int)) (kt : x ≤ y → VV X a b ws lv tgt st) (kf : ¬ x ≤ y → VV X a b ws lv (pc + 3) st) : VV X a b ws lv pc (.int y :: .int x :: st) := by
  obtain ⟨p, l', e, R', s, m, args, below, meth, c, Q, A, nL, E'⟩ := X
  obtain ⟨hx, hb, hml, hown, hts, hK, hSF, hA, rfl, rfl, rfl, rfl⟩ := C
  intro H locs ls hP hD hS hl
  exact lv_icmp_le hx hb hdg ht (fun h => kt h H locs ls hP hD hS hl) (fun h => kf h H locs ls hP hD hS hl)
theorem v_if_le {X : VX} {cc : ByteArray} {n : Nat} {own : String} {R : Room} {E : VE} {l : Launch} (C : VC X cc n own R E l) {a b : Nat} {ws : va_W} {lv : List (Nat × Value)} {pc : Nat} {st : List Value} {x : Int32} {off : Int} {tgt : Nat} (hdg : decode cc pc = .ok (.ifCond .le off, 3)) (ht : (pc : Int) + off = (tgt : Int)) (kt : x ≤ 0 → VV X a b ws lv tgt st) (kf : ¬ x ≤ 0 → VV X a b ws lv (pc + 3) st) : VV X a b ws lv pc (.int x :: st) := by
  obtain ⟨p, l', e, R', s, m, args, below, meth, c, Q, A, nL, E'⟩ := X
  obtain ⟨hx, hb, hml, hown, hts, hK, hSF, hA, rfl, rfl, rfl, rfl⟩ := C
  intro H locs ls hP hD hS hl
  exact lv_if_le hx hb hdg ht (fun h => kt h H locs ls hP hD hS hl) (fun h => kf h H locs ls hP hD hS hl)
theorem v_ldc {X : VX} {cc : ByteArray} {n : Nat} {own : String} {R : Room} {E : VE} {l : Launch} (C : VC X cc n own R E l) {a b : Nat} {ws : va_W} {lv : List (Nat × Value)} {pc : Nat} {st : List Value} {k : Nat} {v : Int32} (hm : Cond.constant own k v ∈ lwG) (hdg : decode cc pc = .ok (.ldc k, 2)) (kk : VV X a b ws lv (pc + 2) (.int v :: st)) : VV X a b ws lv pc st := by
  obtain ⟨p, l', e, R', s, m, args, below, meth, c, Q, A, nL, E'⟩ := X
  obtain ⟨hx, hb, hml, hown, hts, hK, hSF, hA, rfl, rfl, rfl, rfl⟩ := C
  intro H locs ls hP hD hS hl
  exact lv_ldc hx hb hown (hts _ hm) hdg (kk H locs ls hP hD hS hl)
theorem v_ldcw {X : VX} {cc : ByteArray} {n : Nat} {own : String} {R : Room} {E : VE} {l : Launch} (C : VC X cc n own R E l) {a b : Nat} {ws : va_W} {lv : List (Nat × Value)} {pc : Nat} {st : List Value} {k : Nat} {v : Int32} (hm : Cond.constant own k v ∈ lwG) (hdg : decode cc pc = .ok (.ldc_w k, 3)) (kk : VV X a b ws lv (pc + 3) (.int v :: st)) : VV X a b ws lv pc st := by
  obtain ⟨p, l', e, R', s, m, args, below, meth, c, Q, A, nL, E'⟩ := X
  obtain ⟨hx, hb, hml, hown, hts, hK, hSF, hA, rfl, rfl, rfl, rfl⟩ := C
  intro H locs ls hP hD hS hl
  exact lv_ldcw hx hb hown (hts _ hm) hdg (kk H locs ls hP hD hS hl)
theorem v_ldc2 {X : VX} {cc : ByteArray} {n : Nat} {own : String} {R : Room} {E : VE} {l : Launch} (C : VC X cc n own R E l) {a b : Nat} {ws : va_W} {lv : List (Nat × Value)} {pc : Nat} {st : List Value} {k : Nat} {v : Int64} (hm : Cond.constantLong own k v ∈ lwG) (hdg : decode cc pc = .ok (.ldc2_w k, 3)) (kk : VV X a b ws lv (pc + 3) (.long v :: st)) : VV X a b ws lv pc st := by
  obtain ⟨p, l', e, R', s, m, args, below, meth, c, Q, A, nL, E'⟩ := X
  obtain ⟨hx, hb, hml, hown, hts, hK, hSF, hA, rfl, rfl, rfl, rfl⟩ := C
  intro H locs ls hP hD hS hl
  exact lv_ldc2 hx hb hown (hts _ hm) hdg (kk H locs ls hP hD hS hl)
theorem mNative : Cond.native arraycopyName ∈ lwG := lwG_of 706 (by decide +kernel) (by decide +kernel)
theorem mStatic : Cond.static arraycopyName ∈ lwG := lwG_of 705 (by decide +kernel) (by decide +kernel)
theorem mSystem : Cond.initialized "java/lang/System" ∈ lwG := lwG_of 81 (by decide +kernel) (by decide +kernel)
theorem mArrI : Cond.arrayClass .int ∈ lwG := lwG_of 146 (by decide +kernel) (by decide +kernel)
theorem mArrB : Cond.arrayClass .byte ∈ lwG := lwG_of 211 (by decide +kernel) (by decide +kernel)
theorem mArrZ : Cond.arrayClass .boolean ∈ lwG := lwG_of 145 (by decide +kernel) (by decide +kernel)
theorem mArrJ : Cond.arrayClass .long ∈ lwG := lwG_of 508 (by decide +kernel) (by decide +kernel)
theorem mMath : Cond.initialized "java/lang/Math" ∈ lwG := lwG_of 80 (by decide +kernel) (by decide +kernel)
theorem mSmin : Cond.static Lib.Math.min.name ∈ lwG := lwG_of 670 (by decide +kernel) (by decide +kernel)
theorem mCmin : Cond.code Lib.Math.min.name Lib.Math.min.code 2 (some .int) ∈ lwG := lwG_of 671 (by decide +kernel) (by decide +kernel)
theorem mSmax : Cond.static Lib.Math.max.name ∈ lwG := lwG_of 635 (by decide +kernel) (by decide +kernel)
theorem mCmax : Cond.code Lib.Math.max.name Lib.Math.max.code 2 (some .int) ∈ lwG := lwG_of 636 (by decide +kernel) (by decide +kernel)
theorem v_get {X : VX} {cc : ByteArray} {n : Nat} {own : String} {R : Room} {E : VE} {l : Launch} (C : VC X cc n own R E l) {a b : Nat} {ws : va_W} {lv : List (Nat × Value)} {pc : Nat} {st : List Value} {C0 : String} {T : u_T} {N ci k0 : Nat} {ad : Nat} {fs : List Value} {v : Value} (hin : ∀ w ∈ u_ws C0 T N, w ∈ lwG) (q0 k : Nat) (he : ws[q0]? = some (ad, .inr (ci, fs))) (hc : vwCl[ci]? = some (C0, T, N)) (hk : k < N) (hlk : Cond.fieldLink own k0 (T k).1 (T k).2.1 (T k).2.2.1 ∈ lwG) (hv : fs[k]? = some v) (hdg : decode cc pc = .ok (.getfield k0, 3)) (kk : VV X a b ws lv (pc + 3) (v :: st)) : VV X a b ws lv pc (.ref ad :: st) := by
  obtain ⟨p, l', e, R', s, m, args, below, meth, c, Q, A, nL, E'⟩ := X
  obtain ⟨hx, hb, hml, hown, hts, hK, hSF, hA, rfl, rfl, rfl, rfl⟩ := C
  intro H locs ls hP hD hS hl
  exact va_get hx hb hts hin hown hK hP q0 he hc k hk (hts _ hlk) (fun _ h9 => h9) hv hdg (kk H locs ls hP hD hS hl)
theorem v_put {X : VX} {cc : ByteArray} {n : Nat} {own : String} {R : Room} {E : VE} {l : Launch} (C : VC X cc n own R E l) {a b : Nat} {ws : va_W} {lv : List (Nat × Value)} {pc : Nat} {st : List Value} {C0 : String} {T : u_T} {N ci k0 : Nat} {ad : Nat} {fs : List Value} {v : Value} {ty : FieldType} {ws' : va_W} (ty0 : Nat → FieldType) (hty : ∀ k, k < N → parseFieldDescriptor (T k).2.2.1 = some (ty0 k)) (hnm : ∀ a, a < N → ∀ b, b < N → a ≠ b → (T a).2.1 ≠ (T b).2.1) (hin : ∀ w ∈ u_ws C0 T N, w ∈ lwG) (q0 k : Nat) (he : ws[q0]? = some (ad, .inr (ci, fs))) (hc : vwCl[ci]? = some (C0, T, N)) (hk : k < N) (hlk : Cond.fieldLink own k0 (T k).1 (T k).2.1 (T k).2.2.1 ∈ lwG) (hfin : (T k).2.2.2 = false) (htk : ty0 k = ty) (hn : narrow ty v = v) (hfit : fits ty v = true) (hl0 : k < fs.length) (hr : ws.set q0 (ad, .inr (ci, fs.set k v)) = ws') (hdg : decode cc pc = .ok (.putfield k0, 3)) (kk : VV X a b ws' lv (pc + 3) st) : VV X a b ws lv pc (v :: .ref ad :: st) := by
  obtain ⟨p, l', e, R', s, m, args, below, meth, c, Q, A, nL, E'⟩ := X
  obtain ⟨hx, hb, hml, hown, hts, hK, hSF, hA, rfl, rfl, rfl, rfl⟩ := C
  intro H locs ls hP hD hS hl
  subst hr
  subst htk
  exact va_put hx hb hts hin ty0 hty hnm hown hK hP hD hS q0 he hc k hk (hts _ hlk) (fun _ h9 => h9) hfin (hty k hk) hn hfit hl0 hdg (fun H locs hP hD hS => kk H locs ls hP hD hS hl)
theorem v_putF {X : VX} {cc : ByteArray} {n : Nat} {own : String} {R : Room} {E : VE} {l : Launch} (C : VC X cc n own R E l) {a b : Nat} {ws : va_W} {lv : List (Nat × Value)} {pc : Nat} {st : List Value} {C0 : String} {T : u_T} {N ci k0 : Nat} {ad : Nat} {fs : List Value} {v : Value} {ty : FieldType} {ws' : va_W} (ty0 : Nat → FieldType) (hty : ∀ k, k < N → parseFieldDescriptor (T k).2.2.1 = some (ty0 k)) (hnm : ∀ a, a < N → ∀ b, b < N → a ≠ b → (T a).2.1 ≠ (T b).2.1) (hin : ∀ w ∈ u_ws C0 T N, w ∈ lwG) (q0 k : Nat) (he : ws[q0]? = some (ad, .inr (ci, fs))) (hc : vwCl[ci]? = some (C0, T, N)) (hk : k < N) (hlk : Cond.fieldLink own k0 (T k).1 (T k).2.1 (T k).2.2.1 ∈ lwG) (hfin : (T k).2.2.2 = true) (hinit : VInit X) (hdecl : (T k).1 = own) (htk : ty0 k = ty) (hn : narrow ty v = v) (hfit : fits ty v = true) (hl0 : k < fs.length) (hr : ws.set q0 (ad, .inr (ci, fs.set k v)) = ws') (hdg : decode cc pc = .ok (.putfield k0, 3)) (kk : VV X a b ws' lv (pc + 3) st) : VV X a b ws lv pc (v :: .ref ad :: st) := by
  obtain ⟨p, l', e, R', s, m, args, below, meth, c, Q, A, nL, E'⟩ := X
  obtain ⟨hx, hb, hml, hown, hts, hK, hSF, hA, rfl, rfl, rfl, rfl⟩ := C
  intro H locs ls hP hD hS hl
  subst hr
  subst htk
  exact va_putF hx hb hts hin ty0 hty hnm hown hK hP hD hS q0 he hc k hk (hts _ hlk) (fun _ h9 => h9) hfin hinit hdecl (hty k hk) hn hfit hl0 hdg (fun H locs hP hD hS => kk H locs ls hP hD hS hl)
theorem v_iald {X : VX} {cc : ByteArray} {n : Nat} {own : String} {R : Room} {E : VE} {l : Launch} (C : VC X cc n own R E l) {a b : Nat} {ws : va_W} {lv : List (Nat × Value)} {pc : Nat} {st : List Value} {N : Nat} {ad : Nat} {f : Nat → Int32} {i : Int32} (q0 : Nat) (he : ws[q0]? = some (ad, .inl (eI E, N, .inl f))) (hi : vp_in i N) (hdg : decode cc pc = .ok (.iaload, 1)) (kk : VV X a b ws lv (pc + 1) (.int (f i.toNatClampNeg) :: st)) : VV X a b ws lv pc (.int i :: .ref ad :: st) := by
  obtain ⟨p, l', e, R', s, m, args, below, meth, c, Q, A, nL, E'⟩ := X
  obtain ⟨hx, hb, hml, hown, hts, hK, hSF, hA, rfl, rfl, rfl, rfl⟩ := C
  intro H locs ls hP hD hS hl
  exact va_iald (f := f) hx hb hK hP q0 1 he rfl hi hdg (kk H locs ls hP hD hS hl)
theorem v_bald {X : VX} {cc : ByteArray} {n : Nat} {own : String} {R : Room} {E : VE} {l : Launch} (C : VC X cc n own R E l) {a b : Nat} {ws : va_W} {lv : List (Nat × Value)} {pc : Nat} {st : List Value} {N : Nat} {ad : Nat} {f : Nat → Int8} {i : Int32} (q0 : Nat) (he : ws[q0]? = some (ad, .inl (eB E, N, .inl (b8 f)))) (hi : vp_in i N) (hdg : decode cc pc = .ok (.baload, 1)) (kk : VV X a b ws lv (pc + 1) (.int (f i.toNatClampNeg).toInt32 :: st)) : VV X a b ws lv pc (.int i :: .ref ad :: st) := by
  obtain ⟨p, l', e, R', s, m, args, below, meth, c, Q, A, nL, E'⟩ := X
  obtain ⟨hx, hb, hml, hown, hts, hK, hSF, hA, rfl, rfl, rfl, rfl⟩ := C
  intro H locs ls hP hD hS hl
  exact va_bald (f := b8 f) hx hb hK hP q0 0 he rfl hi hdg (kk H locs ls hP hD hS hl)
theorem v_zald {X : VX} {cc : ByteArray} {n : Nat} {own : String} {R : Room} {E : VE} {l : Launch} (C : VC X cc n own R E l) {a b : Nat} {ws : va_W} {lv : List (Nat × Value)} {pc : Nat} {st : List Value} {N : Nat} {ad : Nat} {f : Nat → Bool} {i : Int32} (q0 : Nat) (he : ws[q0]? = some (ad, .inl (eZ E, N, .inl (bz f)))) (hi : vp_in i N) (hdg : decode cc pc = .ok (.baload, 1)) (kk : VV X a b ws lv (pc + 1) (.int (if f i.toNatClampNeg then 1 else 0) :: st)) : VV X a b ws lv pc (.int i :: .ref ad :: st) := by
  obtain ⟨p, l', e, R', s, m, args, below, meth, c, Q, A, nL, E'⟩ := X
  obtain ⟨hx, hb, hml, hown, hts, hK, hSF, hA, rfl, rfl, rfl, rfl⟩ := C
  intro H locs ls hP hD hS hl
  exact va_zald (f := bz f) hx hb hK hP q0 3 he rfl hi hdg (kk H locs ls hP hD hS hl)
theorem v_lald {X : VX} {cc : ByteArray} {n : Nat} {own : String} {R : Room} {E : VE} {l : Launch} (C : VC X cc n own R E l) {a b : Nat} {ws : va_W} {lv : List (Nat × Value)} {pc : Nat} {st : List Value} {N : Nat} {ad : Nat} {f : Nat → Int64} {i : Int32} (q0 : Nat) (he : ws[q0]? = some (ad, .inl (eJ E, N, .inr (.inl f)))) (hi : vp_in i N) (hdg : decode cc pc = .ok (.laload, 1)) (kk : VV X a b ws lv (pc + 1) (.long (f i.toNatClampNeg) :: st)) : VV X a b ws lv pc (.int i :: .ref ad :: st) := by
  obtain ⟨p, l', e, R', s, m, args, below, meth, c, Q, A, nL, E'⟩ := X
  obtain ⟨hx, hb, hml, hown, hts, hK, hSF, hA, rfl, rfl, rfl, rfl⟩ := C
  intro H locs ls hP hD hS hl
  exact va_lald (f := f) hx hb hK hP q0 2 he rfl hi hdg (kk H locs ls hP hD hS hl)
theorem v_iast {X : VX} {cc : ByteArray} {n : Nat} {own : String} {R : Room} {E : VE} {l : Launch} (C : VC X cc n own R E l) {a b : Nat} {ws : va_W} {lv : List (Nat × Value)} {pc : Nat} {st : List Value} {N : Nat} {ad : Nat} {f : Nat → Int32} {i : Int32} {x : Int32} {ws' : va_W} (q0 : Nat) (he : ws[q0]? = some (ad, .inl (eI E, N, .inl f))) (hi : vp_in i N) (hr : ws.set q0 (ad, .inl (eI E, N, .inl (va_up f i.toNatClampNeg x))) = ws') (hdg : decode cc pc = .ok (.iastore, 1)) (kk : VV X a b ws' lv (pc + 1) st) : VV X a b ws lv pc (.int x :: .int i :: .ref ad :: st) := by
  obtain ⟨p, l', e, R', s, m, args, below, meth, c, Q, A, nL, E'⟩ := X
  obtain ⟨hx, hb, hml, hown, hts, hK, hSF, hA, rfl, rfl, rfl, rfl⟩ := C
  intro H locs ls hP hD hS hl
  subst hr
  exact va_iast (f := f) hx hb hK hP hD hS q0 1 he rfl hi hdg (fun H locs hP hD hS => kk H locs ls hP hD hS hl)
theorem v_bast {X : VX} {cc : ByteArray} {n : Nat} {own : String} {R : Room} {E : VE} {l : Launch} (C : VC X cc n own R E l) {a b : Nat} {ws : va_W} {lv : List (Nat × Value)} {pc : Nat} {st : List Value} {N : Nat} {ad : Nat} {f : Nat → Int8} {i : Int32} {x : Int32} {ws' : va_W} (q0 : Nat) (he : ws[q0]? = some (ad, .inl (eB E, N, .inl (b8 f)))) (hi : vp_in i N) (hr : ws.set q0 (ad, .inl (eB E, N, .inl (b8 (va_up f i.toNatClampNeg x.toInt8)))) = ws') (hdg : decode cc pc = .ok (.bastore, 1)) (kk : VV X a b ws' lv (pc + 1) st) : VV X a b ws lv pc (.int x :: .int i :: .ref ad :: st) := by
  obtain ⟨p, l', e, R', s, m, args, below, meth, c, Q, A, nL, E'⟩ := X
  obtain ⟨hx, hb, hml, hown, hts, hK, hSF, hA, rfl, rfl, rfl, rfl⟩ := C
  intro H locs ls hP hD hS hl
  subst hr
  exact va_bast (f := b8 f) hx hb hK hP hD hS q0 0 he rfl hi hdg (fun H locs hP hD hS => kk H locs ls (by rw [← up_b8]; exact hP) (by rw [← up_b8]; exact hD) hS hl)
theorem v_zast {X : VX} {cc : ByteArray} {n : Nat} {own : String} {R : Room} {E : VE} {l : Launch} (C : VC X cc n own R E l) {a b : Nat} {ws : va_W} {lv : List (Nat × Value)} {pc : Nat} {st : List Value} {N : Nat} {ad : Nat} {f : Nat → Bool} {i : Int32} {x : Int32} {ws' : va_W} (q0 : Nat) (he : ws[q0]? = some (ad, .inl (eZ E, N, .inl (bz f)))) (hi : vp_in i N) (hr : ws.set q0 (ad, .inl (eZ E, N, .inl (bz (va_up f i.toNatClampNeg (i2z x))))) = ws') (hdg : decode cc pc = .ok (.bastore, 1)) (kk : VV X a b ws' lv (pc + 1) st) : VV X a b ws lv pc (.int x :: .int i :: .ref ad :: st) := by
  obtain ⟨p, l', e, R', s, m, args, below, meth, c, Q, A, nL, E'⟩ := X
  obtain ⟨hx, hb, hml, hown, hts, hK, hSF, hA, rfl, rfl, rfl, rfl⟩ := C
  intro H locs ls hP hD hS hl
  subst hr
  exact va_zast (f := bz f) hx hb hK hP hD hS q0 3 he rfl hi hdg (fun H locs hP hD hS => kk H locs ls (by rw [← up_bz]; exact hP) (by rw [← up_bz]; exact hD) hS hl)
theorem v_last {X : VX} {cc : ByteArray} {n : Nat} {own : String} {R : Room} {E : VE} {l : Launch} (C : VC X cc n own R E l) {a b : Nat} {ws : va_W} {lv : List (Nat × Value)} {pc : Nat} {st : List Value} {N : Nat} {ad : Nat} {f : Nat → Int64} {i : Int32} {x : Int64} {ws' : va_W} (q0 : Nat) (he : ws[q0]? = some (ad, .inl (eJ E, N, .inr (.inl f)))) (hi : vp_in i N) (hr : ws.set q0 (ad, .inl (eJ E, N, .inr (.inl (va_up f i.toNatClampNeg x)))) = ws') (hdg : decode cc pc = .ok (.lastore, 1)) (kk : VV X a b ws' lv (pc + 1) st) : VV X a b ws lv pc (.long x :: .int i :: .ref ad :: st) := by
  obtain ⟨p, l', e, R', s, m, args, below, meth, c, Q, A, nL, E'⟩ := X
  obtain ⟨hx, hb, hml, hown, hts, hK, hSF, hA, rfl, rfl, rfl, rfl⟩ := C
  intro H locs ls hP hD hS hl
  subst hr
  exact va_last (f := f) hx hb hK hP hD hS q0 2 he rfl hi hdg (fun H locs hP hD hS => kk H locs ls hP hD hS hl)
theorem v_copyi {X : VX} {cc : ByteArray} {n : Nat} {own : String} {R : Room} {E : VE} {l : Launch} (C : VC X cc n own R E l) {a b : Nat} {ws : va_W} {lv : List (Nat × Value)} {pc : Nat} {st : List Value} {N0 N1 : Nat} {a0 a1 : Nat} {f g : Nat → Int32} {sp dp k : Int32} {idx : Nat} {ws' : va_W} (q0 q1 : Nat) (he : ws[q0]? = some (a0, .inl (eI E, N0, .inl f))) (he1 : ws[q1]? = some (a1, .inl (eI E, N1, .inl g))) (hlk : Cond.methodLink own idx arraycopyName ∈ lwG) (hi : cpyOK sp dp k N0 N1) (hf : 1 ≤ R.frames ∧ (st.map fun v => v.category).sum + (nativeFrameWords "java/lang/System" "arraycopy" 5 + 11) ≤ R.locals) (hr : ws.set q1 (a1, .inl (eI E, N1, .inl (va_cpy f g sp.toNatClampNeg dp.toNatClampNeg k.toNatClampNeg))) = ws') (hdg : decode cc pc = .ok (.invokestatic idx, 3)) (kk : VV X a b ws' lv (pc + 3) st) : VV X a b ws lv pc (.int k :: .int dp :: .ref a1 :: .int sp :: .ref a0 :: st) := by
  obtain ⟨p, l', e, R', s, m, args, below, meth, c, Q, A, nL, E'⟩ := X
  obtain ⟨hx, hb, hml, hown, hts, hK, hSF, hA, rfl, rfl, rfl, rfl⟩ := C
  intro H locs ls hP hD hS hl
  subst hr
  exact va_copyi (ty := .int) (f := f) (g := g) hx hb (hml.trans hl.1.symm) hown (hts _ hlk) (hts _ mNative) (hts _ mStatic) (hts _ mSystem) hK hP hD hS q0 q1 1 1 he he1 rfl rfl rfl hi.1 hi.2.1 hi.2.2.1 hi.2.2.2.1 hi.2.2.2.2 (fun _ _ => rfl) hf.1 hf.2 hdg (fun H locs hP hD hS => kk H locs ls hP hD hS hl)
theorem v_copyb {X : VX} {cc : ByteArray} {n : Nat} {own : String} {R : Room} {E : VE} {l : Launch} (C : VC X cc n own R E l) {a b : Nat} {ws : va_W} {lv : List (Nat × Value)} {pc : Nat} {st : List Value} {N0 N1 : Nat} {a0 a1 : Nat} {f g : Nat → Int8} {sp dp k : Int32} {idx : Nat} {ws' : va_W} (q0 q1 : Nat) (he : ws[q0]? = some (a0, .inl (eB E, N0, .inl (b8 f)))) (he1 : ws[q1]? = some (a1, .inl (eB E, N1, .inl (b8 g)))) (hlk : Cond.methodLink own idx arraycopyName ∈ lwG) (hi : cpyOK sp dp k N0 N1) (hf : 1 ≤ R.frames ∧ (st.map fun v => v.category).sum + (nativeFrameWords "java/lang/System" "arraycopy" 5 + 11) ≤ R.locals) (hr : ws.set q1 (a1, .inl (eB E, N1, .inl (b8 (va_cpy f g sp.toNatClampNeg dp.toNatClampNeg k.toNatClampNeg)))) = ws') (hdg : decode cc pc = .ok (.invokestatic idx, 3)) (kk : VV X a b ws' lv (pc + 3) st) : VV X a b ws lv pc (.int k :: .int dp :: .ref a1 :: .int sp :: .ref a0 :: st) := by
  obtain ⟨p, l', e, R', s, m, args, below, meth, c, Q, A, nL, E'⟩ := X
  obtain ⟨hx, hb, hml, hown, hts, hK, hSF, hA, rfl, rfl, rfl, rfl⟩ := C
  intro H locs ls hP hD hS hl
  subst hr
  exact va_copyi (ty := .byte) (f := b8 f) (g := b8 g) hx hb (hml.trans hl.1.symm) hown (hts _ hlk) (hts _ mNative) (hts _ mStatic) (hts _ mSystem) hK hP hD hS q0 q1 0 0 he he1 rfl rfl rfl hi.1 hi.2.1 hi.2.2.1 hi.2.2.2.1 hi.2.2.2.2 (fun _ _ => fit_b8 _ _) hf.1 hf.2 hdg (fun H locs hP hD hS => kk H locs ls (by rw [← cpy_b8]; exact hP) (by rw [← cpy_b8]; exact hD) hS hl)
theorem v_copyz {X : VX} {cc : ByteArray} {n : Nat} {own : String} {R : Room} {E : VE} {l : Launch} (C : VC X cc n own R E l) {a b : Nat} {ws : va_W} {lv : List (Nat × Value)} {pc : Nat} {st : List Value} {N0 N1 : Nat} {a0 a1 : Nat} {f g : Nat → Bool} {sp dp k : Int32} {idx : Nat} {ws' : va_W} (q0 q1 : Nat) (he : ws[q0]? = some (a0, .inl (eZ E, N0, .inl (bz f)))) (he1 : ws[q1]? = some (a1, .inl (eZ E, N1, .inl (bz g)))) (hlk : Cond.methodLink own idx arraycopyName ∈ lwG) (hi : cpyOK sp dp k N0 N1) (hf : 1 ≤ R.frames ∧ (st.map fun v => v.category).sum + (nativeFrameWords "java/lang/System" "arraycopy" 5 + 11) ≤ R.locals) (hr : ws.set q1 (a1, .inl (eZ E, N1, .inl (bz (va_cpy f g sp.toNatClampNeg dp.toNatClampNeg k.toNatClampNeg)))) = ws') (hdg : decode cc pc = .ok (.invokestatic idx, 3)) (kk : VV X a b ws' lv (pc + 3) st) : VV X a b ws lv pc (.int k :: .int dp :: .ref a1 :: .int sp :: .ref a0 :: st) := by
  obtain ⟨p, l', e, R', s, m, args, below, meth, c, Q, A, nL, E'⟩ := X
  obtain ⟨hx, hb, hml, hown, hts, hK, hSF, hA, rfl, rfl, rfl, rfl⟩ := C
  intro H locs ls hP hD hS hl
  subst hr
  exact va_copyi (ty := .boolean) (f := bz f) (g := bz g) hx hb (hml.trans hl.1.symm) hown (hts _ hlk) (hts _ mNative) (hts _ mStatic) (hts _ mSystem) hK hP hD hS q0 q1 3 3 he he1 rfl rfl rfl hi.1 hi.2.1 hi.2.2.1 hi.2.2.2.1 hi.2.2.2.2 (fun _ _ => fit_bz _ _) hf.1 hf.2 hdg (fun H locs hP hD hS => kk H locs ls (by rw [← cpy_bz]; exact hP) (by rw [← cpy_bz]; exact hD) hS hl)
theorem v_copyl {X : VX} {cc : ByteArray} {n : Nat} {own : String} {R : Room} {E : VE} {l : Launch} (C : VC X cc n own R E l) {a b : Nat} {ws : va_W} {lv : List (Nat × Value)} {pc : Nat} {st : List Value} {N0 N1 : Nat} {a0 a1 : Nat} {f g : Nat → Int64} {sp dp k : Int32} {idx : Nat} {ws' : va_W} (q0 q1 : Nat) (he : ws[q0]? = some (a0, .inl (eJ E, N0, .inr (.inl f)))) (he1 : ws[q1]? = some (a1, .inl (eJ E, N1, .inr (.inl g)))) (hlk : Cond.methodLink own idx arraycopyName ∈ lwG) (hi : cpyOK sp dp k N0 N1) (hf : 1 ≤ R.frames ∧ (st.map fun v => v.category).sum + (nativeFrameWords "java/lang/System" "arraycopy" 5 + 11) ≤ R.locals) (hr : ws.set q1 (a1, .inl (eJ E, N1, .inr (.inl (va_cpy f g sp.toNatClampNeg dp.toNatClampNeg k.toNatClampNeg)))) = ws') (hdg : decode cc pc = .ok (.invokestatic idx, 3)) (kk : VV X a b ws' lv (pc + 3) st) : VV X a b ws lv pc (.int k :: .int dp :: .ref a1 :: .int sp :: .ref a0 :: st) := by
  obtain ⟨p, l', e, R', s, m, args, below, meth, c, Q, A, nL, E'⟩ := X
  obtain ⟨hx, hb, hml, hown, hts, hK, hSF, hA, rfl, rfl, rfl, rfl⟩ := C
  intro H locs ls hP hD hS hl
  subst hr
  exact va_copyl (ty := .long) (f := f) (g := g) hx hb (hml.trans hl.1.symm) hown (hts _ hlk) (hts _ mNative) (hts _ mStatic) (hts _ mSystem) hK hP hD hS q0 q1 2 2 he he1 rfl rfl rfl hi.1 hi.2.1 hi.2.2.1 hi.2.2.2.1 hi.2.2.2.2 (fun _ _ => rfl) hf.1 hf.2 hdg (fun H locs hP hD hS => kk H locs ls hP hD hS hl)
theorem v_imin {X : VX} {cc : ByteArray} {n : Nat} {own : String} {R : Room} {E : VE} {l : Launch} (C : VC X cc n own R E l) {a b : Nat} {ws : va_W} {lv : List (Nat × Value)} {pc : Nat} {st : List Value} {x y : Int32} {idx : Nat} (hlk : Cond.methodLink own idx Lib.Math.min.name ∈ lwG) (hf : 1 ≤ R.frames ∧ (st.map fun v => v.category).sum + 13 ≤ R.locals ∧ a ≤ R.cells ∧ b ≤ R.slots) (hdg : decode cc pc = .ok (.invokestatic idx, 3)) (kk : VV X a b ws lv (pc + 3) (.int (imin x y) :: st)) : VV X a b ws lv pc (.int y :: .int x :: st) := by
  obtain ⟨p, l', e, R', s, m, args, below, meth, c, Q, A, nL, E'⟩ := X
  obtain ⟨hx, hb, hml, hown, hts, hK, hSF, hA, rfl, rfl, rfl, rfl⟩ := C
  intro H locs ls hP hD hS hl
  exact va_mmin hx hb (hml.trans hl.1.symm) hown (hts _ hlk) (hts _ mSmin) (hts _ mMath) (hts _ mCmin) hf.1 hf.2.1 hf.2.2.1 hf.2.2.2 hdg (kk H locs ls hP hD hS hl)
theorem v_imax {X : VX} {cc : ByteArray} {n : Nat} {own : String} {R : Room} {E : VE} {l : Launch} (C : VC X cc n own R E l) {a b : Nat} {ws : va_W} {lv : List (Nat × Value)} {pc : Nat} {st : List Value} {x y : Int32} {idx : Nat} (hlk : Cond.methodLink own idx Lib.Math.max.name ∈ lwG) (hf : 1 ≤ R.frames ∧ (st.map fun v => v.category).sum + 13 ≤ R.locals ∧ a ≤ R.cells ∧ b ≤ R.slots) (hdg : decode cc pc = .ok (.invokestatic idx, 3)) (kk : VV X a b ws lv (pc + 3) (.int (imax x y) :: st)) : VV X a b ws lv pc (.int y :: .int x :: st) := by
  obtain ⟨p, l', e, R', s, m, args, below, meth, c, Q, A, nL, E'⟩ := X
  obtain ⟨hx, hb, hml, hown, hts, hK, hSF, hA, rfl, rfl, rfl, rfl⟩ := C
  intro H locs ls hP hD hS hl
  exact va_mmax hx hb (hml.trans hl.1.symm) hown (hts _ hlk) (hts _ mSmax) (hts _ mMath) (hts _ mCmax) hf.1 hf.2.1 hf.2.2.1 hf.2.2.2 hdg (kk H locs ls hP hD hS hl)
def lmin (x y : Int64) : Int64 := if y < x then y else x
theorem mSminJ : Cond.static Lib.MathLoose.min_long.x ∈ lwG := lwG_of 1160 (by decide +kernel) (by decide +kernel)
theorem mCminJ : Cond.code Lib.MathLoose.min_long.x Lib.MathLoose.min_long.code 4 (some .long) ∈ lwG := lwG_of 1161 (by decide +kernel) (by decide +kernel)
theorem v_lmin {X : VX} {cc : ByteArray} {n : Nat} {own : String} {R : Room} {E : VE} {l : Launch} (C : VC X cc n own R E l) {a b : Nat} {ws : va_W} {lv : List (Nat × Value)} {pc : Nat} {st : List Value} {x y : Int64} {idx : Nat} (hlk : Cond.methodLink own idx Lib.MathLoose.min_long.x ∈ lwG) (hf : 1 ≤ R.frames ∧ (st.map fun v => v.category).sum + 15 ≤ R.locals ∧ a ≤ R.cells ∧ b ≤ R.slots) (hdg : decode cc pc = .ok (.invokestatic idx, 3)) (kk : VV X a b ws lv (pc + 3) (.long (lmin x y) :: st)) : VV X a b ws lv pc (.long y :: .long x :: st) := by
  obtain ⟨p, l', e, R', s, m, args, below, meth, c, Q, A, nL, E'⟩ := X
  obtain ⟨hx, hb, hml, hown, hts, hK, hSF, hA, rfl, rfl, rfl, rfl⟩ := C
  intro H locs ls hP hD hS hl
  exact va_mmin_long hx hb (hml.trans hl.1.symm) hown (hts _ hlk) (hts _ mSminJ) (hts _ mMath) (hts _ mCminJ) hf.1 hf.2.1 hf.2.2.1 hf.2.2.2 hdg (kk H locs ls hP hD hS hl)
theorem v_alen {X : VX} {cc : ByteArray} {n : Nat} {own : String} {R : Room} {E : VE} {l : Launch} (C : VC X cc n own R E l) {a b : Nat} {ws : va_W} {lv : List (Nat × Value)} {pc : Nat} {st : List Value} {ad : Nat} {cA : ClassId} {x : vp_A} {ty : FieldType} {v : Int32} (q0 t0 : Nat) (he : ws[q0]? = some (ad, .inl (cA, x))) (ht : (tysE E)[t0]? = some (cA, ty)) (hv : Int32.ofNat x.1 = v) (hdg : decode cc pc = .ok (.arraylength, 1)) (kk : VV X a b ws lv (pc + 1) (.int v :: st)) : VV X a b ws lv pc (.ref ad :: st) := by
  obtain ⟨p, l', e, R', s, m, args, below, meth, c, Q, A, nL, E'⟩ := X
  obtain ⟨hx, hb, hml, hown, hts, hK, hSF, hA, rfl, rfl, rfl, rfl⟩ := C
  intro H locs ls hP hD hS hl
  exact va_alen hx hb hK hP q0 t0 he ht hv hdg (kk H locs ls hP hD hS hl)
theorem v_ws {X : VX} {cc : ByteArray} {n : Nat} {own : String} {R : Room} {E : VE} {l : Launch} (C : VC X cc n own R E l) {a b : Nat} {ws : va_W} {lv : List (Nat × Value)} {pc : Nat} {st : List Value} {ws' : va_W} (is : List Nat) (hn : va_nd is = true) (hs : is.map (fun i => ws[i]?) = ws'.map some) (kk : VV X a b ws' lv pc st) : VV X a b ws lv pc st := by
  obtain ⟨p, l', e, R', s, m, args, below, meth, c, Q, A, nL, E'⟩ := X
  obtain ⟨hx, hb, hml, hown, hts, hK, hSF, hA, rfl, rfl, rfl, rfl⟩ := C
  intro H locs ls hP hD hS hl
  exact kk H locs ls (fun k q hq => by obtain ⟨i, -, h2⟩ := va_is is hs k q hq; exact hP i q h2) (hD.sub is hn hs) hS hl
theorem v_lv {X : VX} {cc : ByteArray} {n : Nat} {own : String} {R : Room} {E : VE} {l : Launch} (C : VC X cc n own R E l) {a b : Nat} {ws : va_W} {lv : List (Nat × Value)} {pc : Nat} {st : List Value} {lv' : List (Nat × Value)} (ks : List Nat) (hs : lv_pick lv ks = lv') (kk : VV X a b ws lv' pc st) : VV X a b ws lv pc st := by
  obtain ⟨p, l', e, R', s, m, args, below, meth, c, Q, A, nL, E'⟩ := X
  obtain ⟨hx, hb, hml, hown, hts, hK, hSF, hA, rfl, rfl, rfl, rfl⟩ := C
  intro H locs ls hP hD hS hl
  exact kk H locs ls hP hD hS (lv_sub hl ks hs)
theorem v_widen {X : VX} {cc : ByteArray} {n : Nat} {own : String} {R : Room} {E : VE} {l : Launch} (C : VC X cc n own R E l) {a b : Nat} {ws : va_W} {lv : List (Nat × Value)} {pc : Nat} {st : List Value} {a' b' : Nat} (h1 : a ≤ a') (h2 : b ≤ b') (kk : VV X a' b' ws lv pc st) : VV X a b ws lv pc st := by
  obtain ⟨p, l', e, R', s, m, args, below, meth, c, Q, A, nL, E'⟩ := X
  obtain ⟨hx, hb, hml, hown, hts, hK, hSF, hA, rfl, rfl, rfl, rfl⟩ := C
  intro H locs ls hP hD hS hl
  exact W.widen h1 h2 (kk H locs ls hP hD hS hl)
theorem v_eq {X : VX} {cc : ByteArray} {n : Nat} {own : String} {R : Room} {E : VE} {l : Launch} (C : VC X cc n own R E l) {a b : Nat} {ws : va_W} {lv : List (Nat × Value)} {pc : Nat} {st : List Value} {ws' : va_W} {lv' : List (Nat × Value)} {st' : List Value} {pc' : Nat} (h1 : ws = ws') (h2 : lv = lv') (h3 : pc = pc') (h4 : st = st') (kk : VV X a b ws' lv' pc' st') : VV X a b ws lv pc st := by subst h1 h2 h3 h4; exact kk
theorem v_callVi {X : VX} {cc : ByteArray} {n : Nat} {own : String} {R : Room} {E : VE} {l : Launch} (C : VC X cc n own R E l) {a b : Nat} {ws : va_W} {lv : List (Nat × Value)} {pc : Nat} {st : List Value} {y : MethodName} {yc : ByteArray} {yn : Nat} {yr : FieldType} {d mc ms : Nat} {hb0 : Nat} {As : List Value} {w0 wr : va_W} {S : Type} {wf : S → va_W} {post : Int32 → S → Prop} {idx : Nat} {stk : List Value} (hM : MI l y yc yn yr d mc ms E (.ref hb0 :: As) w0 wf post) (hlk : Cond.methodLink own idx y ∈ lwG) (hini : Cond.initialized y.cls ∈ lwG) (hco : Cond.code y yc yn (some yr) ∈ lwG) (hin : Cond.instanceMethod y ∈ lwG) (hse : Cond.selects y.cls y y ∈ lwG) {ci qb N : Nat} {T : u_T} {fs : List Value} (hcl : vwCl[ci]? = some (y.cls, T, N)) (hqb : ws[qb]? = some (hb0, .inr (ci, fs))) (hd : y.cls ≠ "java/lang/invoke/MethodHandle" ∧ y.cls ≠ "java/lang/invoke/VarHandle" ∧ (parseMethodDescriptor y.desc).map (fun d => d.parameters.length) = some As.length) (hR : d + 1 ≤ R.frames ∧ 8 + (yn + 11) + 40 * d ≤ R.locals) (hf : a + mc ≤ R.cells ∧ b + ms ≤ R.slots) (isC isR : List Nat) (hC : isC.map (fun i => ws[i]?) = w0.map some) (hnC : va_nd isC = true) (hRr : isR.map (fun i => ws[i]?) = wr.map some) (hn : va_nd isR = true) (hdis : ∀ i ∈ isR, i ∉ isC) (hstk : stk = As.reverse ++ .ref hb0 :: st) (hW8 : (st.map fun v => v.category).sum ≤ 8) (hdg : decode cc pc = .ok (.invokevirtual idx, 3)) (kk : ∀ (r : Int32) (u : S), post r u → VV X (a + mc) (b + ms) (wr ++ wf u) lv (pc + 3) (.int r :: st)) : VV X a b ws lv pc stk := by
  obtain ⟨p, l', e, R', s, m, args, below, meth, c, Q, A, nL, E'⟩ := X
  obtain ⟨hx, hb, hml, hown, hts, hK, hSF, hA, rfl, rfl, rfl, rfl⟩ := C
  intro H locs ls hP hD hS hl
  subst hstk
  have hG : GoodIn lwG (Cond.code y yc yn (some yr) :: lwG) := fun w h => by
    rcases List.mem_cons.mp h with h | h
    · subst h; exact ⟨hco, good_of_word (lwG_good hco)⟩
    · exact ⟨h, good_of_word (lwG_good h)⟩
  have hPc : va_P E'.1 vwCl w0 H := fun k q hq => by obtain ⟨i, -, h2⟩ := va_is isC hC k q hq; exact hP i q h2
  have hDc := hD.sub isC hnC hC
  have hFc := va_free (wc := w0) hD hS hA isC hC
  have hSc : SF E' (va_A w0 H.size) s H := (hSF.kept (fun a h1 h2 => hS.2.1 a h1 h2)).narrow hFc
  refine va_calli (va_runV (As := As) (rest := st) (Ts := lwG) ⟨hx, hb, hml, hown, hts⟩ (hM H.size) ⟨callB_of (ret := (some yr)) As.length hts hG rfl rfl rfl (hts _ hini) (hts _ hlk) hd hR, hts _ hin, hts _ hse⟩ ⟨mPre_blind, va_recv hK hP hcl hqb, fun U hU hW => ⟨rfl, by rw [hU], by rw [hU]; exact hPc, ⟨va_K.moved hW.alike hK, by rw [hU]; exact hSc.warm hW⟩, hDc.weaken (fun _ _ _ _ => trivial)⟩⟩ rfl rfl (hl.1) rfl (lv_room hW8) hdg hf) hS (fun q _ h => hFc q h) hFc (fun r u t H1 locs ht hvm hw hB hz1 hk1 hS => ?_)
  obtain ⟨hP1, hK1, hD1⟩ := hB
  rw [ht] at hP1
  obtain ⟨hP, hD⟩ := va_join (wr := wr) (w1 := wf u) hP hD isC isR hC hRr hn hdis hk1 hFc hP1 hD1
  exact kk r u hw H1 locs ls hP hD hS hl
theorem v_callVv {X : VX} {cc : ByteArray} {n : Nat} {own : String} {R : Room} {E : VE} {l : Launch} (C : VC X cc n own R E l) {a b : Nat} {ws : va_W} {lv : List (Nat × Value)} {pc : Nat} {st : List Value} {y : MethodName} {yc : ByteArray} {yn : Nat} {d mc ms : Nat} {hb0 : Nat} {As : List Value} {w0 wr : va_W} {S : Type} {wf : S → va_W} {post : S → Prop} {idx : Nat} {stk : List Value} (hM : MV l y yc yn d mc ms E (.ref hb0 :: As) w0 wf post) (hlk : Cond.methodLink own idx y ∈ lwG) (hini : Cond.initialized y.cls ∈ lwG) (hco : Cond.code y yc yn none ∈ lwG) (hin : Cond.instanceMethod y ∈ lwG) (hse : Cond.selects y.cls y y ∈ lwG) {ci qb N : Nat} {T : u_T} {fs : List Value} (hcl : vwCl[ci]? = some (y.cls, T, N)) (hqb : ws[qb]? = some (hb0, .inr (ci, fs))) (hd : y.cls ≠ "java/lang/invoke/MethodHandle" ∧ y.cls ≠ "java/lang/invoke/VarHandle" ∧ (parseMethodDescriptor y.desc).map (fun d => d.parameters.length) = some As.length) (hR : d + 1 ≤ R.frames ∧ 8 + (yn + 11) + 40 * d ≤ R.locals) (hf : a + mc ≤ R.cells ∧ b + ms ≤ R.slots) (isC isR : List Nat) (hC : isC.map (fun i => ws[i]?) = w0.map some) (hnC : va_nd isC = true) (hRr : isR.map (fun i => ws[i]?) = wr.map some) (hn : va_nd isR = true) (hdis : ∀ i ∈ isR, i ∉ isC) (hstk : stk = As.reverse ++ .ref hb0 :: st) (hW8 : (st.map fun v => v.category).sum ≤ 8) (hdg : decode cc pc = .ok (.invokevirtual idx, 3)) (kk : ∀ (u : S), post u → VV X (a + mc) (b + ms) (wr ++ wf u) lv (pc + 3) st) : VV X a b ws lv pc stk := by
  obtain ⟨p, l', e, R', s, m, args, below, meth, c, Q, A, nL, E'⟩ := X
  obtain ⟨hx, hb, hml, hown, hts, hK, hSF, hA, rfl, rfl, rfl, rfl⟩ := C
  intro H locs ls hP hD hS hl
  subst hstk
  have hG : GoodIn lwG (Cond.code y yc yn none :: lwG) := fun w h => by
    rcases List.mem_cons.mp h with h | h
    · subst h; exact ⟨hco, good_of_word (lwG_good hco)⟩
    · exact ⟨h, good_of_word (lwG_good h)⟩
  have hPc : va_P E'.1 vwCl w0 H := fun k q hq => by obtain ⟨i, -, h2⟩ := va_is isC hC k q hq; exact hP i q h2
  have hDc := hD.sub isC hnC hC
  have hFc := va_free (wc := w0) hD hS hA isC hC
  have hSc : SF E' (va_A w0 H.size) s H := (hSF.kept (fun a h1 h2 => hS.2.1 a h1 h2)).narrow hFc
  refine va_callv (va_runV (As := As) (rest := st) (Ts := lwG) ⟨hx, hb, hml, hown, hts⟩ (hM H.size) ⟨callB_of (ret := none) As.length hts hG rfl rfl rfl (hts _ hini) (hts _ hlk) hd hR, hts _ hin, hts _ hse⟩ ⟨mPre_blind, va_recv hK hP hcl hqb, fun U hU hW => ⟨rfl, by rw [hU], by rw [hU]; exact hPc, ⟨va_K.moved hW.alike hK, by rw [hU]; exact hSc.warm hW⟩, hDc.weaken (fun _ _ _ _ => trivial)⟩⟩ rfl rfl (hl.1) rfl (lv_room hW8) hdg hf) hS (fun q _ h => hFc q h) hFc (fun u t H1 locs ht hvm hw hB hz1 hk1 hS => ?_)
  obtain ⟨hP1, hK1, hD1⟩ := hB
  rw [ht] at hP1
  obtain ⟨hP, hD⟩ := va_join (wr := wr) (w1 := wf u) hP hD isC isR hC hRr hn hdis hk1 hFc hP1 hD1
  exact kk u hw H1 locs ls hP hD hS hl
theorem v_callVl {X : VX} {cc : ByteArray} {n : Nat} {own : String} {R : Room} {E : VE} {l : Launch} (C : VC X cc n own R E l) {a b : Nat} {ws : va_W} {lv : List (Nat × Value)} {pc : Nat} {st : List Value} {y : MethodName} {yc : ByteArray} {yn : Nat} {d mc ms : Nat} {hb0 : Nat} {As : List Value} {w0 wr : va_W} {S : Type} {wf : S → va_W} {post : Int64 → S → Prop} {idx : Nat} {stk : List Value} (hM : ML l y yc yn d mc ms E (.ref hb0 :: As) w0 wf post) (hlk : Cond.methodLink own idx y ∈ lwG) (hini : Cond.initialized y.cls ∈ lwG) (hco : Cond.code y yc yn (some .long) ∈ lwG) (hin : Cond.instanceMethod y ∈ lwG) (hse : Cond.selects y.cls y y ∈ lwG) {ci qb N : Nat} {T : u_T} {fs : List Value} (hcl : vwCl[ci]? = some (y.cls, T, N)) (hqb : ws[qb]? = some (hb0, .inr (ci, fs))) (hd : y.cls ≠ "java/lang/invoke/MethodHandle" ∧ y.cls ≠ "java/lang/invoke/VarHandle" ∧ (parseMethodDescriptor y.desc).map (fun d => d.parameters.length) = some As.length) (hR : d + 1 ≤ R.frames ∧ 8 + (yn + 11) + 40 * d ≤ R.locals) (hf : a + mc ≤ R.cells ∧ b + ms ≤ R.slots) (isC isR : List Nat) (hC : isC.map (fun i => ws[i]?) = w0.map some) (hnC : va_nd isC = true) (hRr : isR.map (fun i => ws[i]?) = wr.map some) (hn : va_nd isR = true) (hdis : ∀ i ∈ isR, i ∉ isC) (hstk : stk = As.reverse ++ .ref hb0 :: st) (hW8 : (st.map fun v => v.category).sum ≤ 8) (hdg : decode cc pc = .ok (.invokevirtual idx, 3)) (kk : ∀ (r : Int64) (u : S), post r u → VV X (a + mc) (b + ms) (wr ++ wf u) lv (pc + 3) (.long r :: st)) : VV X a b ws lv pc stk := by
  obtain ⟨p, l', e, R', s, m, args, below, meth, c, Q, A, nL, E'⟩ := X
  obtain ⟨hx, hb, hml, hown, hts, hK, hSF, hA, rfl, rfl, rfl, rfl⟩ := C
  intro H locs ls hP hD hS hl
  subst hstk
  have hG : GoodIn lwG (Cond.code y yc yn (some .long) :: lwG) := fun w h => by
    rcases List.mem_cons.mp h with h | h
    · subst h; exact ⟨hco, good_of_word (lwG_good hco)⟩
    · exact ⟨h, good_of_word (lwG_good h)⟩
  have hPc : va_P E'.1 vwCl w0 H := fun k q hq => by obtain ⟨i, -, h2⟩ := va_is isC hC k q hq; exact hP i q h2
  have hDc := hD.sub isC hnC hC
  have hFc := va_free (wc := w0) hD hS hA isC hC
  have hSc : SF E' (va_A w0 H.size) s H := (hSF.kept (fun a h1 h2 => hS.2.1 a h1 h2)).narrow hFc
  refine va_calll (va_runV (As := As) (rest := st) (Ts := lwG) ⟨hx, hb, hml, hown, hts⟩ (hM H.size) ⟨callB_of (ret := (some .long)) As.length hts hG rfl rfl rfl (hts _ hini) (hts _ hlk) hd hR, hts _ hin, hts _ hse⟩ ⟨mPre_blind, va_recv hK hP hcl hqb, fun U hU hW => ⟨rfl, by rw [hU], by rw [hU]; exact hPc, ⟨va_K.moved hW.alike hK, by rw [hU]; exact hSc.warm hW⟩, hDc.weaken (fun _ _ _ _ => trivial)⟩⟩ rfl rfl (hl.1) rfl (lv_room hW8) hdg hf) hS (fun q _ h => hFc q h) hFc (fun r u t H1 locs ht hvm hw hB hz1 hk1 hS => ?_)
  obtain ⟨hP1, hK1, hD1⟩ := hB
  rw [ht] at hP1
  obtain ⟨hP, hD⟩ := va_join (wr := wr) (w1 := wf u) hP hD isC isR hC hRr hn hdis hk1 hFc hP1 hD1
  exact kk r u hw H1 locs ls hP hD hS hl
theorem v_callSi {X : VX} {cc : ByteArray} {n : Nat} {own : String} {R : Room} {E : VE} {l : Launch} (C : VC X cc n own R E l) {a b : Nat} {ws : va_W} {lv : List (Nat × Value)} {pc : Nat} {st : List Value} {y : MethodName} {yc : ByteArray} {yn : Nat} {yr : FieldType} {d mc ms : Nat} {As : List Value} {w0 wr : va_W} {S : Type} {wf : S → va_W} {post : Int32 → S → Prop} {idx : Nat} {stk : List Value} (hM : MI l y yc yn yr d mc ms E As w0 wf post) (hlk : Cond.methodLink own idx y ∈ lwG) (hini : Cond.initialized y.cls ∈ lwG) (hco : Cond.code y yc yn (some yr) ∈ lwG) (hst0 : Cond.static y ∈ lwG) (hd : y.cls ≠ "java/lang/invoke/MethodHandle" ∧ y.cls ≠ "java/lang/invoke/VarHandle" ∧ (parseMethodDescriptor y.desc).map (fun d => d.parameters.length) = some As.length) (hR : d + 1 ≤ R.frames ∧ 8 + (yn + 11) + 40 * d ≤ R.locals) (hf : a + mc ≤ R.cells ∧ b + ms ≤ R.slots) (isC isR : List Nat) (hC : isC.map (fun i => ws[i]?) = w0.map some) (hnC : va_nd isC = true) (hRr : isR.map (fun i => ws[i]?) = wr.map some) (hn : va_nd isR = true) (hdis : ∀ i ∈ isR, i ∉ isC) (hstk : stk = As.reverse ++ st) (hW8 : (st.map fun v => v.category).sum ≤ 8) (hdg : decode cc pc = .ok (.invokestatic idx, 3)) (kk : ∀ (r : Int32) (u : S), post r u → VV X (a + mc) (b + ms) (wr ++ wf u) lv (pc + 3) (.int r :: st)) : VV X a b ws lv pc stk := by
  obtain ⟨p, l', e, R', s, m, args, below, meth, c, Q, A, nL, E'⟩ := X
  obtain ⟨hx, hb, hml, hown, hts, hK, hSF, hA, rfl, rfl, rfl, rfl⟩ := C
  intro H locs ls hP hD hS hl
  subst hstk
  have hG : GoodIn lwG (Cond.code y yc yn (some yr) :: lwG) := fun w h => by
    rcases List.mem_cons.mp h with h | h
    · subst h; exact ⟨hco, good_of_word (lwG_good hco)⟩
    · exact ⟨h, good_of_word (lwG_good h)⟩
  have hPc : va_P E'.1 vwCl w0 H := fun k q hq => by obtain ⟨i, -, h2⟩ := va_is isC hC k q hq; exact hP i q h2
  have hDc := hD.sub isC hnC hC
  have hFc := va_free (wc := w0) hD hS hA isC hC
  have hSc : SF E' (va_A w0 H.size) s H := (hSF.kept (fun a h1 h2 => hS.2.1 a h1 h2)).narrow hFc
  refine va_calli (va_runS (As := As) (rest := st) (Ts := lwG) ⟨hx, hb, hml, hown, hts⟩ (hM H.size) ⟨callB_of (ret := (some yr)) As.length hts hG rfl rfl rfl (hts _ hini) (hts _ hlk) hd hR, hts _ hst0⟩ ⟨mPre_blind, fun U hU hW => ⟨rfl, by rw [hU], by rw [hU]; exact hPc, ⟨va_K.moved hW.alike hK, by rw [hU]; exact hSc.warm hW⟩, hDc.weaken (fun _ _ _ _ => trivial)⟩⟩ rfl rfl (hl.1) rfl (lv_room hW8) hdg hf) hS (fun q _ h => hFc q h) hFc (fun r u t H1 locs ht hvm hw hB hz1 hk1 hS => ?_)
  obtain ⟨hP1, hK1, hD1⟩ := hB
  rw [ht] at hP1
  obtain ⟨hP, hD⟩ := va_join (wr := wr) (w1 := wf u) hP hD isC isR hC hRr hn hdis hk1 hFc hP1 hD1
  exact kk r u hw H1 locs ls hP hD hS hl
theorem v_callSv {X : VX} {cc : ByteArray} {n : Nat} {own : String} {R : Room} {E : VE} {l : Launch} (C : VC X cc n own R E l) {a b : Nat} {ws : va_W} {lv : List (Nat × Value)} {pc : Nat} {st : List Value} {y : MethodName} {yc : ByteArray} {yn : Nat} {d mc ms : Nat} {As : List Value} {w0 wr : va_W} {S : Type} {wf : S → va_W} {post : S → Prop} {idx : Nat} {stk : List Value} (hM : MV l y yc yn d mc ms E As w0 wf post) (hlk : Cond.methodLink own idx y ∈ lwG) (hini : Cond.initialized y.cls ∈ lwG) (hco : Cond.code y yc yn none ∈ lwG) (hst0 : Cond.static y ∈ lwG) (hd : y.cls ≠ "java/lang/invoke/MethodHandle" ∧ y.cls ≠ "java/lang/invoke/VarHandle" ∧ (parseMethodDescriptor y.desc).map (fun d => d.parameters.length) = some As.length) (hR : d + 1 ≤ R.frames ∧ 8 + (yn + 11) + 40 * d ≤ R.locals) (hf : a + mc ≤ R.cells ∧ b + ms ≤ R.slots) (isC isR : List Nat) (hC : isC.map (fun i => ws[i]?) = w0.map some) (hnC : va_nd isC = true) (hRr : isR.map (fun i => ws[i]?) = wr.map some) (hn : va_nd isR = true) (hdis : ∀ i ∈ isR, i ∉ isC) (hstk : stk = As.reverse ++ st) (hW8 : (st.map fun v => v.category).sum ≤ 8) (hdg : decode cc pc = .ok (.invokestatic idx, 3)) (kk : ∀ (u : S), post u → VV X (a + mc) (b + ms) (wr ++ wf u) lv (pc + 3) st) : VV X a b ws lv pc stk := by
  obtain ⟨p, l', e, R', s, m, args, below, meth, c, Q, A, nL, E'⟩ := X
  obtain ⟨hx, hb, hml, hown, hts, hK, hSF, hA, rfl, rfl, rfl, rfl⟩ := C
  intro H locs ls hP hD hS hl
  subst hstk
  have hG : GoodIn lwG (Cond.code y yc yn none :: lwG) := fun w h => by
    rcases List.mem_cons.mp h with h | h
    · subst h; exact ⟨hco, good_of_word (lwG_good hco)⟩
    · exact ⟨h, good_of_word (lwG_good h)⟩
  have hPc : va_P E'.1 vwCl w0 H := fun k q hq => by obtain ⟨i, -, h2⟩ := va_is isC hC k q hq; exact hP i q h2
  have hDc := hD.sub isC hnC hC
  have hFc := va_free (wc := w0) hD hS hA isC hC
  have hSc : SF E' (va_A w0 H.size) s H := (hSF.kept (fun a h1 h2 => hS.2.1 a h1 h2)).narrow hFc
  refine va_callv (va_runS (As := As) (rest := st) (Ts := lwG) ⟨hx, hb, hml, hown, hts⟩ (hM H.size) ⟨callB_of (ret := none) As.length hts hG rfl rfl rfl (hts _ hini) (hts _ hlk) hd hR, hts _ hst0⟩ ⟨mPre_blind, fun U hU hW => ⟨rfl, by rw [hU], by rw [hU]; exact hPc, ⟨va_K.moved hW.alike hK, by rw [hU]; exact hSc.warm hW⟩, hDc.weaken (fun _ _ _ _ => trivial)⟩⟩ rfl rfl (hl.1) rfl (lv_room hW8) hdg hf) hS (fun q _ h => hFc q h) hFc (fun u t H1 locs ht hvm hw hB hz1 hk1 hS => ?_)
  obtain ⟨hP1, hK1, hD1⟩ := hB
  rw [ht] at hP1
  obtain ⟨hP, hD⟩ := va_join (wr := wr) (w1 := wf u) hP hD isC isR hC hRr hn hdis hk1 hFc hP1 hD1
  exact kk u hw H1 locs ls hP hD hS hl
theorem v_callSl {X : VX} {cc : ByteArray} {n : Nat} {own : String} {R : Room} {E : VE} {l : Launch} (C : VC X cc n own R E l) {a b : Nat} {ws : va_W} {lv : List (Nat × Value)} {pc : Nat} {st : List Value} {y : MethodName} {yc : ByteArray} {yn : Nat} {d mc ms : Nat} {As : List Value} {w0 wr : va_W} {S : Type} {wf : S → va_W} {post : Int64 → S → Prop} {idx : Nat} {stk : List Value} (hM : ML l y yc yn d mc ms E As w0 wf post) (hlk : Cond.methodLink own idx y ∈ lwG) (hini : Cond.initialized y.cls ∈ lwG) (hco : Cond.code y yc yn (some .long) ∈ lwG) (hst0 : Cond.static y ∈ lwG) (hd : y.cls ≠ "java/lang/invoke/MethodHandle" ∧ y.cls ≠ "java/lang/invoke/VarHandle" ∧ (parseMethodDescriptor y.desc).map (fun d => d.parameters.length) = some As.length) (hR : d + 1 ≤ R.frames ∧ 8 + (yn + 11) + 40 * d ≤ R.locals) (hf : a + mc ≤ R.cells ∧ b + ms ≤ R.slots) (isC isR : List Nat) (hC : isC.map (fun i => ws[i]?) = w0.map some) (hnC : va_nd isC = true) (hRr : isR.map (fun i => ws[i]?) = wr.map some) (hn : va_nd isR = true) (hdis : ∀ i ∈ isR, i ∉ isC) (hstk : stk = As.reverse ++ st) (hW8 : (st.map fun v => v.category).sum ≤ 8) (hdg : decode cc pc = .ok (.invokestatic idx, 3)) (kk : ∀ (r : Int64) (u : S), post r u → VV X (a + mc) (b + ms) (wr ++ wf u) lv (pc + 3) (.long r :: st)) : VV X a b ws lv pc stk := by
  obtain ⟨p, l', e, R', s, m, args, below, meth, c, Q, A, nL, E'⟩ := X
  obtain ⟨hx, hb, hml, hown, hts, hK, hSF, hA, rfl, rfl, rfl, rfl⟩ := C
  intro H locs ls hP hD hS hl
  subst hstk
  have hG : GoodIn lwG (Cond.code y yc yn (some .long) :: lwG) := fun w h => by
    rcases List.mem_cons.mp h with h | h
    · subst h; exact ⟨hco, good_of_word (lwG_good hco)⟩
    · exact ⟨h, good_of_word (lwG_good h)⟩
  have hPc : va_P E'.1 vwCl w0 H := fun k q hq => by obtain ⟨i, -, h2⟩ := va_is isC hC k q hq; exact hP i q h2
  have hDc := hD.sub isC hnC hC
  have hFc := va_free (wc := w0) hD hS hA isC hC
  have hSc : SF E' (va_A w0 H.size) s H := (hSF.kept (fun a h1 h2 => hS.2.1 a h1 h2)).narrow hFc
  refine va_calll (va_runS (As := As) (rest := st) (Ts := lwG) ⟨hx, hb, hml, hown, hts⟩ (hM H.size) ⟨callB_of (ret := (some .long)) As.length hts hG rfl rfl rfl (hts _ hini) (hts _ hlk) hd hR, hts _ hst0⟩ ⟨mPre_blind, fun U hU hW => ⟨rfl, by rw [hU], by rw [hU]; exact hPc, ⟨va_K.moved hW.alike hK, by rw [hU]; exact hSc.warm hW⟩, hDc.weaken (fun _ _ _ _ => trivial)⟩⟩ rfl rfl (hl.1) rfl (lv_room hW8) hdg hf) hS (fun q _ h => hFc q h) hFc (fun r u t H1 locs ht hvm hw hB hz1 hk1 hS => ?_)
  obtain ⟨hP1, hK1, hD1⟩ := hB
  rw [ht] at hP1
  obtain ⟨hP, hD⟩ := va_join (wr := wr) (w1 := wf u) hP hD isC isR hC hRr hn hdis hk1 hFc hP1 hD1
  exact kk r u hw H1 locs ls hP hD hS hl
theorem v_callI {X : VX} {cc : ByteArray} {n : Nat} {own : String} {R : Room} {E : VE} {l : Launch} (C : VC X cc n own R E l) {a b : Nat} {ws : va_W} {lv : List (Nat × Value)} {pc : Nat} {st : List Value} {y : MethodName} {yc : ByteArray} {yn : Nat} {d mc ms : Nat} {hb0 : Nat} {As : List Value} {w0 wr : va_W} {S : Type} {wf : S → va_W} {post : S → Prop} {idx : Nat} {stk : List Value} (hM : MV l y yc yn d mc ms E (.ref hb0 :: As) w0 wf post) (hlk : Cond.methodLink own idx y ∈ lwG) (hini : Cond.initialized y.cls ∈ lwG) (hco : Cond.code y yc yn none ∈ lwG) (hin : Cond.instanceMethod y ∈ lwG) (hnm : y.name = "<init>") (hd : y.cls ≠ "java/lang/invoke/MethodHandle" ∧ y.cls ≠ "java/lang/invoke/VarHandle" ∧ (parseMethodDescriptor y.desc).map (fun d => d.parameters.length) = some As.length) (hR : d + 1 ≤ R.frames ∧ 8 + (yn + 11) + 40 * d ≤ R.locals) (hf : a + mc ≤ R.cells ∧ b + ms ≤ R.slots) (isC isR : List Nat) (hC : isC.map (fun i => ws[i]?) = w0.map some) (hnC : va_nd isC = true) (hRr : isR.map (fun i => ws[i]?) = wr.map some) (hn : va_nd isR = true) (hdis : ∀ i ∈ isR, i ∉ isC) (hstk : stk = As.reverse ++ .ref hb0 :: st) (hW8 : (st.map fun v => v.category).sum ≤ 8) (hdg : decode cc pc = .ok (.invokespecial idx, 3)) (kk : ∀ (u : S), post u → VV X (a + mc) (b + ms) (wr ++ wf u) lv (pc + 3) st) : VV X a b ws lv pc stk := by
  obtain ⟨p, l', e, R', s, m, args, below, meth, c, Q, A, nL, E'⟩ := X
  obtain ⟨hx, hb, hml, hown, hts, hK, hSF, hA, rfl, rfl, rfl, rfl⟩ := C
  intro H locs ls hP hD hS hl
  subst hstk
  have hG : GoodIn lwG (Cond.code y yc yn none :: lwG) := fun w h => by
    rcases List.mem_cons.mp h with h | h
    · subst h; exact ⟨hco, good_of_word (lwG_good hco)⟩
    · exact ⟨h, good_of_word (lwG_good h)⟩
  have hPc : va_P E'.1 vwCl w0 H := fun k q hq => by obtain ⟨i, -, h2⟩ := va_is isC hC k q hq; exact hP i q h2
  have hDc := hD.sub isC hnC hC
  have hFc := va_free (wc := w0) hD hS hA isC hC
  have hSc : SF E' (va_A w0 H.size) s H := (hSF.kept (fun a h1 h2 => hS.2.1 a h1 h2)).narrow hFc
  refine va_callv (va_runI (As := As) (rest := st) (Ts := lwG) ⟨hx, hb, hml, hown, hts⟩ (hM H.size) ⟨callB_of As.length hts hG rfl rfl rfl (hts _ hini) (hts _ hlk) hd hR, hnm, hts _ hin⟩ ⟨mPre_blind, fun U hU hW => ⟨rfl, by rw [hU], by rw [hU]; exact hPc, ⟨va_K.moved hW.alike hK, by rw [hU]; exact hSc.warm hW⟩, hDc.weaken (fun _ _ _ _ => trivial)⟩⟩ rfl rfl (hl.1) rfl (lv_room hW8) hdg hf) hS (fun q _ h => hFc q h) hFc (fun u t H1 locs ht hvm hw hB hz1 hk1 hS => ?_)
  obtain ⟨hP1, hK1, hD1⟩ := hB
  rw [ht] at hP1
  obtain ⟨hP, hD⟩ := va_join (wr := wr) (w1 := wf u) hP hD isC isR hC hRr hn hdis hk1 hFc hP1 hD1
  exact kk u hw H1 locs ls hP hD hS hl
theorem v_callIN {X : VX} {cc : ByteArray} {n : Nat} {own : String} {R : Room} {E : VE} {l : Launch} (C : VC X cc n own R E l) {a b : Nat} {ws : va_W} {lv : List (Nat × Value)} {pc : Nat} {st : List Value} {y : MethodName} {yc : ByteArray} {yn : Nat} {d mc ms : Nat} {hb0 : Nat} {As : List Value} {w0 wr : va_W} {S : Type} {wf : S → va_W} {post : S → Prop} {idx : Nat} {stk : List Value} (hM : MV l y yc yn d mc ms E (.ref hb0 :: As) w0 wf post) (hlk : (own, idx, y) ∈ n_refs) (hini : Cond.initialized y.cls ∈ lwG) (hco : Cond.code y yc yn none ∈ lwG) (hin : Cond.instanceMethod y ∈ lwG) (hnm : y.name = "<init>") (hd : y.cls ≠ "java/lang/invoke/MethodHandle" ∧ y.cls ≠ "java/lang/invoke/VarHandle" ∧ (parseMethodDescriptor y.desc).map (fun d => d.parameters.length) = some As.length) (hR : d + 1 ≤ R.frames ∧ 8 + (yn + 11) + 40 * d ≤ R.locals) (hf : a + mc ≤ R.cells ∧ b + ms ≤ R.slots) (isC isR : List Nat) (hC : isC.map (fun i => ws[i]?) = w0.map some) (hnC : va_nd isC = true) (hRr : isR.map (fun i => ws[i]?) = wr.map some) (hn : va_nd isR = true) (hdis : ∀ i ∈ isR, i ∉ isC) (hstk : stk = As.reverse ++ .ref hb0 :: st) (hW8 : (st.map fun v => v.category).sum ≤ 8) (hdg : decode cc pc = .ok (.invokespecial idx, 3)) (kk : ∀ (u : S), post u → VV X (a + mc) (b + ms) (wr ++ wf u) lv (pc + 3) st) : VV X a b ws lv pc stk := by
  obtain ⟨p, l', e, R', s, m, args, below, meth, c, Q, A, nL, E'⟩ := X
  obtain ⟨hx, hb, hml, hown, hts, hK, hSF, hA, rfl, rfl, rfl, rfl⟩ := C
  intro H locs ls hP hD hS hl
  subst hstk
  have hG : GoodIn lwG (Cond.code y yc yn none :: lwG) := fun w h => by
    rcases List.mem_cons.mp h with h | h
    · subst h; exact ⟨hco, good_of_word (lwG_good hco)⟩
    · exact ⟨h, good_of_word (lwG_good h)⟩
  have hPc : va_P E'.1 vwCl w0 H := fun k q hq => by obtain ⟨i, -, h2⟩ := va_is isC hC k q hq; exact hP i q h2
  have hDc := hD.sub isC hnC hC
  have hFc := va_free (wc := w0) hD hS hA isC hC
  have hSc : SF E' (va_A w0 H.size) s H := (hSF.kept (fun a h1 h2 => hS.2.1 a h1 h2)).narrow hFc
  refine va_callv (va_runIN (As := As) (rest := st) (Ts := lwG) ⟨hx, hb, hml, hown, hts⟩ (hM H.size) ⟨va_cnB (ret := none) As.length hts hG rfl rfl rfl (hSF.2.2.2.2.1 _ hlk) (hts _ hini) hd hR, hnm, hts _ hin⟩ ⟨mPre_blind, fun U hU hW => ⟨rfl, by rw [hU], by rw [hU]; exact hPc, ⟨va_K.moved hW.alike hK, by rw [hU]; exact hSc.warm hW⟩, hDc.weaken (fun _ _ _ _ => trivial)⟩⟩ rfl rfl (hl.1) rfl (lv_room hW8) hdg hf) hS (fun q _ h => hFc q h) hFc (fun u t H1 locs ht hvm hw hB hz1 hk1 hS => ?_)
  obtain ⟨hP1, hK1, hD1⟩ := hB
  rw [ht] at hP1
  obtain ⟨hP, hD⟩ := va_join (wr := wr) (w1 := wf u) hP hD isC isR hC hRr hn hdis hk1 hFc hP1 hD1
  exact kk u hw H1 locs ls hP hD hS hl
theorem v_callSNv {X : VX} {cc : ByteArray} {n : Nat} {own : String} {R : Room} {E : VE} {l : Launch} (C : VC X cc n own R E l) {a b : Nat} {ws : va_W} {lv : List (Nat × Value)} {pc : Nat} {st : List Value} {y : MethodName} {yc : ByteArray} {yn : Nat} {d mc ms : Nat} {As : List Value} {w0 wr : va_W} {S : Type} {wf : S → va_W} {post : S → Prop} {idx : Nat} {stk : List Value} (hM : MV l y yc yn d mc ms E As w0 wf post) (hlk : (own, idx, y) ∈ n_refs) (hini : Cond.initialized y.cls ∈ lwG) (hco : Cond.code y yc yn none ∈ lwG) (hst0 : Cond.static y ∈ lwG) (hd : y.cls ≠ "java/lang/invoke/MethodHandle" ∧ y.cls ≠ "java/lang/invoke/VarHandle" ∧ (parseMethodDescriptor y.desc).map (fun d => d.parameters.length) = some As.length) (hR : d + 1 ≤ R.frames ∧ 8 + (yn + 11) + 40 * d ≤ R.locals) (hf : a + mc ≤ R.cells ∧ b + ms ≤ R.slots) (isC isR : List Nat) (hC : isC.map (fun i => ws[i]?) = w0.map some) (hnC : va_nd isC = true) (hRr : isR.map (fun i => ws[i]?) = wr.map some) (hn : va_nd isR = true) (hdis : ∀ i ∈ isR, i ∉ isC) (hstk : stk = As.reverse ++ st) (hW8 : (st.map fun v => v.category).sum ≤ 8) (hdg : decode cc pc = .ok (.invokestatic idx, 3)) (kk : ∀ (u : S), post u → VV X (a + mc) (b + ms) (wr ++ wf u) lv (pc + 3) st) : VV X a b ws lv pc stk := by
  obtain ⟨p, l', e, R', s, m, args, below, meth, c, Q, A, nL, E'⟩ := X
  obtain ⟨hx, hb, hml, hown, hts, hK, hSF, hA, rfl, rfl, rfl, rfl⟩ := C
  intro H locs ls hP hD hS hl
  subst hstk
  have hG : GoodIn lwG (Cond.code y yc yn none :: lwG) := fun w h => by
    rcases List.mem_cons.mp h with h | h
    · subst h; exact ⟨hco, good_of_word (lwG_good hco)⟩
    · exact ⟨h, good_of_word (lwG_good h)⟩
  have hPc : va_P E'.1 vwCl w0 H := fun k q hq => by obtain ⟨i, -, h2⟩ := va_is isC hC k q hq; exact hP i q h2
  have hDc := hD.sub isC hnC hC
  have hFc := va_free (wc := w0) hD hS hA isC hC
  have hSc : SF E' (va_A w0 H.size) s H := (hSF.kept (fun a h1 h2 => hS.2.1 a h1 h2)).narrow hFc
  refine va_callv (va_runSN (As := As) (rest := st) (Ts := lwG) ⟨hx, hb, hml, hown, hts⟩ (hM H.size) ⟨va_cnB (ret := none) As.length hts hG rfl rfl rfl (hSF.2.2.2.2.1 _ hlk) (hts _ hini) hd hR, hts _ hst0, trivial⟩ ⟨mPre_blind, fun U hU hW => ⟨rfl, by rw [hU], by rw [hU]; exact hPc, ⟨va_K.moved hW.alike hK, by rw [hU]; exact hSc.warm hW⟩, hDc.weaken (fun _ _ _ _ => trivial)⟩⟩ rfl rfl (hl.1) rfl (lv_room hW8) hdg hf) hS (fun q _ h => hFc q h) hFc (fun u t H1 locs ht hvm hw hB hz1 hk1 hS => ?_)
  obtain ⟨hP1, hK1, hD1⟩ := hB
  rw [ht] at hP1
  obtain ⟨hP, hD⟩ := va_join (wr := wr) (w1 := wf u) hP hD isC isR hC hRr hn hdis hk1 hFc hP1 hD1
  exact kk u hw H1 locs ls hP hD hS hl
theorem v_callFi {X : VX} {cc : ByteArray} {n : Nat} {own : String} {R : Room} {E : VE} {l : Launch} (C : VC X cc n own R E l) {a b : Nat} {ws : va_W} {lv : List (Nat × Value)} {pc : Nat} {st : List Value} {y : MethodName} {yc : ByteArray} {yn : Nat} {yr : FieldType} {d mc ms : Nat} {hb0 : Nat} {As : List Value} {S : Type} {wf : S → va_W} {post : Int32 → S → Prop} {idx : Nat} {stk : List Value} (hM : MI l y yc yn yr d mc ms E (.ref hb0 :: As) ws wf post) (hlk : Cond.methodLink own idx y ∈ lwG) (hini : Cond.initialized y.cls ∈ lwG) (hco : Cond.code y yc yn (some yr) ∈ lwG) (hin : Cond.instanceMethod y ∈ lwG) (hse : Cond.selects y.cls y y ∈ lwG) {ci qb N : Nat} {T : u_T} {fs : List Value} (hcl : vwCl[ci]? = some (y.cls, T, N)) (hqb : ws[qb]? = some (hb0, .inr (ci, fs))) (hd : y.cls ≠ "java/lang/invoke/MethodHandle" ∧ y.cls ≠ "java/lang/invoke/VarHandle" ∧ (parseMethodDescriptor y.desc).map (fun d => d.parameters.length) = some As.length) (hR : d + 1 ≤ R.frames ∧ 8 + (yn + 11) + 40 * d ≤ R.locals) (hf : a + mc ≤ R.cells ∧ b + ms ≤ R.slots) (hstk : stk = As.reverse ++ .ref hb0 :: st) (hW8 : (st.map fun v => v.category).sum ≤ 8) (hdg : decode cc pc = .ok (.invokevirtual idx, 3)) (kk : ∀ (r : Int32) (u : S), post r u → VV X (a + mc) (b + ms) (wf u) lv (pc + 3) (.int r :: st)) : VV X a b ws lv pc stk :=
  v_callVi C hM hlk hini hco hin hse hcl hqb hd hR hf (List.range ws.length) [] (va_rng ws) (va_nd_range _) (wr := []) rfl rfl (fun _ h => absurd h List.not_mem_nil) hstk hW8 hdg kk
theorem v_callFv {X : VX} {cc : ByteArray} {n : Nat} {own : String} {R : Room} {E : VE} {l : Launch} (C : VC X cc n own R E l) {a b : Nat} {ws : va_W} {lv : List (Nat × Value)} {pc : Nat} {st : List Value} {y : MethodName} {yc : ByteArray} {yn : Nat} {d mc ms : Nat} {hb0 : Nat} {As : List Value} {S : Type} {wf : S → va_W} {post : S → Prop} {idx : Nat} {stk : List Value} (hM : MV l y yc yn d mc ms E (.ref hb0 :: As) ws wf post) (hlk : Cond.methodLink own idx y ∈ lwG) (hini : Cond.initialized y.cls ∈ lwG) (hco : Cond.code y yc yn none ∈ lwG) (hin : Cond.instanceMethod y ∈ lwG) (hse : Cond.selects y.cls y y ∈ lwG) {ci qb N : Nat} {T : u_T} {fs : List Value} (hcl : vwCl[ci]? = some (y.cls, T, N)) (hqb : ws[qb]? = some (hb0, .inr (ci, fs))) (hd : y.cls ≠ "java/lang/invoke/MethodHandle" ∧ y.cls ≠ "java/lang/invoke/VarHandle" ∧ (parseMethodDescriptor y.desc).map (fun d => d.parameters.length) = some As.length) (hR : d + 1 ≤ R.frames ∧ 8 + (yn + 11) + 40 * d ≤ R.locals) (hf : a + mc ≤ R.cells ∧ b + ms ≤ R.slots) (hstk : stk = As.reverse ++ .ref hb0 :: st) (hW8 : (st.map fun v => v.category).sum ≤ 8) (hdg : decode cc pc = .ok (.invokevirtual idx, 3)) (kk : ∀ (u : S), post u → VV X (a + mc) (b + ms) (wf u) lv (pc + 3) st) : VV X a b ws lv pc stk :=
  v_callVv C hM hlk hini hco hin hse hcl hqb hd hR hf (List.range ws.length) [] (va_rng ws) (va_nd_range _) (wr := []) rfl rfl (fun _ h => absurd h List.not_mem_nil) hstk hW8 hdg kk
theorem v_callFl {X : VX} {cc : ByteArray} {n : Nat} {own : String} {R : Room} {E : VE} {l : Launch} (C : VC X cc n own R E l) {a b : Nat} {ws : va_W} {lv : List (Nat × Value)} {pc : Nat} {st : List Value} {y : MethodName} {yc : ByteArray} {yn : Nat} {d mc ms : Nat} {hb0 : Nat} {As : List Value} {S : Type} {wf : S → va_W} {post : Int64 → S → Prop} {idx : Nat} {stk : List Value} (hM : ML l y yc yn d mc ms E (.ref hb0 :: As) ws wf post) (hlk : Cond.methodLink own idx y ∈ lwG) (hini : Cond.initialized y.cls ∈ lwG) (hco : Cond.code y yc yn (some .long) ∈ lwG) (hin : Cond.instanceMethod y ∈ lwG) (hse : Cond.selects y.cls y y ∈ lwG) {ci qb N : Nat} {T : u_T} {fs : List Value} (hcl : vwCl[ci]? = some (y.cls, T, N)) (hqb : ws[qb]? = some (hb0, .inr (ci, fs))) (hd : y.cls ≠ "java/lang/invoke/MethodHandle" ∧ y.cls ≠ "java/lang/invoke/VarHandle" ∧ (parseMethodDescriptor y.desc).map (fun d => d.parameters.length) = some As.length) (hR : d + 1 ≤ R.frames ∧ 8 + (yn + 11) + 40 * d ≤ R.locals) (hf : a + mc ≤ R.cells ∧ b + ms ≤ R.slots) (hstk : stk = As.reverse ++ .ref hb0 :: st) (hW8 : (st.map fun v => v.category).sum ≤ 8) (hdg : decode cc pc = .ok (.invokevirtual idx, 3)) (kk : ∀ (r : Int64) (u : S), post r u → VV X (a + mc) (b + ms) (wf u) lv (pc + 3) (.long r :: st)) : VV X a b ws lv pc stk :=
  v_callVl C hM hlk hini hco hin hse hcl hqb hd hR hf (List.range ws.length) [] (va_rng ws) (va_nd_range _) (wr := []) rfl rfl (fun _ h => absurd h List.not_mem_nil) hstk hW8 hdg kk
theorem va_P_iff {D : va_G} {cl : List vw_C} {ws : va_W} {H : Heap} : va_P D cl ws H ↔ ∀ q ∈ ws, va_at D cl q H := by
  constructor
  · intro h q hq
    obtain ⟨k, hk⟩ := List.getElem?_of_mem hq
    exact h k q hk
  · intro h k q hk
    exact h q (List.mem_of_getElem? hk)
theorem va_D_iff {A : Nat → Prop} {ws : va_W} : va_D A ws ↔ (ws.map Prod.fst).Nodup ∧ ∀ q ∈ ws, A q.1 := by
  constructor
  · intro h
    refine ⟨?_, fun q hq => ?_⟩
    · rw [List.Nodup, List.pairwise_iff_getElem]
      intro i j hi hj hij he
      simp only [List.length_map] at hi hj
      simp only [List.getElem_map] at he
      have := h.1 i j _ _ (List.getElem?_eq_getElem hi) (List.getElem?_eq_getElem hj) he
      omega
    · obtain ⟨k, hk⟩ := List.getElem?_of_mem hq
      exact h.2 k q hk
  · intro h
    refine ⟨fun i j p q hi hj he => ?_, fun k q hk => h.2 q (List.mem_of_getElem? hk)⟩
    have h1 := h.1
    rw [List.Nodup, List.pairwise_iff_getElem] at h1
    obtain ⟨li, ei⟩ := List.getElem?_eq_some_iff.mp hi
    obtain ⟨lj, ej⟩ := List.getElem?_eq_some_iff.mp hj
    rcases Nat.lt_trichotomy i j with hlt | heq | hgt
    · have h2 := h1 i j (by simpa using li) (by simpa using lj) hlt
      simp only [List.getElem_map] at h2
      rw [ei, ej] at h2
      exact absurd he h2
    · exact heq
    · have h2 := h1 j i (by simpa using lj) (by simpa using li) hgt
      simp only [List.getElem_map] at h2
      rw [ei, ej] at h2
      exact absurd he.symm h2
theorem va_P.perm {D : va_G} {cl : List vw_C} {ws ws' : va_W} {H : Heap} (hp : ws.Perm ws') (h : va_P D cl ws H) : va_P D cl ws' H := va_P_iff.mpr fun q hq => va_P_iff.mp h q (hp.mem_iff.mpr hq)
theorem va_D.perm {A : Nat → Prop} {ws ws' : va_W} (hp : ws.Perm ws') (h : va_D A ws) : va_D A ws' := va_D_iff.mpr ⟨(hp.map Prod.fst).nodup_iff.mp (va_D_iff.mp h).1, fun q hq => (va_D_iff.mp h).2 q (hp.mem_iff.mpr hq)⟩
theorem flat_perm {α : Type} {l l' : List (List α)} (h : l.Perm l') : l.flatten.Perm l'.flatten := by
  induction h with
  | nil => exact List.Perm.refl _
  | cons x _ ih => simp only [List.flatten_cons]; exact List.Perm.append_left _ ih
  | swap x y l => simp only [List.flatten_cons]; rw [← List.append_assoc, ← List.append_assoc]; exact List.Perm.append_right _ List.perm_append_comm
  | trans _ _ ih1 ih2 => exact ih1.trans ih2
theorem flat_pick {ms : List va_W} {I : List Nat} {n : Nat} (hn : ms.length = n) (h : I.Perm (List.range n)) : (I.map (fun i => ms.getD i [])).flatten.Perm ms.flatten := by
  refine flat_perm ((h.map _).trans ?_)
  have : (List.range n).map (fun i => ms.getD i []) = ms := by
    apply List.ext_getElem
    · simp [hn]
    · intro i h1 h2
      simp [List.getD, h2]
  rw [this]
theorem v_perm {X : VX} {cc : ByteArray} {n : Nat} {own : String} {R : Room} {E : VE} {l : Launch} (C : VC X cc n own R E l) {a b : Nat} {ws : va_W} {lv : List (Nat × Value)} {pc : Nat} {st : List Value} {ws' : va_W} (hp : ws.Perm ws') (kk : VV X a b ws' lv pc st) : VV X a b ws lv pc st := by
  obtain ⟨p, l', e, R', s, m, args, below, meth, c, Q, A, nL, E'⟩ := X
  obtain ⟨hx, hb, hml, hown, hts, hK, hSF, hA, rfl, rfl, rfl, rfl⟩ := C
  intro H locs ls hP hD hS hl
  exact kk H locs ls (hP.perm hp) (hD.perm hp) hS hl
theorem ix_left (w1 w2 : va_W) : (List.range w1.length).map (fun i => (w1 ++ w2)[i]?) = w1.map some := by
  apply List.ext_getElem?
  intro i
  by_cases h : i < w1.length
  · simp [h, List.getElem?_append_left h]
  · simp [h, Nat.le_of_not_lt h]
theorem ix_right (w1 w2 : va_W) : ((List.range w2.length).map (fun i => w1.length + i)).map (fun i => (w1 ++ w2)[i]?) = w2.map some := by
  apply List.ext_getElem?
  intro i
  by_cases h : i < w2.length
  · simp [h, List.getElem?_append_right]
  · simp [h, Nat.le_of_not_lt h]
theorem ix_nd (k n : Nat) : va_nd ((List.range n).map (fun i => k + i)) = true := by
  have key : ∀ (l : List Nat), l.Nodup → va_nd l = true := by
    intro l
    induction l with
    | nil => intro _; rfl
    | cons a l ih => intro h; rw [List.nodup_cons] at h; simp [va_nd, h.1, ih h.2]
  apply key
  rw [List.Nodup, List.pairwise_map]
  exact List.Pairwise.imp (fun h he => h (by omega)) List.nodup_range
theorem ix_dis (k n : Nat) : ∀ i ∈ List.range k, i ∉ (List.range n).map (fun i => k + i) := by
  intro i hi hx
  simp at hi hx
  obtain ⟨j, _, h2⟩ := hx
  omega
theorem v_callVPi {X : VX} {cc : ByteArray} {n : Nat} {own : String} {R : Room} {E : VE} {l : Launch} (C : VC X cc n own R E l) {a b : Nat} {ws : va_W} {lv : List (Nat × Value)} {pc : Nat} {st : List Value} {y : MethodName} {yc : ByteArray} {yn : Nat} {yr : FieldType} {d mc ms0 : Nat} {hb0 : Nat} {As : List Value} {S : Type} {post : Int32 → S → Prop} {idx : Nat} {stk : List Value} (hM : MI l y yc yn yr d mc ms0 E (.ref hb0 :: As) [] (fun (_ : S) => ([] : va_W)) post) (hlk : Cond.methodLink own idx y ∈ lwG) (hini : Cond.initialized y.cls ∈ lwG) (hco : Cond.code y yc yn (some yr) ∈ lwG) (hin : Cond.instanceMethod y ∈ lwG) (hse : Cond.selects y.cls y y ∈ lwG) {ci qb N : Nat} {T : u_T} {fs : List Value} (hcl : vwCl[ci]? = some (y.cls, T, N)) (hqb : (ws)[qb]? = some (hb0, .inr (ci, fs))) (hd : y.cls ≠ "java/lang/invoke/MethodHandle" ∧ y.cls ≠ "java/lang/invoke/VarHandle" ∧ (parseMethodDescriptor y.desc).map (fun d => d.parameters.length) = some As.length) (hR : d + 1 ≤ R.frames ∧ 8 + (yn + 11) + 40 * d ≤ R.locals) (hf : a + mc ≤ R.cells ∧ b + ms0 ≤ R.slots) (hstk : stk = As.reverse ++ .ref hb0 :: st) (hW8 : (st.map fun v => v.category).sum ≤ 8) (hdg : decode cc pc = .ok (.invokevirtual idx, 3)) (kk : ∀ (r : Int32) (u : S), post r u → VV X (a + mc) (b + ms0) ws lv (pc + 3) (.int r :: st)) : VV X a b (ws) lv pc stk := by
  refine v_callVi C hM hlk hini hco hin hse hcl hqb hd hR hf [] (List.range ws.length) rfl rfl (va_rng ws) (va_nd_range _) (fun _ _ => List.not_mem_nil) hstk hW8 hdg (fun r u h => ?_)
  rw [List.append_nil]
  exact kk r u h
theorem v_callVMi {X : VX} {cc : ByteArray} {n : Nat} {own : String} {R : Room} {E : VE} {l : Launch} (C : VC X cc n own R E l) {a b : Nat} {ms : List va_W} {lv : List (Nat × Value)} {pc : Nat} {st : List Value} {y : MethodName} {yc : ByteArray} {yn : Nat} {yr : FieldType} {d mc ms0 : Nat} {hb0 : Nat} {As : List Value} {w0 : va_W} {S : Type} {wf : S → va_W} {post : Int32 → S → Prop} {idx : Nat} {stk : List Value} (hM : MI l y yc yn yr d mc ms0 E (.ref hb0 :: As) w0 wf post) (hlk : Cond.methodLink own idx y ∈ lwG) (hini : Cond.initialized y.cls ∈ lwG) (hco : Cond.code y yc yn (some yr) ∈ lwG) (hin : Cond.instanceMethod y ∈ lwG) (hse : Cond.selects y.cls y y ∈ lwG) {ci qb N : Nat} {T : u_T} {fs : List Value} (hcl : vwCl[ci]? = some (y.cls, T, N)) (hqb : (ms.flatten)[qb]? = some (hb0, .inr (ci, fs))) (hd : y.cls ≠ "java/lang/invoke/MethodHandle" ∧ y.cls ≠ "java/lang/invoke/VarHandle" ∧ (parseMethodDescriptor y.desc).map (fun d => d.parameters.length) = some As.length) (hR : d + 1 ≤ R.frames ∧ 8 + (yn + 11) + 40 * d ≤ R.locals) (hf : a + mc ≤ R.cells ∧ b + ms0 ≤ R.slots) (IC IR : List Nat) {N0 : Nat} (hlen : ms.length = N0) (hpm : (IR ++ IC).Perm (List.range N0)) {ms2 : S → List va_W} (hw0 : w0 = (IC.map (fun i => ms.getD i [])).flatten) (hlen2 : ∀ u, (ms2 u).length = N0) (hC2 : ∀ u, wf u = (IC.map (fun i => (ms2 u).getD i [])).flatten) (hR2 : ∀ u, IR.map (fun i => (ms2 u).getD i []) = IR.map (fun i => ms.getD i [])) (hstk : stk = As.reverse ++ .ref hb0 :: st) (hW8 : (st.map fun v => v.category).sum ≤ 8) (hdg : decode cc pc = .ok (.invokevirtual idx, 3)) (kk : ∀ (r : Int32) (u : S), post r u → VV X (a + mc) (b + ms0) ((ms2 u).flatten) lv (pc + 3) (.int r :: st)) : VV X a b (ms.flatten) lv pc stk := by
  have hp1 : ms.flatten.Perm ((IR.map (fun i => ms.getD i [])).flatten ++ w0) := by
    rw [hw0, ← List.flatten_append, ← List.map_append]
    exact (flat_pick hlen hpm).symm
  obtain ⟨qb', hqb'⟩ := List.getElem?_of_mem (hp1.mem_iff.mp (List.mem_of_getElem? hqb))
  refine v_perm C hp1 ?_
  refine v_callVi C hM hlk hini hco hin hse (qb := qb') hcl hqb' hd hR hf ((List.range w0.length).map (fun i => (IR.map (fun i => ms.getD i [])).flatten.length + i)) (List.range (IR.map (fun i => ms.getD i [])).flatten.length) (ix_right _ _) (ix_nd _ _) (ix_left _ _) (va_nd_range _) (ix_dis _ _) hstk hW8 hdg (fun r u h => ?_)
  have hp2 : ((IR.map (fun i => ms.getD i [])).flatten ++ wf u).Perm (ms2 u).flatten := by
    rw [hC2 u, ← hR2 u, ← List.flatten_append, ← List.map_append]
    exact flat_pick (hlen2 u) hpm
  exact v_perm C hp2 (kk r u h)
theorem v_callVPl {X : VX} {cc : ByteArray} {n : Nat} {own : String} {R : Room} {E : VE} {l : Launch} (C : VC X cc n own R E l) {a b : Nat} {ws : va_W} {lv : List (Nat × Value)} {pc : Nat} {st : List Value} {y : MethodName} {yc : ByteArray} {yn : Nat} {d mc ms0 : Nat} {hb0 : Nat} {As : List Value} {S : Type} {post : Int64 → S → Prop} {idx : Nat} {stk : List Value} (hM : ML l y yc yn d mc ms0 E (.ref hb0 :: As) [] (fun (_ : S) => ([] : va_W)) post) (hlk : Cond.methodLink own idx y ∈ lwG) (hini : Cond.initialized y.cls ∈ lwG) (hco : Cond.code y yc yn (some .long) ∈ lwG) (hin : Cond.instanceMethod y ∈ lwG) (hse : Cond.selects y.cls y y ∈ lwG) {ci qb N : Nat} {T : u_T} {fs : List Value} (hcl : vwCl[ci]? = some (y.cls, T, N)) (hqb : (ws)[qb]? = some (hb0, .inr (ci, fs))) (hd : y.cls ≠ "java/lang/invoke/MethodHandle" ∧ y.cls ≠ "java/lang/invoke/VarHandle" ∧ (parseMethodDescriptor y.desc).map (fun d => d.parameters.length) = some As.length) (hR : d + 1 ≤ R.frames ∧ 8 + (yn + 11) + 40 * d ≤ R.locals) (hf : a + mc ≤ R.cells ∧ b + ms0 ≤ R.slots) (hstk : stk = As.reverse ++ .ref hb0 :: st) (hW8 : (st.map fun v => v.category).sum ≤ 8) (hdg : decode cc pc = .ok (.invokevirtual idx, 3)) (kk : ∀ (r : Int64) (u : S), post r u → VV X (a + mc) (b + ms0) ws lv (pc + 3) (.long r :: st)) : VV X a b (ws) lv pc stk := by
  refine v_callVl C hM hlk hini hco hin hse hcl hqb hd hR hf [] (List.range ws.length) rfl rfl (va_rng ws) (va_nd_range _) (fun _ _ => List.not_mem_nil) hstk hW8 hdg (fun r u h => ?_)
  rw [List.append_nil]
  exact kk r u h
theorem v_callVMl {X : VX} {cc : ByteArray} {n : Nat} {own : String} {R : Room} {E : VE} {l : Launch} (C : VC X cc n own R E l) {a b : Nat} {ms : List va_W} {lv : List (Nat × Value)} {pc : Nat} {st : List Value} {y : MethodName} {yc : ByteArray} {yn : Nat} {d mc ms0 : Nat} {hb0 : Nat} {As : List Value} {w0 : va_W} {S : Type} {wf : S → va_W} {post : Int64 → S → Prop} {idx : Nat} {stk : List Value} (hM : ML l y yc yn d mc ms0 E (.ref hb0 :: As) w0 wf post) (hlk : Cond.methodLink own idx y ∈ lwG) (hini : Cond.initialized y.cls ∈ lwG) (hco : Cond.code y yc yn (some .long) ∈ lwG) (hin : Cond.instanceMethod y ∈ lwG) (hse : Cond.selects y.cls y y ∈ lwG) {ci qb N : Nat} {T : u_T} {fs : List Value} (hcl : vwCl[ci]? = some (y.cls, T, N)) (hqb : (ms.flatten)[qb]? = some (hb0, .inr (ci, fs))) (hd : y.cls ≠ "java/lang/invoke/MethodHandle" ∧ y.cls ≠ "java/lang/invoke/VarHandle" ∧ (parseMethodDescriptor y.desc).map (fun d => d.parameters.length) = some As.length) (hR : d + 1 ≤ R.frames ∧ 8 + (yn + 11) + 40 * d ≤ R.locals) (hf : a + mc ≤ R.cells ∧ b + ms0 ≤ R.slots) (IC IR : List Nat) {N0 : Nat} (hlen : ms.length = N0) (hpm : (IR ++ IC).Perm (List.range N0)) {ms2 : S → List va_W} (hw0 : w0 = (IC.map (fun i => ms.getD i [])).flatten) (hlen2 : ∀ u, (ms2 u).length = N0) (hC2 : ∀ u, wf u = (IC.map (fun i => (ms2 u).getD i [])).flatten) (hR2 : ∀ u, IR.map (fun i => (ms2 u).getD i []) = IR.map (fun i => ms.getD i [])) (hstk : stk = As.reverse ++ .ref hb0 :: st) (hW8 : (st.map fun v => v.category).sum ≤ 8) (hdg : decode cc pc = .ok (.invokevirtual idx, 3)) (kk : ∀ (r : Int64) (u : S), post r u → VV X (a + mc) (b + ms0) ((ms2 u).flatten) lv (pc + 3) (.long r :: st)) : VV X a b (ms.flatten) lv pc stk := by
  have hp1 : ms.flatten.Perm ((IR.map (fun i => ms.getD i [])).flatten ++ w0) := by
    rw [hw0, ← List.flatten_append, ← List.map_append]
    exact (flat_pick hlen hpm).symm
  obtain ⟨qb', hqb'⟩ := List.getElem?_of_mem (hp1.mem_iff.mp (List.mem_of_getElem? hqb))
  refine v_perm C hp1 ?_
  refine v_callVl C hM hlk hini hco hin hse (qb := qb') hcl hqb' hd hR hf ((List.range w0.length).map (fun i => (IR.map (fun i => ms.getD i [])).flatten.length + i)) (List.range (IR.map (fun i => ms.getD i [])).flatten.length) (ix_right _ _) (ix_nd _ _) (ix_left _ _) (va_nd_range _) (ix_dis _ _) hstk hW8 hdg (fun r u h => ?_)
  have hp2 : ((IR.map (fun i => ms.getD i [])).flatten ++ wf u).Perm (ms2 u).flatten := by
    rw [hC2 u, ← hR2 u, ← List.flatten_append, ← List.map_append]
    exact flat_pick (hlen2 u) hpm
  exact v_perm C hp2 (kk r u h)
theorem v_callVPv {X : VX} {cc : ByteArray} {n : Nat} {own : String} {R : Room} {E : VE} {l : Launch} (C : VC X cc n own R E l) {a b : Nat} {ws : va_W} {lv : List (Nat × Value)} {pc : Nat} {st : List Value} {y : MethodName} {yc : ByteArray} {yn : Nat} {d mc ms0 : Nat} {hb0 : Nat} {As : List Value} {S : Type} {post : S → Prop} {idx : Nat} {stk : List Value} (hM : MV l y yc yn d mc ms0 E (.ref hb0 :: As) [] (fun (_ : S) => ([] : va_W)) post) (hlk : Cond.methodLink own idx y ∈ lwG) (hini : Cond.initialized y.cls ∈ lwG) (hco : Cond.code y yc yn none ∈ lwG) (hin : Cond.instanceMethod y ∈ lwG) (hse : Cond.selects y.cls y y ∈ lwG) {ci qb N : Nat} {T : u_T} {fs : List Value} (hcl : vwCl[ci]? = some (y.cls, T, N)) (hqb : (ws)[qb]? = some (hb0, .inr (ci, fs))) (hd : y.cls ≠ "java/lang/invoke/MethodHandle" ∧ y.cls ≠ "java/lang/invoke/VarHandle" ∧ (parseMethodDescriptor y.desc).map (fun d => d.parameters.length) = some As.length) (hR : d + 1 ≤ R.frames ∧ 8 + (yn + 11) + 40 * d ≤ R.locals) (hf : a + mc ≤ R.cells ∧ b + ms0 ≤ R.slots) (hstk : stk = As.reverse ++ .ref hb0 :: st) (hW8 : (st.map fun v => v.category).sum ≤ 8) (hdg : decode cc pc = .ok (.invokevirtual idx, 3)) (kk : ∀ (u : S), post u → VV X (a + mc) (b + ms0) ws lv (pc + 3) st) : VV X a b (ws) lv pc stk := by
  refine v_callVv C hM hlk hini hco hin hse hcl hqb hd hR hf [] (List.range ws.length) rfl rfl (va_rng ws) (va_nd_range _) (fun _ _ => List.not_mem_nil) hstk hW8 hdg (fun u h => ?_)
  rw [List.append_nil]
  exact kk u h
theorem v_callVMv {X : VX} {cc : ByteArray} {n : Nat} {own : String} {R : Room} {E : VE} {l : Launch} (C : VC X cc n own R E l) {a b : Nat} {ms : List va_W} {lv : List (Nat × Value)} {pc : Nat} {st : List Value} {y : MethodName} {yc : ByteArray} {yn : Nat} {d mc ms0 : Nat} {hb0 : Nat} {As : List Value} {w0 : va_W} {S : Type} {wf : S → va_W} {post : S → Prop} {idx : Nat} {stk : List Value} (hM : MV l y yc yn d mc ms0 E (.ref hb0 :: As) w0 wf post) (hlk : Cond.methodLink own idx y ∈ lwG) (hini : Cond.initialized y.cls ∈ lwG) (hco : Cond.code y yc yn none ∈ lwG) (hin : Cond.instanceMethod y ∈ lwG) (hse : Cond.selects y.cls y y ∈ lwG) {ci qb N : Nat} {T : u_T} {fs : List Value} (hcl : vwCl[ci]? = some (y.cls, T, N)) (hqb : (ms.flatten)[qb]? = some (hb0, .inr (ci, fs))) (hd : y.cls ≠ "java/lang/invoke/MethodHandle" ∧ y.cls ≠ "java/lang/invoke/VarHandle" ∧ (parseMethodDescriptor y.desc).map (fun d => d.parameters.length) = some As.length) (hR : d + 1 ≤ R.frames ∧ 8 + (yn + 11) + 40 * d ≤ R.locals) (hf : a + mc ≤ R.cells ∧ b + ms0 ≤ R.slots) (IC IR : List Nat) {N0 : Nat} (hlen : ms.length = N0) (hpm : (IR ++ IC).Perm (List.range N0)) {ms2 : S → List va_W} (hw0 : w0 = (IC.map (fun i => ms.getD i [])).flatten) (hlen2 : ∀ u, (ms2 u).length = N0) (hC2 : ∀ u, wf u = (IC.map (fun i => (ms2 u).getD i [])).flatten) (hR2 : ∀ u, IR.map (fun i => (ms2 u).getD i []) = IR.map (fun i => ms.getD i [])) (hstk : stk = As.reverse ++ .ref hb0 :: st) (hW8 : (st.map fun v => v.category).sum ≤ 8) (hdg : decode cc pc = .ok (.invokevirtual idx, 3)) (kk : ∀ (u : S), post u → VV X (a + mc) (b + ms0) ((ms2 u).flatten) lv (pc + 3) st) : VV X a b (ms.flatten) lv pc stk := by
  have hp1 : ms.flatten.Perm ((IR.map (fun i => ms.getD i [])).flatten ++ w0) := by
    rw [hw0, ← List.flatten_append, ← List.map_append]
    exact (flat_pick hlen hpm).symm
  obtain ⟨qb', hqb'⟩ := List.getElem?_of_mem (hp1.mem_iff.mp (List.mem_of_getElem? hqb))
  refine v_perm C hp1 ?_
  refine v_callVv C hM hlk hini hco hin hse (qb := qb') hcl hqb' hd hR hf ((List.range w0.length).map (fun i => (IR.map (fun i => ms.getD i [])).flatten.length + i)) (List.range (IR.map (fun i => ms.getD i [])).flatten.length) (ix_right _ _) (ix_nd _ _) (ix_left _ _) (va_nd_range _) (ix_dis _ _) hstk hW8 hdg (fun u h => ?_)
  have hp2 : ((IR.map (fun i => ms.getD i [])).flatten ++ wf u).Perm (ms2 u).flatten := by
    rw [hC2 u, ← hR2 u, ← List.flatten_append, ← List.map_append]
    exact flat_pick (hlen2 u) hpm
  exact v_perm C hp2 (kk u h)
theorem v_callSPi {X : VX} {cc : ByteArray} {n : Nat} {own : String} {R : Room} {E : VE} {l : Launch} (C : VC X cc n own R E l) {a b : Nat} {ws : va_W} {lv : List (Nat × Value)} {pc : Nat} {st : List Value} {y : MethodName} {yc : ByteArray} {yn : Nat} {yr : FieldType} {d mc ms0 : Nat} {As : List Value} {S : Type} {post : Int32 → S → Prop} {idx : Nat} {stk : List Value} (hM : MI l y yc yn yr d mc ms0 E As [] (fun (_ : S) => ([] : va_W)) post) (hlk : Cond.methodLink own idx y ∈ lwG) (hini : Cond.initialized y.cls ∈ lwG) (hco : Cond.code y yc yn (some yr) ∈ lwG) (hst0 : Cond.static y ∈ lwG) (hd : y.cls ≠ "java/lang/invoke/MethodHandle" ∧ y.cls ≠ "java/lang/invoke/VarHandle" ∧ (parseMethodDescriptor y.desc).map (fun d => d.parameters.length) = some As.length) (hR : d + 1 ≤ R.frames ∧ 8 + (yn + 11) + 40 * d ≤ R.locals) (hf : a + mc ≤ R.cells ∧ b + ms0 ≤ R.slots) (hstk : stk = As.reverse ++ st) (hW8 : (st.map fun v => v.category).sum ≤ 8) (hdg : decode cc pc = .ok (.invokestatic idx, 3)) (kk : ∀ (r : Int32) (u : S), post r u → VV X (a + mc) (b + ms0) ws lv (pc + 3) (.int r :: st)) : VV X a b (ws) lv pc stk := by
  refine v_callSi C hM hlk hini hco hst0 hd hR hf [] (List.range ws.length) rfl rfl (va_rng ws) (va_nd_range _) (fun _ _ => List.not_mem_nil) hstk hW8 hdg (fun r u h => ?_)
  rw [List.append_nil]
  exact kk r u h
theorem v_callSMi {X : VX} {cc : ByteArray} {n : Nat} {own : String} {R : Room} {E : VE} {l : Launch} (C : VC X cc n own R E l) {a b : Nat} {ms : List va_W} {lv : List (Nat × Value)} {pc : Nat} {st : List Value} {y : MethodName} {yc : ByteArray} {yn : Nat} {yr : FieldType} {d mc ms0 : Nat} {As : List Value} {w0 : va_W} {S : Type} {wf : S → va_W} {post : Int32 → S → Prop} {idx : Nat} {stk : List Value} (hM : MI l y yc yn yr d mc ms0 E As w0 wf post) (hlk : Cond.methodLink own idx y ∈ lwG) (hini : Cond.initialized y.cls ∈ lwG) (hco : Cond.code y yc yn (some yr) ∈ lwG) (hst0 : Cond.static y ∈ lwG) (hd : y.cls ≠ "java/lang/invoke/MethodHandle" ∧ y.cls ≠ "java/lang/invoke/VarHandle" ∧ (parseMethodDescriptor y.desc).map (fun d => d.parameters.length) = some As.length) (hR : d + 1 ≤ R.frames ∧ 8 + (yn + 11) + 40 * d ≤ R.locals) (hf : a + mc ≤ R.cells ∧ b + ms0 ≤ R.slots) (IC IR : List Nat) {N0 : Nat} (hlen : ms.length = N0) (hpm : (IR ++ IC).Perm (List.range N0)) {ms2 : S → List va_W} (hw0 : w0 = (IC.map (fun i => ms.getD i [])).flatten) (hlen2 : ∀ u, (ms2 u).length = N0) (hC2 : ∀ u, wf u = (IC.map (fun i => (ms2 u).getD i [])).flatten) (hR2 : ∀ u, IR.map (fun i => (ms2 u).getD i []) = IR.map (fun i => ms.getD i [])) (hstk : stk = As.reverse ++ st) (hW8 : (st.map fun v => v.category).sum ≤ 8) (hdg : decode cc pc = .ok (.invokestatic idx, 3)) (kk : ∀ (r : Int32) (u : S), post r u → VV X (a + mc) (b + ms0) ((ms2 u).flatten) lv (pc + 3) (.int r :: st)) : VV X a b (ms.flatten) lv pc stk := by
  have hp1 : ms.flatten.Perm ((IR.map (fun i => ms.getD i [])).flatten ++ w0) := by
    rw [hw0, ← List.flatten_append, ← List.map_append]
    exact (flat_pick hlen hpm).symm
  refine v_perm C hp1 ?_
  refine v_callSi C hM hlk hini hco hst0 hd hR hf ((List.range w0.length).map (fun i => (IR.map (fun i => ms.getD i [])).flatten.length + i)) (List.range (IR.map (fun i => ms.getD i [])).flatten.length) (ix_right _ _) (ix_nd _ _) (ix_left _ _) (va_nd_range _) (ix_dis _ _) hstk hW8 hdg (fun r u h => ?_)
  have hp2 : ((IR.map (fun i => ms.getD i [])).flatten ++ wf u).Perm (ms2 u).flatten := by
    rw [hC2 u, ← hR2 u, ← List.flatten_append, ← List.map_append]
    exact flat_pick (hlen2 u) hpm
  exact v_perm C hp2 (kk r u h)
theorem v_callSPl {X : VX} {cc : ByteArray} {n : Nat} {own : String} {R : Room} {E : VE} {l : Launch} (C : VC X cc n own R E l) {a b : Nat} {ws : va_W} {lv : List (Nat × Value)} {pc : Nat} {st : List Value} {y : MethodName} {yc : ByteArray} {yn : Nat} {d mc ms0 : Nat} {As : List Value} {S : Type} {post : Int64 → S → Prop} {idx : Nat} {stk : List Value} (hM : ML l y yc yn d mc ms0 E As [] (fun (_ : S) => ([] : va_W)) post) (hlk : Cond.methodLink own idx y ∈ lwG) (hini : Cond.initialized y.cls ∈ lwG) (hco : Cond.code y yc yn (some .long) ∈ lwG) (hst0 : Cond.static y ∈ lwG) (hd : y.cls ≠ "java/lang/invoke/MethodHandle" ∧ y.cls ≠ "java/lang/invoke/VarHandle" ∧ (parseMethodDescriptor y.desc).map (fun d => d.parameters.length) = some As.length) (hR : d + 1 ≤ R.frames ∧ 8 + (yn + 11) + 40 * d ≤ R.locals) (hf : a + mc ≤ R.cells ∧ b + ms0 ≤ R.slots) (hstk : stk = As.reverse ++ st) (hW8 : (st.map fun v => v.category).sum ≤ 8) (hdg : decode cc pc = .ok (.invokestatic idx, 3)) (kk : ∀ (r : Int64) (u : S), post r u → VV X (a + mc) (b + ms0) ws lv (pc + 3) (.long r :: st)) : VV X a b (ws) lv pc stk := by
  refine v_callSl C hM hlk hini hco hst0 hd hR hf [] (List.range ws.length) rfl rfl (va_rng ws) (va_nd_range _) (fun _ _ => List.not_mem_nil) hstk hW8 hdg (fun r u h => ?_)
  rw [List.append_nil]
  exact kk r u h
theorem v_callSMl {X : VX} {cc : ByteArray} {n : Nat} {own : String} {R : Room} {E : VE} {l : Launch} (C : VC X cc n own R E l) {a b : Nat} {ms : List va_W} {lv : List (Nat × Value)} {pc : Nat} {st : List Value} {y : MethodName} {yc : ByteArray} {yn : Nat} {d mc ms0 : Nat} {As : List Value} {w0 : va_W} {S : Type} {wf : S → va_W} {post : Int64 → S → Prop} {idx : Nat} {stk : List Value} (hM : ML l y yc yn d mc ms0 E As w0 wf post) (hlk : Cond.methodLink own idx y ∈ lwG) (hini : Cond.initialized y.cls ∈ lwG) (hco : Cond.code y yc yn (some .long) ∈ lwG) (hst0 : Cond.static y ∈ lwG) (hd : y.cls ≠ "java/lang/invoke/MethodHandle" ∧ y.cls ≠ "java/lang/invoke/VarHandle" ∧ (parseMethodDescriptor y.desc).map (fun d => d.parameters.length) = some As.length) (hR : d + 1 ≤ R.frames ∧ 8 + (yn + 11) + 40 * d ≤ R.locals) (hf : a + mc ≤ R.cells ∧ b + ms0 ≤ R.slots) (IC IR : List Nat) {N0 : Nat} (hlen : ms.length = N0) (hpm : (IR ++ IC).Perm (List.range N0)) {ms2 : S → List va_W} (hw0 : w0 = (IC.map (fun i => ms.getD i [])).flatten) (hlen2 : ∀ u, (ms2 u).length = N0) (hC2 : ∀ u, wf u = (IC.map (fun i => (ms2 u).getD i [])).flatten) (hR2 : ∀ u, IR.map (fun i => (ms2 u).getD i []) = IR.map (fun i => ms.getD i [])) (hstk : stk = As.reverse ++ st) (hW8 : (st.map fun v => v.category).sum ≤ 8) (hdg : decode cc pc = .ok (.invokestatic idx, 3)) (kk : ∀ (r : Int64) (u : S), post r u → VV X (a + mc) (b + ms0) ((ms2 u).flatten) lv (pc + 3) (.long r :: st)) : VV X a b (ms.flatten) lv pc stk := by
  have hp1 : ms.flatten.Perm ((IR.map (fun i => ms.getD i [])).flatten ++ w0) := by
    rw [hw0, ← List.flatten_append, ← List.map_append]
    exact (flat_pick hlen hpm).symm
  refine v_perm C hp1 ?_
  refine v_callSl C hM hlk hini hco hst0 hd hR hf ((List.range w0.length).map (fun i => (IR.map (fun i => ms.getD i [])).flatten.length + i)) (List.range (IR.map (fun i => ms.getD i [])).flatten.length) (ix_right _ _) (ix_nd _ _) (ix_left _ _) (va_nd_range _) (ix_dis _ _) hstk hW8 hdg (fun r u h => ?_)
  have hp2 : ((IR.map (fun i => ms.getD i [])).flatten ++ wf u).Perm (ms2 u).flatten := by
    rw [hC2 u, ← hR2 u, ← List.flatten_append, ← List.map_append]
    exact flat_pick (hlen2 u) hpm
  exact v_perm C hp2 (kk r u h)
theorem v_callSPv {X : VX} {cc : ByteArray} {n : Nat} {own : String} {R : Room} {E : VE} {l : Launch} (C : VC X cc n own R E l) {a b : Nat} {ws : va_W} {lv : List (Nat × Value)} {pc : Nat} {st : List Value} {y : MethodName} {yc : ByteArray} {yn : Nat} {d mc ms0 : Nat} {As : List Value} {S : Type} {post : S → Prop} {idx : Nat} {stk : List Value} (hM : MV l y yc yn d mc ms0 E As [] (fun (_ : S) => ([] : va_W)) post) (hlk : Cond.methodLink own idx y ∈ lwG) (hini : Cond.initialized y.cls ∈ lwG) (hco : Cond.code y yc yn none ∈ lwG) (hst0 : Cond.static y ∈ lwG) (hd : y.cls ≠ "java/lang/invoke/MethodHandle" ∧ y.cls ≠ "java/lang/invoke/VarHandle" ∧ (parseMethodDescriptor y.desc).map (fun d => d.parameters.length) = some As.length) (hR : d + 1 ≤ R.frames ∧ 8 + (yn + 11) + 40 * d ≤ R.locals) (hf : a + mc ≤ R.cells ∧ b + ms0 ≤ R.slots) (hstk : stk = As.reverse ++ st) (hW8 : (st.map fun v => v.category).sum ≤ 8) (hdg : decode cc pc = .ok (.invokestatic idx, 3)) (kk : ∀ (u : S), post u → VV X (a + mc) (b + ms0) ws lv (pc + 3) st) : VV X a b (ws) lv pc stk := by
  refine v_callSv C hM hlk hini hco hst0 hd hR hf [] (List.range ws.length) rfl rfl (va_rng ws) (va_nd_range _) (fun _ _ => List.not_mem_nil) hstk hW8 hdg (fun u h => ?_)
  rw [List.append_nil]
  exact kk u h
theorem v_callSMv {X : VX} {cc : ByteArray} {n : Nat} {own : String} {R : Room} {E : VE} {l : Launch} (C : VC X cc n own R E l) {a b : Nat} {ms : List va_W} {lv : List (Nat × Value)} {pc : Nat} {st : List Value} {y : MethodName} {yc : ByteArray} {yn : Nat} {d mc ms0 : Nat} {As : List Value} {w0 : va_W} {S : Type} {wf : S → va_W} {post : S → Prop} {idx : Nat} {stk : List Value} (hM : MV l y yc yn d mc ms0 E As w0 wf post) (hlk : Cond.methodLink own idx y ∈ lwG) (hini : Cond.initialized y.cls ∈ lwG) (hco : Cond.code y yc yn none ∈ lwG) (hst0 : Cond.static y ∈ lwG) (hd : y.cls ≠ "java/lang/invoke/MethodHandle" ∧ y.cls ≠ "java/lang/invoke/VarHandle" ∧ (parseMethodDescriptor y.desc).map (fun d => d.parameters.length) = some As.length) (hR : d + 1 ≤ R.frames ∧ 8 + (yn + 11) + 40 * d ≤ R.locals) (hf : a + mc ≤ R.cells ∧ b + ms0 ≤ R.slots) (IC IR : List Nat) {N0 : Nat} (hlen : ms.length = N0) (hpm : (IR ++ IC).Perm (List.range N0)) {ms2 : S → List va_W} (hw0 : w0 = (IC.map (fun i => ms.getD i [])).flatten) (hlen2 : ∀ u, (ms2 u).length = N0) (hC2 : ∀ u, wf u = (IC.map (fun i => (ms2 u).getD i [])).flatten) (hR2 : ∀ u, IR.map (fun i => (ms2 u).getD i []) = IR.map (fun i => ms.getD i [])) (hstk : stk = As.reverse ++ st) (hW8 : (st.map fun v => v.category).sum ≤ 8) (hdg : decode cc pc = .ok (.invokestatic idx, 3)) (kk : ∀ (u : S), post u → VV X (a + mc) (b + ms0) ((ms2 u).flatten) lv (pc + 3) st) : VV X a b (ms.flatten) lv pc stk := by
  have hp1 : ms.flatten.Perm ((IR.map (fun i => ms.getD i [])).flatten ++ w0) := by
    rw [hw0, ← List.flatten_append, ← List.map_append]
    exact (flat_pick hlen hpm).symm
  refine v_perm C hp1 ?_
  refine v_callSv C hM hlk hini hco hst0 hd hR hf ((List.range w0.length).map (fun i => (IR.map (fun i => ms.getD i [])).flatten.length + i)) (List.range (IR.map (fun i => ms.getD i [])).flatten.length) (ix_right _ _) (ix_nd _ _) (ix_left _ _) (va_nd_range _) (ix_dis _ _) hstk hW8 hdg (fun u h => ?_)
  have hp2 : ((IR.map (fun i => ms.getD i [])).flatten ++ wf u).Perm (ms2 u).flatten := by
    rw [hC2 u, ← hR2 u, ← List.flatten_append, ← List.map_append]
    exact flat_pick (hlen2 u) hpm
  exact v_perm C hp2 (kk u h)
theorem v_newai {X : VX} {cc : ByteArray} {n : Nat} {own : String} {R : Room} {E : VE} {l : Launch} (C : VC X cc n own R E l) {a b : Nat} {ws : va_W} {lv : List (Nat × Value)} {pc : Nat} {st : List Value} {N : Nat} {k : Int32} (hk : ¬ k < 0) (hN : k.toNatClampNeg = N) (hby : N * componentBytes .int ≤ 536870912) (hc1 : a + 1 ≤ R.cells) (hs1 : b + N ≤ R.slots) (hdg : decode cc pc = .ok (.newarray .int, 2)) (kk : ∀ q : Nat, VV X (a + 1) (b + N) (ws ++ [(q, .inl (eI E, N, .inl (fun _ => 0)))]) lv (pc + 2) (.ref q :: st)) : VV X a b ws lv pc (.int k :: st) := by
  obtain ⟨p, l', e, R', s, m, args, below, meth, c, Q, A, nL, E'⟩ := X
  obtain ⟨hx, hb, hml, hown, hts, hK, hSF, hA, rfl, rfl, rfl, rfl⟩ := C
  intro H locs ls hP hD hS hl
  refine va_newa (atype := .int) (ty := .int) (a0 := (N, .inl (fun _ => 0))) hx hb (hts _ mArrI) rfl hK hP hD hS hA (fun _ => rfl) hk hN hby hc1 hs1 hdg (fun q cA H1 hK1 hP1 hD1 hS1 => ?_)
  have e1 : s.vm.findClass "[I" = some cA := (hK1.2 5 (cA, .int) rfl).2
  have e2 : s.vm.findClass "[I" = some (eI E') := (hK.2 1 (eI E', .int) rfl).2
  have e3 : cA = eI E' := Option.some.inj (e1.symm.trans e2)
  subst e3
  exact kk q H1 locs ls hP1 hD1 hS1 hl
theorem v_newab {X : VX} {cc : ByteArray} {n : Nat} {own : String} {R : Room} {E : VE} {l : Launch} (C : VC X cc n own R E l) {a b : Nat} {ws : va_W} {lv : List (Nat × Value)} {pc : Nat} {st : List Value} {N : Nat} {k : Int32} (hk : ¬ k < 0) (hN : k.toNatClampNeg = N) (hby : N * componentBytes .byte ≤ 536870912) (hc1 : a + 1 ≤ R.cells) (hs1 : b + N ≤ R.slots) (hdg : decode cc pc = .ok (.newarray .byte, 2)) (kk : ∀ q : Nat, VV X (a + 1) (b + N) (ws ++ [(q, .inl (eB E, N, .inl (b8 (fun _ => 0))))]) lv (pc + 2) (.ref q :: st)) : VV X a b ws lv pc (.int k :: st) := by
  obtain ⟨p, l', e, R', s, m, args, below, meth, c, Q, A, nL, E'⟩ := X
  obtain ⟨hx, hb, hml, hown, hts, hK, hSF, hA, rfl, rfl, rfl, rfl⟩ := C
  intro H locs ls hP hD hS hl
  refine va_newa (atype := .byte) (ty := .byte) (a0 := (N, .inl (b8 (fun _ => 0)))) hx hb (hts _ mArrB) rfl hK hP hD hS hA (fun _ => rfl) hk hN hby hc1 hs1 hdg (fun q cA H1 hK1 hP1 hD1 hS1 => ?_)
  have e1 : s.vm.findClass "[B" = some cA := (hK1.2 5 (cA, .byte) rfl).2
  have e2 : s.vm.findClass "[B" = some (eB E') := (hK.2 0 (eB E', .byte) rfl).2
  have e3 : cA = eB E' := Option.some.inj (e1.symm.trans e2)
  subst e3
  exact kk q H1 locs ls hP1 hD1 hS1 hl
theorem v_newaz {X : VX} {cc : ByteArray} {n : Nat} {own : String} {R : Room} {E : VE} {l : Launch} (C : VC X cc n own R E l) {a b : Nat} {ws : va_W} {lv : List (Nat × Value)} {pc : Nat} {st : List Value} {N : Nat} {k : Int32} (hk : ¬ k < 0) (hN : k.toNatClampNeg = N) (hby : N * componentBytes .boolean ≤ 536870912) (hc1 : a + 1 ≤ R.cells) (hs1 : b + N ≤ R.slots) (hdg : decode cc pc = .ok (.newarray .boolean, 2)) (kk : ∀ q : Nat, VV X (a + 1) (b + N) (ws ++ [(q, .inl (eZ E, N, .inl (bz (fun _ => false))))]) lv (pc + 2) (.ref q :: st)) : VV X a b ws lv pc (.int k :: st) := by
  obtain ⟨p, l', e, R', s, m, args, below, meth, c, Q, A, nL, E'⟩ := X
  obtain ⟨hx, hb, hml, hown, hts, hK, hSF, hA, rfl, rfl, rfl, rfl⟩ := C
  intro H locs ls hP hD hS hl
  refine va_newa (atype := .boolean) (ty := .boolean) (a0 := (N, .inl (bz (fun _ => false)))) hx hb (hts _ mArrZ) rfl hK hP hD hS hA (fun _ => rfl) hk hN hby hc1 hs1 hdg (fun q cA H1 hK1 hP1 hD1 hS1 => ?_)
  have e1 : s.vm.findClass "[Z" = some cA := (hK1.2 5 (cA, .boolean) rfl).2
  have e2 : s.vm.findClass "[Z" = some (eZ E') := (hK.2 3 (eZ E', .boolean) rfl).2
  have e3 : cA = eZ E' := Option.some.inj (e1.symm.trans e2)
  subst e3
  exact kk q H1 locs ls hP1 hD1 hS1 hl
theorem v_newal {X : VX} {cc : ByteArray} {n : Nat} {own : String} {R : Room} {E : VE} {l : Launch} (C : VC X cc n own R E l) {a b : Nat} {ws : va_W} {lv : List (Nat × Value)} {pc : Nat} {st : List Value} {N : Nat} {k : Int32} (hk : ¬ k < 0) (hN : k.toNatClampNeg = N) (hby : N * componentBytes .long ≤ 536870912) (hc1 : a + 1 ≤ R.cells) (hs1 : b + N ≤ R.slots) (hdg : decode cc pc = .ok (.newarray .long, 2)) (kk : ∀ q : Nat, VV X (a + 1) (b + N) (ws ++ [(q, .inl (eJ E, N, .inr (.inl (fun _ => 0))))]) lv (pc + 2) (.ref q :: st)) : VV X a b ws lv pc (.int k :: st) := by
  obtain ⟨p, l', e, R', s, m, args, below, meth, c, Q, A, nL, E'⟩ := X
  obtain ⟨hx, hb, hml, hown, hts, hK, hSF, hA, rfl, rfl, rfl, rfl⟩ := C
  intro H locs ls hP hD hS hl
  refine va_newa (atype := .long) (ty := .long) (a0 := (N, .inr (.inl (fun _ => 0)))) hx hb (hts _ mArrJ) rfl hK hP hD hS hA (fun _ => rfl) hk hN hby hc1 hs1 hdg (fun q cA H1 hK1 hP1 hD1 hS1 => ?_)
  have e1 : s.vm.findClass "[J" = some cA := (hK1.2 5 (cA, .long) rfl).2
  have e2 : s.vm.findClass "[J" = some (eJ E') := (hK.2 2 (eJ E', .long) rfl).2
  have e3 : cA = eJ E' := Option.some.inj (e1.symm.trans e2)
  subst e3
  exact kk q H1 locs ls hP1 hD1 hS1 hl
theorem v_tsIn {X : VX} {cc : ByteArray} {n : Nat} {own : String} {R : Room} {E : VE} {l : Launch} (C : VC X cc n own R E l) {a b : Nat} {ws : va_W} {lv : List (Nat × Value)} {pc : Nat} {st : List Value} {x k : Int32} {dflt lo hi : Int} {offs : Array Int} {len : Nat} {off : Int} {tgt : Nat} (hx0 : x = k) (hdg : decode cc pc = .ok (.tableswitch dflt lo hi offs, len)) (h1 : ¬ k.toInt < lo) (h2 : ¬ hi < k.toInt) (ho : offs[(k.toInt - lo).toNat]? = some off) (ht : (pc : Int) + off = (tgt : Int)) (kk : VV X a b ws lv tgt st) : VV X a b ws lv pc (.int x :: st) := by
  subst hx0
  obtain ⟨p, l', e, R', s, m, args, below, meth, c, Q, A, nL, E'⟩ := X
  obtain ⟨hx, hb, hml, hown, hts, hK, hSF, hA, rfl, rfl, rfl, rfl⟩ := C
  intro H locs ls hP hD hS hl
  exact lv_tableIn hx hb hdg h1 h2 ho ht (kk H locs ls hP hD hS hl)
theorem v_tsOut {X : VX} {cc : ByteArray} {n : Nat} {own : String} {R : Room} {E : VE} {l : Launch} (C : VC X cc n own R E l) {a b : Nat} {ws : va_W} {lv : List (Nat × Value)} {pc : Nat} {st : List Value} {x : Int32} {dflt lo hi : Int} {offs : Array Int} {len : Nat} {tgt : Nat} (hdg : decode cc pc = .ok (.tableswitch dflt lo hi offs, len)) (h1 : x.toInt < lo ∨ hi < x.toInt) (ht : (pc : Int) + dflt = (tgt : Int)) (kk : VV X a b ws lv tgt st) : VV X a b ws lv pc (.int x :: st) := by
  obtain ⟨p, l', e, R', s, m, args, below, meth, c, Q, A, nL, E'⟩ := X
  obtain ⟨hx, hb, hml, hown, hts, hK, hSF, hA, rfl, rfl, rfl, rfl⟩ := C
  intro H locs ls hP hD hS hl
  exact lv_tableOut hx hb hdg h1 ht (kk H locs ls hP hD hS hl)
theorem ts_ne {x k : Int32} (h : ¬ x = k) : ¬ x.toInt = k.toInt := fun e => h (Int32.toInt_inj.mp e)
theorem ts_out3 {x : Int32} (h0 : ¬ x.toInt = (0 : Int32).toInt) (h1 : ¬ x.toInt = (1 : Int32).toInt) (h2 : ¬ x.toInt = (2 : Int32).toInt) : x.toInt < 0 ∨ 2 < x.toInt := by
  simp only [show (0 : Int32).toInt = 0 from rfl, show (1 : Int32).toInt = 1 from rfl, show (2 : Int32).toInt = 2 from rfl] at h0 h1 h2
  omega
theorem ts_out6 {x : Int32} (h0 : ¬ x.toInt = (0 : Int32).toInt) (h1 : ¬ x.toInt = (1 : Int32).toInt) (h2 : ¬ x.toInt = (2 : Int32).toInt) (h3 : ¬ x.toInt = (3 : Int32).toInt) (h4 : ¬ x.toInt = (4 : Int32).toInt) (h5 : ¬ x.toInt = (5 : Int32).toInt) : x.toInt < 0 ∨ 5 < x.toInt := by
  simp only [show (0 : Int32).toInt = 0 from rfl, show (1 : Int32).toInt = 1 from rfl, show (2 : Int32).toInt = 2 from rfl, show (3 : Int32).toInt = 3 from rfl, show (4 : Int32).toInt = 4 from rfl, show (5 : Int32).toInt = 5 from rfl] at h0 h1 h2 h3 h4 h5
  omega
theorem ts_out13 {x : Int32} (h0 : ¬ x.toInt = (0 : Int32).toInt) (h1 : ¬ x.toInt = (1 : Int32).toInt) (h2 : ¬ x.toInt = (2 : Int32).toInt) (h3 : ¬ x.toInt = (3 : Int32).toInt) (h4 : ¬ x.toInt = (4 : Int32).toInt) (h5 : ¬ x.toInt = (5 : Int32).toInt) (h6 : ¬ x.toInt = (6 : Int32).toInt) (h7 : ¬ x.toInt = (7 : Int32).toInt) (h8 : ¬ x.toInt = (8 : Int32).toInt) (h9 : ¬ x.toInt = (9 : Int32).toInt) (h10 : ¬ x.toInt = (10 : Int32).toInt) (h11 : ¬ x.toInt = (11 : Int32).toInt) (h12 : ¬ x.toInt = (12 : Int32).toInt) : x.toInt < 0 ∨ 12 < x.toInt := by
  simp only [show (0 : Int32).toInt = 0 from rfl, show (1 : Int32).toInt = 1 from rfl, show (2 : Int32).toInt = 2 from rfl, show (3 : Int32).toInt = 3 from rfl, show (4 : Int32).toInt = 4 from rfl, show (5 : Int32).toInt = 5 from rfl, show (6 : Int32).toInt = 6 from rfl, show (7 : Int32).toInt = 7 from rfl, show (8 : Int32).toInt = 8 from rfl, show (9 : Int32).toInt = 9 from rfl, show (10 : Int32).toInt = 10 from rfl, show (11 : Int32).toInt = 11 from rfl, show (12 : Int32).toInt = 12 from rfl] at h0 h1 h2 h3 h4 h5 h6 h7 h8 h9 h10 h11 h12
  omega
