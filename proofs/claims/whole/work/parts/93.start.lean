/-! THE CLAIM OUT OF ONE WALK OF THE LAW'S BODY. Your part is whole_start (and what it stands on); all else here is the same for every law, but numbers. -/
def lw_P (b : Addr) (xs : List Int32) (args : Array Value) (s : State) : Prop := args = #[.ref b] ∧ s.IntsAt b xs ∧ xs.length ≤ 3072 ∧ (Jvm.Cond.and given_1 narrow_1).before args s = true
def lw_Q (_ : Array Value) (s : State) (o : Outcome) (t : State) : Prop := o = .returned (some (.int 1)) ∧ Framed s o t [] 139614 8683408
def lw_Z (below : List Frame) (a : Array Value) (s : State) : State → Prop := fun t => ∃ o, t.status = .running ∧ Ended t below o ∧ lw_Q a s o t
/-- the law's own end, with 1 on the stack, nothing written that was there before, its room as the claim has it -/
theorem lw_ret {p : Program} {l : Launch} {e : Env} {s : State} {m : MethodId} {below : List Frame} {meth : Method} {c : Code} {b : Nat} (hx : p.tables.exec = Jvm.exec) (hb : c.code = code) (hr : meth.sig.returnType = ret) (hlocks : meth.locks = false) {pc : Nat} {H : Heap} {ls : Array Slot} (hdg : decode code pc = .ok (.ireturn, 1)) : W p l e room_1 s m #[Value.ref b] below meth c H [] 139614 8683408 (lw_Z below #[Value.ref b] s) (F0 m pc ls [.int 1]) := by
  intro T hT X
  obtain ⟨fs, hret, hrun, hended, hW, hframe⟩ := X.leave (v := some (.int 1)) (hlocks := hlocks) (fun h => by rw [hr] at h; cases h)
  have hmeth' : T.vm.method? m = some meth := X.method'
  refine ⟨T.setFrames fs, ?_, .returned (some (.int 1)), hrun, hended, rfl, ⟨_, rfl⟩, hW, hframe⟩
  jvm_step X.here [X.here.top, hx, hb, hdg, hmeth', hr, ret, narrow_b1]
  (try refine ⟨rfl, ?_⟩); (try refine ⟨rfl, ?_⟩)
  first | (intro acts; rw [hret _ acts rfl rfl rfl]) | rw [hret _ _ rfl rfl rfl]
  exact Steps.refl _
/-- what holds at the law's entry: the machine, the code, the tables' words (any of lw_tbl by 'hts w (by decide +kernel)'), the script of L ints xs at the cell b, what the Statement gives of the start (any of its parts by flat_of_before) -/
def lw_At (p : Program) (s : State) (m : MethodId) (meth : Method) (c : Code) (b L : Nat) (xs : Nat → Int32) : Prop :=
  p.tables.exec = Jvm.exec ∧ c.code = code ∧ meth.sig.returnType = ret ∧ c.maxLocals = 4 ∧ s.vm.findClass R_law = some m.cls ∧ (∀ w ∈ lw_tbl, w.before #[Value.ref b] s = true) ∧ va_X b L xs s s.heap ∧ b < s.heap.size ∧ meth.locks = false ∧ (Jvm.Cond.and given_1 narrow_1).before #[Value.ref b] s = true
abbrev lw_F : List Cond := flatC (Jvm.Cond.and given_1 narrow_1)
set_option maxRecDepth 20000 in
theorem st_str0 {args : Array Value} {s : State} {A : Nat → Prop} (hf : ∀ c ∈ lw_F, c.before args s = true) (hA : ∀ a : Nat, a < s.heap.size → ¬ A a) : ∃ q : Nat × Nat, (va_O "java/lang/String" q.1 A s s.heap ∧ va_OF "java/lang/String" "coder" "B" (.int 0) q.1 A s s.heap ∧ va_OF "java/lang/String" "value" "[B" (.ref q.2) q.1 A s s.heap ∧ va_T .byte q.2 (s_len.getD 0 0) (fun j => .int ((s_byt.getD 0 []).getD j 0)) A s s.heap) ∧ (Term.string "NameBoard$Speech" 80).eval args s none [] s = some (.ref q.1) := by
  obtain ⟨adK, adV, h1, h2⟩ := vk_Sof (args := args) (s := s) (N := 1) (tm := fun _ => (.string "NameBoard$Speech" 80)) (len := [s_len.getD 0 0]) (byt := [s_byt.getD 0 []]) (A := A) (fun i hi => by obtain rfl : i = 0 := (by omega); decide +kernel) (fun i hi => hf _ (by decide +kernel)) (fun i hi => hf _ (by decide +kernel)) (fun i hi => hf _ (by decide +kernel)) (fun i hi => by obtain rfl : i = 0 := (by omega); exact hf _ (by decide +kernel)) (fun i hi j hj => by
      obtain rfl : i = 0 := by omega
      have hj2 : j < 5 := hj
      rcases (show j = 0 ∨ j = 1 ∨ j = 2 ∨ j = 3 ∨ j = 4 by omega) with rfl | rfl | rfl | rfl | rfl <;> exact hf _ (by decide +kernel)) (fun i j hi hj hne => absurd (show i = j by omega) hne) hA
  exact ⟨(adK 0, adV 0), h1.1 0 (by decide), h2 0 (by decide)⟩
set_option maxRecDepth 20000 in
theorem st_str1 {args : Array Value} {s : State} {A : Nat → Prop} (hf : ∀ c ∈ lw_F, c.before args s = true) (hA : ∀ a : Nat, a < s.heap.size → ¬ A a) : ∃ q : Nat × Nat, (va_O "java/lang/String" q.1 A s s.heap ∧ va_OF "java/lang/String" "coder" "B" (.int 0) q.1 A s s.heap ∧ va_OF "java/lang/String" "value" "[B" (.ref q.2) q.1 A s s.heap ∧ va_T .byte q.2 (s_len.getD 1 0) (fun j => .int ((s_byt.getD 1 []).getD j 0)) A s s.heap) ∧ (Term.string "NameBoard$Speech" 123).eval args s none [] s = some (.ref q.1) := by
  obtain ⟨adK, adV, h1, h2⟩ := vk_Sof (args := args) (s := s) (N := 1) (tm := fun _ => (.string "NameBoard$Speech" 123)) (len := [s_len.getD 1 0]) (byt := [s_byt.getD 1 []]) (A := A) (fun i hi => by obtain rfl : i = 0 := (by omega); decide +kernel) (fun i hi => hf _ (by decide +kernel)) (fun i hi => hf _ (by decide +kernel)) (fun i hi => hf _ (by decide +kernel)) (fun i hi => by obtain rfl : i = 0 := (by omega); exact hf _ (by decide +kernel)) (fun i hi j hj => by
      obtain rfl : i = 0 := by omega
      have hj2 : j < 6 := hj
      rcases (show j = 0 ∨ j = 1 ∨ j = 2 ∨ j = 3 ∨ j = 4 ∨ j = 5 by omega) with rfl | rfl | rfl | rfl | rfl | rfl <;> exact hf _ (by decide +kernel)) (fun i j hi hj hne => absurd (show i = j by omega) hne) hA
  exact ⟨(adK 0, adV 0), h1.1 0 (by decide), h2 0 (by decide)⟩
set_option maxRecDepth 20000 in
theorem st_str2 {args : Array Value} {s : State} {A : Nat → Prop} (hf : ∀ c ∈ lw_F, c.before args s = true) (hA : ∀ a : Nat, a < s.heap.size → ¬ A a) : ∃ q : Nat × Nat, (va_O "java/lang/String" q.1 A s s.heap ∧ va_OF "java/lang/String" "coder" "B" (.int 0) q.1 A s s.heap ∧ va_OF "java/lang/String" "value" "[B" (.ref q.2) q.1 A s s.heap ∧ va_T .byte q.2 (s_len.getD 2 0) (fun j => .int ((s_byt.getD 2 []).getD j 0)) A s s.heap) ∧ (Term.string "NameBoard$Acts" 74).eval args s none [] s = some (.ref q.1) := by
  obtain ⟨adK, adV, h1, h2⟩ := vk_Sof (args := args) (s := s) (N := 1) (tm := fun _ => (.string "NameBoard$Acts" 74)) (len := [s_len.getD 2 0]) (byt := [s_byt.getD 2 []]) (A := A) (fun i hi => by obtain rfl : i = 0 := (by omega); decide +kernel) (fun i hi => hf _ (by decide +kernel)) (fun i hi => hf _ (by decide +kernel)) (fun i hi => hf _ (by decide +kernel)) (fun i hi => by obtain rfl : i = 0 := (by omega); exact hf _ (by decide +kernel)) (fun i hi j hj => by
      obtain rfl : i = 0 := by omega
      have hj2 : j < 5 := hj
      rcases (show j = 0 ∨ j = 1 ∨ j = 2 ∨ j = 3 ∨ j = 4 by omega) with rfl | rfl | rfl | rfl | rfl <;> exact hf _ (by decide +kernel)) (fun i j hi hj hne => absurd (show i = j by omega) hne) hA
  exact ⟨(adK 0, adV 0), h1.1 0 (by decide), h2 0 (by decide)⟩
set_option maxRecDepth 20000 in
theorem st_str3 {args : Array Value} {s : State} {A : Nat → Prop} (hf : ∀ c ∈ lw_F, c.before args s = true) (hA : ∀ a : Nat, a < s.heap.size → ¬ A a) : ∃ q : Nat × Nat, (va_O "java/lang/String" q.1 A s s.heap ∧ va_OF "java/lang/String" "coder" "B" (.int 0) q.1 A s s.heap ∧ va_OF "java/lang/String" "value" "[B" (.ref q.2) q.1 A s s.heap ∧ va_T .byte q.2 (s_len.getD 3 0) (fun j => .int ((s_byt.getD 3 []).getD j 0)) A s s.heap) ∧ (Term.string "NameBoard$Acts" 80).eval args s none [] s = some (.ref q.1) := by
  obtain ⟨adK, adV, h1, h2⟩ := vk_Sof (args := args) (s := s) (N := 1) (tm := fun _ => (.string "NameBoard$Acts" 80)) (len := [s_len.getD 3 0]) (byt := [s_byt.getD 3 []]) (A := A) (fun i hi => by obtain rfl : i = 0 := (by omega); decide +kernel) (fun i hi => hf _ (by decide +kernel)) (fun i hi => hf _ (by decide +kernel)) (fun i hi => hf _ (by decide +kernel)) (fun i hi => by obtain rfl : i = 0 := (by omega); exact hf _ (by decide +kernel)) (fun i hi j hj => by
      obtain rfl : i = 0 := by omega
      have hj2 : j < 4 := hj
      rcases (show j = 0 ∨ j = 1 ∨ j = 2 ∨ j = 3 by omega) with rfl | rfl | rfl | rfl <;> exact hf _ (by decide +kernel)) (fun i j hi hj hne => absurd (show i = j by omega) hne) hA
  exact ⟨(adK 0, adV 0), h1.1 0 (by decide), h2 0 (by decide)⟩
set_option maxRecDepth 20000 in
theorem st_str4 {args : Array Value} {s : State} {A : Nat → Prop} (hf : ∀ c ∈ lw_F, c.before args s = true) (hA : ∀ a : Nat, a < s.heap.size → ¬ A a) : ∃ q : Nat × Nat, (va_O "java/lang/String" q.1 A s s.heap ∧ va_OF "java/lang/String" "coder" "B" (.int 0) q.1 A s s.heap ∧ va_OF "java/lang/String" "value" "[B" (.ref q.2) q.1 A s s.heap ∧ va_T .byte q.2 (s_len.getD 4 0) (fun j => .int ((s_byt.getD 4 []).getD j 0)) A s s.heap) ∧ (Term.string "NameBoard$Acts" 82).eval args s none [] s = some (.ref q.1) := by
  obtain ⟨adK, adV, h1, h2⟩ := vk_Sof (args := args) (s := s) (N := 1) (tm := fun _ => (.string "NameBoard$Acts" 82)) (len := [s_len.getD 4 0]) (byt := [s_byt.getD 4 []]) (A := A) (fun i hi => by obtain rfl : i = 0 := (by omega); decide +kernel) (fun i hi => hf _ (by decide +kernel)) (fun i hi => hf _ (by decide +kernel)) (fun i hi => hf _ (by decide +kernel)) (fun i hi => by obtain rfl : i = 0 := (by omega); exact hf _ (by decide +kernel)) (fun i hi j hj => by
      obtain rfl : i = 0 := by omega
      have hj2 : j < 3 := hj
      rcases (show j = 0 ∨ j = 1 ∨ j = 2 by omega) with rfl | rfl | rfl <;> exact hf _ (by decide +kernel)) (fun i j hi hj hne => absurd (show i = j by omega) hne) hA
  exact ⟨(adK 0, adV 0), h1.1 0 (by decide), h2 0 (by decide)⟩
set_option maxRecDepth 20000 in
theorem st_str5 {args : Array Value} {s : State} {A : Nat → Prop} (hf : ∀ c ∈ lw_F, c.before args s = true) (hA : ∀ a : Nat, a < s.heap.size → ¬ A a) : ∃ q : Nat × Nat, (va_O "java/lang/String" q.1 A s s.heap ∧ va_OF "java/lang/String" "coder" "B" (.int 0) q.1 A s s.heap ∧ va_OF "java/lang/String" "value" "[B" (.ref q.2) q.1 A s s.heap ∧ va_T .byte q.2 (s_len.getD 5 0) (fun j => .int ((s_byt.getD 5 []).getD j 0)) A s s.heap) ∧ (Term.string "NameBoard$Acts" 84).eval args s none [] s = some (.ref q.1) := by
  obtain ⟨adK, adV, h1, h2⟩ := vk_Sof (args := args) (s := s) (N := 1) (tm := fun _ => (.string "NameBoard$Acts" 84)) (len := [s_len.getD 5 0]) (byt := [s_byt.getD 5 []]) (A := A) (fun i hi => by obtain rfl : i = 0 := (by omega); decide +kernel) (fun i hi => hf _ (by decide +kernel)) (fun i hi => hf _ (by decide +kernel)) (fun i hi => hf _ (by decide +kernel)) (fun i hi => by obtain rfl : i = 0 := (by omega); exact hf _ (by decide +kernel)) (fun i hi j hj => by
      obtain rfl : i = 0 := by omega
      have hj2 : j < 4 := hj
      rcases (show j = 0 ∨ j = 1 ∨ j = 2 ∨ j = 3 by omega) with rfl | rfl | rfl | rfl <;> exact hf _ (by decide +kernel)) (fun i j hi hj hne => absurd (show i = j by omega) hne) hA
  exact ⟨(adK 0, adV 0), h1.1 0 (by decide), h2 0 (by decide)⟩
set_option maxRecDepth 20000 in
theorem st_str6 {args : Array Value} {s : State} {A : Nat → Prop} (hf : ∀ c ∈ lw_F, c.before args s = true) (hA : ∀ a : Nat, a < s.heap.size → ¬ A a) : ∃ q : Nat × Nat, (va_O "java/lang/String" q.1 A s s.heap ∧ va_OF "java/lang/String" "coder" "B" (.int 0) q.1 A s s.heap ∧ va_OF "java/lang/String" "value" "[B" (.ref q.2) q.1 A s s.heap ∧ va_T .byte q.2 (s_len.getD 6 0) (fun j => .int ((s_byt.getD 6 []).getD j 0)) A s s.heap) ∧ (Term.string "NameBoard$Acts" 86).eval args s none [] s = some (.ref q.1) := by
  obtain ⟨adK, adV, h1, h2⟩ := vk_Sof (args := args) (s := s) (N := 1) (tm := fun _ => (.string "NameBoard$Acts" 86)) (len := [s_len.getD 6 0]) (byt := [s_byt.getD 6 []]) (A := A) (fun i hi => by obtain rfl : i = 0 := (by omega); decide +kernel) (fun i hi => hf _ (by decide +kernel)) (fun i hi => hf _ (by decide +kernel)) (fun i hi => hf _ (by decide +kernel)) (fun i hi => by obtain rfl : i = 0 := (by omega); exact hf _ (by decide +kernel)) (fun i hi j hj => by
      obtain rfl : i = 0 := by omega
      have hj2 : j < 4 := hj
      rcases (show j = 0 ∨ j = 1 ∨ j = 2 ∨ j = 3 by omega) with rfl | rfl | rfl | rfl <;> exact hf _ (by decide +kernel)) (fun i j hi hj hne => absurd (show i = j by omega) hne) hA
  exact ⟨(adK 0, adV 0), h1.1 0 (by decide), h2 0 (by decide)⟩
set_option maxRecDepth 20000 in
theorem st_str7 {args : Array Value} {s : State} {A : Nat → Prop} (hf : ∀ c ∈ lw_F, c.before args s = true) (hA : ∀ a : Nat, a < s.heap.size → ¬ A a) : ∃ q : Nat × Nat, (va_O "java/lang/String" q.1 A s s.heap ∧ va_OF "java/lang/String" "coder" "B" (.int 0) q.1 A s s.heap ∧ va_OF "java/lang/String" "value" "[B" (.ref q.2) q.1 A s s.heap ∧ va_T .byte q.2 (s_len.getD 7 0) (fun j => .int ((s_byt.getD 7 []).getD j 0)) A s s.heap) ∧ (Term.string "NameBoard$Acts" 88).eval args s none [] s = some (.ref q.1) := by
  obtain ⟨adK, adV, h1, h2⟩ := vk_Sof (args := args) (s := s) (N := 1) (tm := fun _ => (.string "NameBoard$Acts" 88)) (len := [s_len.getD 7 0]) (byt := [s_byt.getD 7 []]) (A := A) (fun i hi => by obtain rfl : i = 0 := (by omega); decide +kernel) (fun i hi => hf _ (by decide +kernel)) (fun i hi => hf _ (by decide +kernel)) (fun i hi => hf _ (by decide +kernel)) (fun i hi => by obtain rfl : i = 0 := (by omega); exact hf _ (by decide +kernel)) (fun i hi j hj => by
      obtain rfl : i = 0 := by omega
      have hj2 : j < 5 := hj
      rcases (show j = 0 ∨ j = 1 ∨ j = 2 ∨ j = 3 ∨ j = 4 by omega) with rfl | rfl | rfl | rfl | rfl <;> exact hf _ (by decide +kernel)) (fun i j hi hj hne => absurd (show i = j by omega) hne) hA
  exact ⟨(adK 0, adV 0), h1.1 0 (by decide), h2 0 (by decide)⟩
set_option maxRecDepth 20000 in
theorem st_str8 {args : Array Value} {s : State} {A : Nat → Prop} (hf : ∀ c ∈ lw_F, c.before args s = true) (hA : ∀ a : Nat, a < s.heap.size → ¬ A a) : ∃ q : Nat × Nat, (va_O "java/lang/String" q.1 A s s.heap ∧ va_OF "java/lang/String" "coder" "B" (.int 0) q.1 A s s.heap ∧ va_OF "java/lang/String" "value" "[B" (.ref q.2) q.1 A s s.heap ∧ va_T .byte q.2 (s_len.getD 8 0) (fun j => .int ((s_byt.getD 8 []).getD j 0)) A s s.heap) ∧ (Term.string "NameBoard$Acts" 117).eval args s none [] s = some (.ref q.1) := by
  obtain ⟨adK, adV, h1, h2⟩ := vk_Sof (args := args) (s := s) (N := 1) (tm := fun _ => (.string "NameBoard$Acts" 117)) (len := [s_len.getD 8 0]) (byt := [s_byt.getD 8 []]) (A := A) (fun i hi => by obtain rfl : i = 0 := (by omega); decide +kernel) (fun i hi => hf _ (by decide +kernel)) (fun i hi => hf _ (by decide +kernel)) (fun i hi => hf _ (by decide +kernel)) (fun i hi => by obtain rfl : i = 0 := (by omega); exact hf _ (by decide +kernel)) (fun i hi j hj => by
      obtain rfl : i = 0 := by omega
      have hj2 : j < 5 := hj
      rcases (show j = 0 ∨ j = 1 ∨ j = 2 ∨ j = 3 ∨ j = 4 by omega) with rfl | rfl | rfl | rfl | rfl <;> exact hf _ (by decide +kernel)) (fun i j hi hj hne => absurd (show i = j by omega) hne) hA
  exact ⟨(adK 0, adV 0), h1.1 0 (by decide), h2 0 (by decide)⟩
set_option maxRecDepth 20000 in
theorem st_str9 {args : Array Value} {s : State} {A : Nat → Prop} (hf : ∀ c ∈ lw_F, c.before args s = true) (hA : ∀ a : Nat, a < s.heap.size → ¬ A a) : ∃ q : Nat × Nat, (va_O "java/lang/String" q.1 A s s.heap ∧ va_OF "java/lang/String" "coder" "B" (.int 0) q.1 A s s.heap ∧ va_OF "java/lang/String" "value" "[B" (.ref q.2) q.1 A s s.heap ∧ va_T .byte q.2 (s_len.getD 9 0) (fun j => .int ((s_byt.getD 9 []).getD j 0)) A s s.heap) ∧ (Term.string "NameBoard$Acts" 93).eval args s none [] s = some (.ref q.1) := by
  obtain ⟨adK, adV, h1, h2⟩ := vk_Sof (args := args) (s := s) (N := 1) (tm := fun _ => (.string "NameBoard$Acts" 93)) (len := [s_len.getD 9 0]) (byt := [s_byt.getD 9 []]) (A := A) (fun i hi => by obtain rfl : i = 0 := (by omega); decide +kernel) (fun i hi => hf _ (by decide +kernel)) (fun i hi => hf _ (by decide +kernel)) (fun i hi => hf _ (by decide +kernel)) (fun i hi => by obtain rfl : i = 0 := (by omega); exact hf _ (by decide +kernel)) (fun i hi j hj => by
      obtain rfl : i = 0 := by omega
      have hj2 : j < 2 := hj
      rcases (show j = 0 ∨ j = 1 by omega) with rfl | rfl <;> exact hf _ (by decide +kernel)) (fun i j hi hj hne => absurd (show i = j by omega) hne) hA
  exact ⟨(adK 0, adV 0), h1.1 0 (by decide), h2 0 (by decide)⟩
set_option maxRecDepth 20000 in
theorem st_str10 {args : Array Value} {s : State} {A : Nat → Prop} (hf : ∀ c ∈ lw_F, c.before args s = true) (hA : ∀ a : Nat, a < s.heap.size → ¬ A a) : ∃ q : Nat × Nat, (va_O "java/lang/String" q.1 A s s.heap ∧ va_OF "java/lang/String" "coder" "B" (.int 0) q.1 A s s.heap ∧ va_OF "java/lang/String" "value" "[B" (.ref q.2) q.1 A s s.heap ∧ va_T .byte q.2 (s_len.getD 10 0) (fun j => .int ((s_byt.getD 10 []).getD j 0)) A s s.heap) ∧ (Term.string "NameBoard$Acts" 107).eval args s none [] s = some (.ref q.1) := by
  obtain ⟨adK, adV, h1, h2⟩ := vk_Sof (args := args) (s := s) (N := 1) (tm := fun _ => (.string "NameBoard$Acts" 107)) (len := [s_len.getD 10 0]) (byt := [s_byt.getD 10 []]) (A := A) (fun i hi => by obtain rfl : i = 0 := (by omega); decide +kernel) (fun i hi => hf _ (by decide +kernel)) (fun i hi => hf _ (by decide +kernel)) (fun i hi => hf _ (by decide +kernel)) (fun i hi => by obtain rfl : i = 0 := (by omega); exact hf _ (by decide +kernel)) (fun i hi j hj => by
      obtain rfl : i = 0 := by omega
      have hj2 : j < 3 := hj
      rcases (show j = 0 ∨ j = 1 ∨ j = 2 by omega) with rfl | rfl | rfl <;> exact hf _ (by decide +kernel)) (fun i j hi hj hne => absurd (show i = j by omega) hne) hA
  exact ⟨(adK 0, adV 0), h1.1 0 (by decide), h2 0 (by decide)⟩
set_option maxRecDepth 20000 in
theorem st_str11 {args : Array Value} {s : State} {A : Nat → Prop} (hf : ∀ c ∈ lw_F, c.before args s = true) (hA : ∀ a : Nat, a < s.heap.size → ¬ A a) : ∃ q : Nat × Nat, (va_O "java/lang/String" q.1 A s s.heap ∧ va_OF "java/lang/String" "coder" "B" (.int 0) q.1 A s s.heap ∧ va_OF "java/lang/String" "value" "[B" (.ref q.2) q.1 A s s.heap ∧ va_T .byte q.2 (s_len.getD 11 0) (fun j => .int ((s_byt.getD 11 []).getD j 0)) A s s.heap) ∧ (Term.string "NameBoard$Acts" 98).eval args s none [] s = some (.ref q.1) := by
  obtain ⟨adK, adV, h1, h2⟩ := vk_Sof (args := args) (s := s) (N := 1) (tm := fun _ => (.string "NameBoard$Acts" 98)) (len := [s_len.getD 11 0]) (byt := [s_byt.getD 11 []]) (A := A) (fun i hi => by obtain rfl : i = 0 := (by omega); decide +kernel) (fun i hi => hf _ (by decide +kernel)) (fun i hi => hf _ (by decide +kernel)) (fun i hi => hf _ (by decide +kernel)) (fun i hi => by obtain rfl : i = 0 := (by omega); exact hf _ (by decide +kernel)) (fun i hi j hj => by
      obtain rfl : i = 0 := by omega
      have hj2 : j < 3 := hj
      rcases (show j = 0 ∨ j = 1 ∨ j = 2 by omega) with rfl | rfl | rfl <;> exact hf _ (by decide +kernel)) (fun i j hi hj hne => absurd (show i = j by omega) hne) hA
  exact ⟨(adK 0, adV 0), h1.1 0 (by decide), h2 0 (by decide)⟩
set_option maxRecDepth 20000 in
theorem st_str12 {args : Array Value} {s : State} {A : Nat → Prop} (hf : ∀ c ∈ lw_F, c.before args s = true) (hA : ∀ a : Nat, a < s.heap.size → ¬ A a) : ∃ q : Nat × Nat, (va_O "java/lang/String" q.1 A s s.heap ∧ va_OF "java/lang/String" "coder" "B" (.int 0) q.1 A s s.heap ∧ va_OF "java/lang/String" "value" "[B" (.ref q.2) q.1 A s s.heap ∧ va_T .byte q.2 (s_len.getD 12 0) (fun j => .int ((s_byt.getD 12 []).getD j 0)) A s s.heap) ∧ (Term.string "NameBoard$Acts" 123).eval args s none [] s = some (.ref q.1) := by
  obtain ⟨adK, adV, h1, h2⟩ := vk_Sof (args := args) (s := s) (N := 1) (tm := fun _ => (.string "NameBoard$Acts" 123)) (len := [s_len.getD 12 0]) (byt := [s_byt.getD 12 []]) (A := A) (fun i hi => by obtain rfl : i = 0 := (by omega); decide +kernel) (fun i hi => hf _ (by decide +kernel)) (fun i hi => hf _ (by decide +kernel)) (fun i hi => hf _ (by decide +kernel)) (fun i hi => by obtain rfl : i = 0 := (by omega); exact hf _ (by decide +kernel)) (fun i hi j hj => by
      obtain rfl : i = 0 := by omega
      have hj2 : j < 5 := hj
      rcases (show j = 0 ∨ j = 1 ∨ j = 2 ∨ j = 3 ∨ j = 4 by omega) with rfl | rfl | rfl | rfl | rfl <;> exact hf _ (by decide +kernel)) (fun i j hi hj hne => absurd (show i = j by omega) hne) hA
  exact ⟨(adK 0, adV 0), h1.1 0 (by decide), h2 0 (by decide)⟩
set_option maxRecDepth 20000 in
theorem st_str13 {args : Array Value} {s : State} {A : Nat → Prop} (hf : ∀ c ∈ lw_F, c.before args s = true) (hA : ∀ a : Nat, a < s.heap.size → ¬ A a) : ∃ q : Nat × Nat, (va_O "java/lang/String" q.1 A s s.heap ∧ va_OF "java/lang/String" "coder" "B" (.int 0) q.1 A s s.heap ∧ va_OF "java/lang/String" "value" "[B" (.ref q.2) q.1 A s s.heap ∧ va_T .byte q.2 (s_len.getD 13 0) (fun j => .int ((s_byt.getD 13 []).getD j 0)) A s s.heap) ∧ (Term.string "NameBoard$Acts" 125).eval args s none [] s = some (.ref q.1) := by
  obtain ⟨adK, adV, h1, h2⟩ := vk_Sof (args := args) (s := s) (N := 1) (tm := fun _ => (.string "NameBoard$Acts" 125)) (len := [s_len.getD 13 0]) (byt := [s_byt.getD 13 []]) (A := A) (fun i hi => by obtain rfl : i = 0 := (by omega); decide +kernel) (fun i hi => hf _ (by decide +kernel)) (fun i hi => hf _ (by decide +kernel)) (fun i hi => hf _ (by decide +kernel)) (fun i hi => by obtain rfl : i = 0 := (by omega); exact hf _ (by decide +kernel)) (fun i hi j hj => by
      obtain rfl : i = 0 := by omega
      have hj2 : j < 6 := hj
      rcases (show j = 0 ∨ j = 1 ∨ j = 2 ∨ j = 3 ∨ j = 4 ∨ j = 5 by omega) with rfl | rfl | rfl | rfl | rfl | rfl <;> exact hf _ (by decide +kernel)) (fun i j hi hj hne => absurd (show i = j by omega) hne) hA
  exact ⟨(adK 0, adV 0), h1.1 0 (by decide), h2 0 (by decide)⟩
set_option maxRecDepth 20000 in
theorem st_str14 {args : Array Value} {s : State} {A : Nat → Prop} (hf : ∀ c ∈ lw_F, c.before args s = true) (hA : ∀ a : Nat, a < s.heap.size → ¬ A a) : ∃ q : Nat × Nat, (va_O "java/lang/String" q.1 A s s.heap ∧ va_OF "java/lang/String" "coder" "B" (.int 0) q.1 A s s.heap ∧ va_OF "java/lang/String" "value" "[B" (.ref q.2) q.1 A s s.heap ∧ va_T .byte q.2 (s_len.getD 14 0) (fun j => .int ((s_byt.getD 14 []).getD j 0)) A s s.heap) ∧ (Term.string "NameBoard$Acts" 127).eval args s none [] s = some (.ref q.1) := by
  obtain ⟨adK, adV, h1, h2⟩ := vk_Sof (args := args) (s := s) (N := 1) (tm := fun _ => (.string "NameBoard$Acts" 127)) (len := [s_len.getD 14 0]) (byt := [s_byt.getD 14 []]) (A := A) (fun i hi => by obtain rfl : i = 0 := (by omega); decide +kernel) (fun i hi => hf _ (by decide +kernel)) (fun i hi => hf _ (by decide +kernel)) (fun i hi => hf _ (by decide +kernel)) (fun i hi => by obtain rfl : i = 0 := (by omega); exact hf _ (by decide +kernel)) (fun i hi j hj => by
      obtain rfl : i = 0 := by omega
      have hj2 : j < 5 := hj
      rcases (show j = 0 ∨ j = 1 ∨ j = 2 ∨ j = 3 ∨ j = 4 by omega) with rfl | rfl | rfl | rfl | rfl <;> exact hf _ (by decide +kernel)) (fun i j hi hj hne => absurd (show i = j by omega) hne) hA
  exact ⟨(adK 0, adV 0), h1.1 0 (by decide), h2 0 (by decide)⟩
set_option maxRecDepth 20000 in
theorem st_str15 {args : Array Value} {s : State} {A : Nat → Prop} (hf : ∀ c ∈ lw_F, c.before args s = true) (hA : ∀ a : Nat, a < s.heap.size → ¬ A a) : ∃ q : Nat × Nat, (va_O "java/lang/String" q.1 A s s.heap ∧ va_OF "java/lang/String" "coder" "B" (.int 0) q.1 A s s.heap ∧ va_OF "java/lang/String" "value" "[B" (.ref q.2) q.1 A s s.heap ∧ va_T .byte q.2 (s_len.getD 15 0) (fun j => .int ((s_byt.getD 15 []).getD j 0)) A s s.heap) ∧ (Term.string "NameBoard$Acts" 129).eval args s none [] s = some (.ref q.1) := by
  obtain ⟨adK, adV, h1, h2⟩ := vk_Sof (args := args) (s := s) (N := 1) (tm := fun _ => (.string "NameBoard$Acts" 129)) (len := [s_len.getD 15 0]) (byt := [s_byt.getD 15 []]) (A := A) (fun i hi => by obtain rfl : i = 0 := (by omega); decide +kernel) (fun i hi => hf _ (by decide +kernel)) (fun i hi => hf _ (by decide +kernel)) (fun i hi => hf _ (by decide +kernel)) (fun i hi => by obtain rfl : i = 0 := (by omega); exact hf _ (by decide +kernel)) (fun i hi j hj => by
      obtain rfl : i = 0 := by omega
      have hj2 : j < 4 := hj
      rcases (show j = 0 ∨ j = 1 ∨ j = 2 ∨ j = 3 by omega) with rfl | rfl | rfl | rfl <;> exact hf _ (by decide +kernel)) (fun i j hi hj hne => absurd (show i = j by omega) hne) hA
  exact ⟨(adK 0, adV 0), h1.1 0 (by decide), h2 0 (by decide)⟩
theorem mLn_11 : Cond.classLink R_law 7 RX11 ∈ lwG := lwG_of 87 (by decide +kernel) (by decide +kernel)
theorem mLn_12 : Cond.classLink R_law 10 RX12 ∈ lwG := lwG_of 1313 (by decide +kernel) (by decide +kernel)
theorem mLi_11 : Cond.methodLink R_law 9 yX11_init ∈ lwG := lwG_of 89 (by decide +kernel) (by decide +kernel)
theorem mLi_12 : Cond.methodLink R_law 12 yX12_init ∈ lwG := lwG_of 1315 (by decide +kernel) (by decide +kernel)
theorem mIn_X11 : Cond.instantiable RX11 10 ∈ lwG := lwG_of 88 (by decide +kernel) (by decide +kernel)
theorem mC_X11_init : Cond.code yX11_init cX11_init 1 none ∈ lwG := lwG_of 91 (by decide +kernel) (by decide +kernel)
theorem mN_X11_init : Cond.instanceMethod yX11_init ∈ lwG := lwG_of 90 (by decide +kernel) (by decide +kernel)
theorem mIn_X12 : Cond.instantiable RX12 52 ∈ lwG := lwG_of 1314 (by decide +kernel) (by decide +kernel)
theorem mC_X12_init : Cond.code yX12_init cX12_init 1 none ∈ lwG := lwG_of 1317 (by decide +kernel) (by decide +kernel)
theorem mN_X12_init : Cond.instanceMethod yX12_init ∈ lwG := lwG_of 1316 (by decide +kernel) (by decide +kernel)
set_option maxHeartbeats 4000000 in
set_option maxRecDepth 100000 in
theorem law_begin {p : Program} {e : Env} {s : State} {m : MethodId} {below : List Frame} {meth : Method} {c : Code} (l : Launch) {b L : Nat} {xs : Nat → Int32} (hL : L ≤ 3072) (C0 : lw_At p s m meth c b L xs) (Hloop : ∀ (X : VX) (E : VE) (h0 hm : Nat) (a_nb : Nat → Nat) (a_m : Nat → Nat) (a_st : Nat → Nat) (a_la : Nat → Nat) (a_sp : Nat → Nat) (a_ac : Nat → Nat) (a_bd : Nat → Nat) (a_sg : Nat → Nat) (a_tp : Nat → Nat) (a_hd : Nat → Nat) (a_vw : Nat → Nat) (a_o1 : Nat → Nat) (a_o2 : Nat → Nat) (a_pl : Nat → Nat) (a_pp : Nat → Nat) (qp : Nat), VC X code 4 R_law room_1 E l → LWX X b L xs → (∀ (a b : Nat) (ws : va_W) (lv : List (Nat × Value)), a ≤ 139614 → b ≤ 8683408 → VV X a b ws lv 1585 [.int 1]) → VV X 200 80000 ([wX11 E h0 a_nb uX11, wX12 E hm a_m uX12, wX8 E (a_nb 0) a_st uX8, wX2 E (a_st 2) a_la uX2, wX7 E (a_st 3) a_sp uX7, wX0 E (a_st 4) a_ac uX0, wX1 E (a_st 5) a_bd uX1, wX6 E (a_st 6) a_sg uX6, wX9 E (a_nb 2) a_tp uX9, wX5 E (a_nb 3) a_hd uX5, wX10 E (a_nb 4) a_vw uX10, wX5 E (a_vw 6) a_o1 uX5, wX5 E (a_vw 7) a_o2 uX5, wX4 E (a_nb 5) a_pl uX4, wX3 E (a_nb 6) a_pp ((sX (sX uX3 0 qp) 1 0)), [], [], []].flatten) [(0, .ref b), (1, .ref h0), (2, .ref hm), (3, .int 0)] 18 []) : W p l e room_1 s m #[Value.ref b] below meth c s.heap [] 0 0 (lw_Z below #[Value.ref b] s) (entryFrame m ([Value.ref b] : List Value).toArray 4) := by
  obtain ⟨hx, hb, hr, hml, hown, htb, hX, hbl, hlocks, hgv⟩ := id C0
  have hf := flat_of_before _ hgv
  have hAn : ∀ a : Nat, a < s.heap.size → ¬ (fun q : Nat => s.heap.size ≤ q) a := fun a h => Nat.not_le.mpr h
  obtain ⟨q0, hq0, he0⟩ := st_str0 (A := fun q : Nat => s.heap.size ≤ q) hf hAn
  obtain ⟨q1, hq1, he1⟩ := st_str1 (A := fun q : Nat => s.heap.size ≤ q) hf hAn
  obtain ⟨q2, hq2, he2⟩ := st_str2 (A := fun q : Nat => s.heap.size ≤ q) hf hAn
  obtain ⟨q3, hq3, he3⟩ := st_str3 (A := fun q : Nat => s.heap.size ≤ q) hf hAn
  obtain ⟨q4, hq4, he4⟩ := st_str4 (A := fun q : Nat => s.heap.size ≤ q) hf hAn
  obtain ⟨q5, hq5, he5⟩ := st_str5 (A := fun q : Nat => s.heap.size ≤ q) hf hAn
  obtain ⟨q6, hq6, he6⟩ := st_str6 (A := fun q : Nat => s.heap.size ≤ q) hf hAn
  obtain ⟨q7, hq7, he7⟩ := st_str7 (A := fun q : Nat => s.heap.size ≤ q) hf hAn
  obtain ⟨q8, hq8, he8⟩ := st_str8 (A := fun q : Nat => s.heap.size ≤ q) hf hAn
  obtain ⟨q9, hq9, he9⟩ := st_str9 (A := fun q : Nat => s.heap.size ≤ q) hf hAn
  obtain ⟨q10, hq10, he10⟩ := st_str10 (A := fun q : Nat => s.heap.size ≤ q) hf hAn
  obtain ⟨q11, hq11, he11⟩ := st_str11 (A := fun q : Nat => s.heap.size ≤ q) hf hAn
  obtain ⟨q12, hq12, he12⟩ := st_str12 (A := fun q : Nat => s.heap.size ≤ q) hf hAn
  obtain ⟨q13, hq13, he13⟩ := st_str13 (A := fun q : Nat => s.heap.size ≤ q) hf hAn
  obtain ⟨q14, hq14, he14⟩ := st_str14 (A := fun q : Nat => s.heap.size ≤ q) hf hAn
  obtain ⟨q15, hq15, he15⟩ := st_str15 (A := fun q : Nat => s.heap.size ≤ q) hf hAn
  obtain ⟨cc0, iS0, hKn0⟩ := u_known (C := RX0) (T := TX0) (N := 12) (n := 12) htb inU0 (htb (Cond.instantiable RX0 12) (List.mem_of_getElem? (i := 213) (by decide +kernel)))
  obtain ⟨cc1, iS1, hKn1⟩ := u_known (C := RX1) (T := TX1) (N := 12) (n := 12) htb inU1 (htb (Cond.instantiable RX1 12) (List.mem_of_getElem? (i := 259) (by decide +kernel)))
  obtain ⟨cc2, iS2, hKn2⟩ := u_known (C := RX2) (T := TX2) (N := 11) (n := 11) htb inU2 (htb (Cond.instantiable RX2 11) (List.mem_of_getElem? (i := 102) (by decide +kernel)))
  obtain ⟨cc3, iS3, hKn3⟩ := u_known (C := RX3) (T := TX3) (N := 10) (n := 10) htb inU3 (htb (Cond.instantiable RX3 10) (List.mem_of_getElem? (i := 510) (by decide +kernel)))
  obtain ⟨cc4, iS4, hKn4⟩ := u_known (C := RX4) (T := TX4) (N := 6) (n := 6) htb inU4 (htb (Cond.instantiable RX4 6) (List.mem_of_getElem? (i := 480) (by decide +kernel)))
  obtain ⟨cc5, iS5, hKn5⟩ := u_known (C := RX5) (T := TX5) (N := 3) (n := 3) htb inU5 (htb (Cond.instantiable RX5 3) (List.mem_of_getElem? (i := 411) (by decide +kernel)))
  obtain ⟨cc6, iS6, hKn6⟩ := u_known (C := RX6) (T := TX6) (N := 4) (n := 4) htb inU6 (htb (Cond.instantiable RX6 4) (List.mem_of_getElem? (i := 305) (by decide +kernel)))
  obtain ⟨cc7, iS7, hKn7⟩ := u_known (C := RX7) (T := TX7) (N := 16) (n := 16) htb inU7 (htb (Cond.instantiable RX7 16) (List.mem_of_getElem? (i := 148) (by decide +kernel)))
  obtain ⟨cc8, iS8, hKn8⟩ := u_known (C := RX8) (T := TX8) (N := 7) (n := 7) htb inU8 (htb (Cond.instantiable RX8 7) (List.mem_of_getElem? (i := 96) (by decide +kernel)))
  obtain ⟨cc9, iS9, hKn9⟩ := u_known (C := RX9) (T := TX9) (N := 8) (n := 8) htb inU9 (htb (Cond.instantiable RX9 8) (List.mem_of_getElem? (i := 369) (by decide +kernel)))
  obtain ⟨cc10, iS10, hKn10⟩ := u_known (C := RX10) (T := TX10) (N := 11) (n := 11) htb inU10 (htb (Cond.instantiable RX10 11) (List.mem_of_getElem? (i := 433) (by decide +kernel)))
  obtain ⟨cc11, iS11, hKn11⟩ := u_known (C := RX11) (T := TX11) (N := 10) (n := 10) htb inU11 (htb (Cond.instantiable RX11 10) (List.mem_of_getElem? (i := 88) (by decide +kernel)))
  obtain ⟨cc12, iS12, hKn12⟩ := u_known (C := RX12) (T := TX12) (N := 52) (n := 52) htb inU12 (htb (Cond.instantiable RX12 52) (List.mem_of_getElem? (i := 1314) (by decide +kernel)))
  obtain ⟨dC, dI, hKc⟩ : ∃ (dC : Nat → ClassId) (dI : Nat → Nat → Nat), ∀ (k : Nat) (q : vw_C), vwCl[k]? = some q → u_Kn s q.1 q.2.1 q.2.2 (dC k) (dI k) := by
    refine ⟨fun k => if k = 0 then cc0 else if k = 1 then cc1 else if k = 2 then cc2 else if k = 3 then cc3 else if k = 4 then cc4 else if k = 5 then cc5 else if k = 6 then cc6 else if k = 7 then cc7 else if k = 8 then cc8 else if k = 9 then cc9 else if k = 10 then cc10 else if k = 11 then cc11 else cc12, fun k => if k = 0 then iS0 else if k = 1 then iS1 else if k = 2 then iS2 else if k = 3 then iS3 else if k = 4 then iS4 else if k = 5 then iS5 else if k = 6 then iS6 else if k = 7 then iS7 else if k = 8 then iS8 else if k = 9 then iS9 else if k = 10 then iS10 else if k = 11 then iS11 else iS12, ?_⟩
    intro k q hq
    match k, hq with
    | 0, hq => cases hq; exact hKn0
    | 1, hq => cases hq; exact hKn1
    | 2, hq => cases hq; exact hKn2
    | 3, hq => cases hq; exact hKn3
    | 4, hq => cases hq; exact hKn4
    | 5, hq => cases hq; exact hKn5
    | 6, hq => cases hq; exact hKn6
    | 7, hq => cases hq; exact hKn7
    | 8, hq => cases hq; exact hKn8
    | 9, hq => cases hq; exact hKn9
    | 10, hq => cases hq; exact hKn10
    | 11, hq => cases hq; exact hKn11
    | 12, hq => cases hq; exact hKn12
    | k + 13, hq => simp [vwCl] at hq
  obtain ⟨cB, kB, pB, fB, gB, hB⟩ := Cond.arrayClass_spec (htb (Cond.arrayClass .byte) (List.mem_of_getElem? (i := 211) (by decide +kernel)))
  obtain ⟨cI, kI, pI, fI, gI, hI⟩ := Cond.arrayClass_spec (htb (Cond.arrayClass .int) (List.mem_of_getElem? (i := 146) (by decide +kernel)))
  obtain ⟨cJ, kJ, pJ, fJ, gJ, hJ⟩ := Cond.arrayClass_spec (htb (Cond.arrayClass .long) (List.mem_of_getElem? (i := 508) (by decide +kernel)))
  obtain ⟨cZ, kZ, pZ, fZ, gZ, hZ⟩ := Cond.arrayClass_spec (htb (Cond.arrayClass .boolean) (List.mem_of_getElem? (i := 145) (by decide +kernel)))
  have hov := (htb (Cond.arrayOver (.object "NameBoard$State")) (List.mem_of_getElem? (i := 367) (by decide +kernel)))
  obtain ⟨pS, cS, kS, fS0, -, gS, hS0, fS⟩ := Cond.arrayOver_spec hov
  obtain ⟨E, hE⟩ : ∃ E : VE, E = ((dC, dI), (cB, cI, cJ, cZ, cS), (fun k => if k = 0 then q0.1 else if k = 1 then q1.1 else if k = 2 then q2.1 else if k = 3 then q3.1 else if k = 4 then q4.1 else if k = 5 then q5.1 else if k = 6 then q6.1 else if k = 7 then q7.1 else if k = 8 then q8.1 else if k = 9 then q9.1 else if k = 10 then q10.1 else if k = 11 then q11.1 else if k = 12 then q12.1 else if k = 13 then q13.1 else if k = 14 then q14.1 else q15.1), (fun k => if k = 0 then q0.2 else if k = 1 then q1.2 else if k = 2 then q2.2 else if k = 3 then q3.2 else if k = 4 then q4.2 else if k = 5 then q5.2 else if k = 6 then q6.2 else if k = 7 then q7.2 else if k = 8 then q8.2 else if k = 9 then q9.2 else if k = 10 then q10.2 else if k = 11 then q11.2 else if k = 12 then q12.2 else if k = 13 then q13.2 else if k = 14 then q14.2 else q15.2)) := ⟨_, rfl⟩
  have hK : va_K E.1 vwCl (tysE E) s := by
    subst hE
    refine ⟨hKc, fun k q h => ?_⟩
    match k, h with
    | 0, h => cases h; exact ⟨fun n z => ⟨fun k h => (by cases h), kB, gB, pB, hB⟩, fB⟩
    | 1, h => cases h; exact ⟨fun n z => ⟨fun k h => (by cases h), kI, gI, pI, hI⟩, fI⟩
    | 2, h => cases h; exact ⟨fun n z => ⟨fun k h => (by cases h), kJ, gJ, pJ, hJ⟩, fJ⟩
    | 3, h => cases h; exact ⟨fun n z => ⟨fun k h => (by cases h), kZ, gZ, pZ, hZ⟩, fZ⟩
    | 4, h => cases h; exact ⟨fun n z => ⟨fun k h => (by cases h), kS, gS, pS, hS0⟩, kS, pS, gS, hS0, fS0, fS⟩
    | k + 5, h => simp at h
  have hSF : SF E (fun q : Nat => s.heap.size ≤ q) s s.heap := by
    subst hE
    refine ⟨fun i hi => ?_, va_Zof (htb (Cond.laysStatic "java/lang/String" "COMPACT_STRINGS" "Z") (List.mem_of_getElem? (i := 742) (by decide +kernel))) (htb (Cond.initialized "java/lang/String") (List.mem_of_getElem? (i := 82) (by decide +kernel))) (va_eqi (hf _ (by decide +kernel))) hAn, va_Zqof (htb (Cond.laysStatic "jdk/internal/util/Preconditions" "SIOOBE_FORMATTER" "Ljava/util/function/BiFunction;") (List.mem_of_getElem? (i := 758) (by decide +kernel))) (htb (Cond.initialized "jdk/internal/util/Preconditions") (List.mem_of_getElem? (i := 84) (by decide +kernel))) (hf _ (by decide +kernel)) hAn, va_AO.of hov, ?_, ?_⟩
    · rcases (show i = 0 ∨ i = 1 ∨ i = 2 ∨ i = 3 ∨ i = 4 ∨ i = 5 ∨ i = 6 ∨ i = 7 ∨ i = 8 ∨ i = 9 ∨ i = 10 ∨ i = 11 ∨ i = 12 ∨ i = 13 ∨ i = 14 ∨ i = 15 by omega) with rfl | rfl | rfl | rfl | rfl | rfl | rfl | rfl | rfl | rfl | rfl | rfl | rfl | rfl | rfl | rfl
      · exact hq0
      · exact hq1
      · exact hq2
      · exact hq3
      · exact hq4
      · exact hq5
      · exact hq6
      · exact hq7
      · exact hq8
      · exact hq9
      · exact hq10
      · exact hq11
      · exact hq12
      · exact hq13
      · exact hq14
      · exact hq15
    · exact List.forall_mem_cons.mpr ⟨va_Nw.of rfl (htb (Cond.methodLinkNest "NameBoard" 9 ⟨"NameBoard$State", "<init>", "()V"⟩ "NameBoard") (List.mem_of_getElem? (i := 97) (by decide +kernel))), List.forall_mem_cons.mpr ⟨va_Nw.of rfl (htb (Cond.methodLinkNest "NameBoard$State" 17 ⟨"NameBoard$Land", "<init>", "()V"⟩ "NameBoard") (List.mem_of_getElem? (i := 103) (by decide +kernel))), List.forall_mem_cons.mpr ⟨va_Nw.of rfl (htb (Cond.methodLinkNest "NameBoard$State" 24 ⟨"NameBoard$Speech", "<init>", "()V"⟩ "NameBoard") (List.mem_of_getElem? (i := 149) (by decide +kernel))), List.forall_mem_cons.mpr ⟨va_Nw.of rfl (htb (Cond.methodLinkNest "NameBoard$State" 31 ⟨"NameBoard$Acts", "<init>", "()V"⟩ "NameBoard") (List.mem_of_getElem? (i := 214) (by decide +kernel))), List.forall_mem_cons.mpr ⟨va_Nw.of rfl (htb (Cond.methodLinkNest "NameBoard$State" 38 ⟨"NameBoard$Board", "<init>", "()V"⟩ "NameBoard") (List.mem_of_getElem? (i := 260) (by decide +kernel))), List.forall_mem_cons.mpr ⟨va_Nw.of rfl (htb (Cond.methodLinkNest "NameBoard$State" 45 ⟨"NameBoard$Signs", "<init>", "()V"⟩ "NameBoard") (List.mem_of_getElem? (i := 306) (by decide +kernel))), List.forall_mem_cons.mpr ⟨va_Nw.of rfl (htb (Cond.methodLinkNest "NameBoard" 22 ⟨"NameBoard$Tape", "<init>", "()V"⟩ "NameBoard") (List.mem_of_getElem? (i := 370) (by decide +kernel))), List.forall_mem_cons.mpr ⟨va_Nw.of rfl (htb (Cond.methodLinkNest "NameBoard" 29 ⟨"NameBoard$Row", "<init>", "()V"⟩ "NameBoard") (List.mem_of_getElem? (i := 412) (by decide +kernel))), List.forall_mem_cons.mpr ⟨va_Nw.of rfl (htb (Cond.methodLinkNest "NameBoard" 36 ⟨"NameBoard$View", "<init>", "()V"⟩ "NameBoard") (List.mem_of_getElem? (i := 434) (by decide +kernel))), List.forall_mem_cons.mpr ⟨va_Nw.of rfl (htb (Cond.methodLinkNest "NameBoard$View" 28 ⟨"NameBoard$Row", "<init>", "()V"⟩ "NameBoard") (List.mem_of_getElem? (i := 439) (by decide +kernel))), List.forall_mem_cons.mpr ⟨va_Nw.of rfl (htb (Cond.methodLinkNest "NameBoard" 50 ⟨"NameBoard$Paper", "<init>", "()V"⟩ "NameBoard") (List.mem_of_getElem? (i := 511) (by decide +kernel))), List.forall_mem_cons.mpr ⟨va_Nw.of rfl (htb (Cond.methodLinkNest "NameBoard$State" 54 ⟨"NameBoard", "copyFlags", "([Z[ZI)V"⟩ "NameBoard") (List.mem_of_getElem? (i := 1256) (by decide +kernel))), List.forall_mem_cons.mpr ⟨va_Nw.of rfl (htb (Cond.methodLinkNest "NameBoard$Acts" 149 ⟨"NameBoard", "copyFlags", "([Z[ZI)V"⟩ "NameBoard") (List.mem_of_getElem? (i := 1273) (by decide +kernel))), List.forall_mem_cons.mpr ⟨va_Nw.of rfl (htb (Cond.methodLinkNest "NameBoard$Board" 66 ⟨"NameBoard", "copyFlags", "([Z[ZI)V"⟩ "NameBoard") (List.mem_of_getElem? (i := 1279) (by decide +kernel))), fun _ h => absurd h List.not_mem_nil⟩⟩⟩⟩⟩⟩⟩⟩⟩⟩⟩⟩⟩⟩
    · exact List.forall_mem_cons.mpr ⟨vk_R.of (htb (Cond.stringRef "NameBoard$Speech" 80 "after") (List.mem_of_getElem? (i := 728) (by decide +kernel))) he0, List.forall_mem_cons.mpr ⟨vk_R.of (htb (Cond.stringRef "NameBoard$Speech" 123 "before") (List.mem_of_getElem? (i := 804) (by decide +kernel))) he1, List.forall_mem_cons.mpr ⟨vk_R.of (htb (Cond.stringRef "NameBoard$Acts" 74 "first") (List.mem_of_getElem? (i := 832) (by decide +kernel))) he2, List.forall_mem_cons.mpr ⟨vk_R.of (htb (Cond.stringRef "NameBoard$Acts" 80 "both") (List.mem_of_getElem? (i := 834) (by decide +kernel))) he3, List.forall_mem_cons.mpr ⟨vk_R.of (htb (Cond.stringRef "NameBoard$Acts" 82 "far") (List.mem_of_getElem? (i := 835) (by decide +kernel))) he4, List.forall_mem_cons.mpr ⟨vk_R.of (htb (Cond.stringRef "NameBoard$Acts" 84 "dead") (List.mem_of_getElem? (i := 836) (by decide +kernel))) he5, List.forall_mem_cons.mpr ⟨vk_R.of (htb (Cond.stringRef "NameBoard$Acts" 86 "sign") (List.mem_of_getElem? (i := 837) (by decide +kernel))) he6, List.forall_mem_cons.mpr ⟨vk_R.of (htb (Cond.stringRef "NameBoard$Acts" 88 "votes") (List.mem_of_getElem? (i := 838) (by decide +kernel))) he7, List.forall_mem_cons.mpr ⟨vk_R.of (htb (Cond.stringRef "NameBoard$Acts" 117 "apart") (List.mem_of_getElem? (i := 853) (by decide +kernel))) he8, List.forall_mem_cons.mpr ⟨vk_R.of (htb (Cond.stringRef "NameBoard$Acts" 93 "if") (List.mem_of_getElem? (i := 859) (by decide +kernel))) he9, List.forall_mem_cons.mpr ⟨vk_R.of (htb (Cond.stringRef "NameBoard$Acts" 98 "not") (List.mem_of_getElem? (i := 860) (by decide +kernel))) he11, List.forall_mem_cons.mpr ⟨vk_R.of (htb (Cond.stringRef "NameBoard$Acts" 123 "share") (List.mem_of_getElem? (i := 864) (by decide +kernel))) he12, List.forall_mem_cons.mpr ⟨vk_R.of (htb (Cond.stringRef "NameBoard$Acts" 125 "people") (List.mem_of_getElem? (i := 865) (by decide +kernel))) he13, List.forall_mem_cons.mpr ⟨vk_R.of (htb (Cond.stringRef "NameBoard$Acts" 127 "parts") (List.mem_of_getElem? (i := 866) (by decide +kernel))) he14, List.forall_mem_cons.mpr ⟨vk_R.of (htb (Cond.stringRef "NameBoard$Acts" 129 "year") (List.mem_of_getElem? (i := 867) (by decide +kernel))) he15, List.forall_mem_cons.mpr ⟨vk_R.of (htb (Cond.stringRef "NameBoard$Acts" 107 "and") (List.mem_of_getElem? (i := 874) (by decide +kernel))) he10, List.forall_mem_cons.mpr ⟨vk_R.of (htb (Cond.stringRef "NameBoardModel" 232 "after") (List.mem_of_getElem? (i := 1583) (by decide +kernel))) (va_eqR (hf _ (by decide +kernel)) he0), List.forall_mem_cons.mpr ⟨vk_R.of (htb (Cond.stringRef "NameBoardModel" 234 "before") (List.mem_of_getElem? (i := 1614) (by decide +kernel))) (va_eqR (hf _ (by decide +kernel)) he1), List.forall_mem_cons.mpr ⟨vk_R.of (htb (Cond.stringRef "NameBoardModel" 307 "first") (List.mem_of_getElem? (i := 1698) (by decide +kernel))) (va_eqR (hf _ (by decide +kernel)) he2), List.forall_mem_cons.mpr ⟨vk_R.of (htb (Cond.stringRef "NameBoardModel" 309 "both") (List.mem_of_getElem? (i := 1699) (by decide +kernel))) (va_eqR (hf _ (by decide +kernel)) he3), List.forall_mem_cons.mpr ⟨vk_R.of (htb (Cond.stringRef "NameBoardModel" 311 "far") (List.mem_of_getElem? (i := 1700) (by decide +kernel))) (va_eqR (hf _ (by decide +kernel)) he4), List.forall_mem_cons.mpr ⟨vk_R.of (htb (Cond.stringRef "NameBoardModel" 313 "dead") (List.mem_of_getElem? (i := 1701) (by decide +kernel))) (va_eqR (hf _ (by decide +kernel)) he5), List.forall_mem_cons.mpr ⟨vk_R.of (htb (Cond.stringRef "NameBoardModel" 315 "sign") (List.mem_of_getElem? (i := 1702) (by decide +kernel))) (va_eqR (hf _ (by decide +kernel)) he6), List.forall_mem_cons.mpr ⟨vk_R.of (htb (Cond.stringRef "NameBoardModel" 317 "votes") (List.mem_of_getElem? (i := 1703) (by decide +kernel))) (va_eqR (hf _ (by decide +kernel)) he7), List.forall_mem_cons.mpr ⟨vk_R.of (htb (Cond.stringRef "NameBoardModel" 341 "apart") (List.mem_of_getElem? (i := 1712) (by decide +kernel))) (va_eqR (hf _ (by decide +kernel)) he8), List.forall_mem_cons.mpr ⟨vk_R.of (htb (Cond.stringRef "NameBoardModel" 342 "if") (List.mem_of_getElem? (i := 1713) (by decide +kernel))) (va_eqR (hf _ (by decide +kernel)) he9), List.forall_mem_cons.mpr ⟨vk_R.of (htb (Cond.stringRef "NameBoardModel" 327 "not") (List.mem_of_getElem? (i := 1718) (by decide +kernel))) (va_eqR (hf _ (by decide +kernel)) he11), List.forall_mem_cons.mpr ⟨vk_R.of (htb (Cond.stringRef "NameBoardModel" 319 "share") (List.mem_of_getElem? (i := 1723) (by decide +kernel))) (va_eqR (hf _ (by decide +kernel)) he12), List.forall_mem_cons.mpr ⟨vk_R.of (htb (Cond.stringRef "NameBoardModel" 321 "people") (List.mem_of_getElem? (i := 1724) (by decide +kernel))) (va_eqR (hf _ (by decide +kernel)) he13), List.forall_mem_cons.mpr ⟨vk_R.of (htb (Cond.stringRef "NameBoardModel" 323 "parts") (List.mem_of_getElem? (i := 1725) (by decide +kernel))) (va_eqR (hf _ (by decide +kernel)) he14), List.forall_mem_cons.mpr ⟨vk_R.of (htb (Cond.stringRef "NameBoardModel" 325 "year") (List.mem_of_getElem? (i := 1726) (by decide +kernel))) (va_eqR (hf _ (by decide +kernel)) he15), List.forall_mem_cons.mpr ⟨vk_R.of (htb (Cond.stringRef "NameBoardModel" 347 "and") (List.mem_of_getElem? (i := 1731) (by decide +kernel))) (va_eqR (hf _ (by decide +kernel)) he10), fun _ h => absurd h List.not_mem_nil⟩⟩⟩⟩⟩⟩⟩⟩⟩⟩⟩⟩⟩⟩⟩⟩⟩⟩⟩⟩⟩⟩⟩⟩⟩⟩⟩⟩⟩⟩⟩⟩
  have hl := lv_entry ([.ref b]) (n := 4) (Nat.le_of_ble_eq_true rfl)
  rw [lg_entry_eq]
  obtain ⟨X, hXe⟩ : ∃ X : VX, X = (p, l, e, room_1, s, m, #[Value.ref b], below, meth, c, lw_Z below #[Value.ref b] s, (fun q : Nat => s.heap.size ≤ q), 4, E) := ⟨_, rfl⟩
  have C : VC X code 4 R_law room_1 E l := by subst hXe; exact ⟨hx, hb, hml, hown, fun w h => htb w (lwG_tbl h), hK, hSF, fun _ h => h, rfl, rfl, rfl, rfl⟩
  have hLW : LWX X b L xs := by subst hXe; exact ⟨hX, hbl, Nat.not_le.mpr hbl⟩
  have hend : ∀ (a b : Nat) (ws : va_W) (lv : List (Nat × Value)), a ≤ 139614 → b ≤ 8683408 → VV X a b ws lv 1585 [.int 1] := by
    subst hXe
    intro a b ws lv h1 h2 H locs ls hP hD hS hl
    exact va_forget (fun q hq => hS.2.2 q hq) (W.widen h1 h2 (lw_ret hx hb hr hlocks dL_law_1585))
  suffices hV : VV X 0 0 [] [(0, .ref b)] 0 [] by
    subst hXe
    exact hV s.heap [] _ (fun k q h => by simp at h) ⟨fun i j p q h => by simp at h, fun k q h => by simp at h⟩ va_S.rf hl
  have hH := Hloop X E
  refine v_new (ci := 11) (fs := [.null, .null, .null, .null, .null, .null, .null, .null, .null, .null]) C tyX11 tyX11_ok inT11 rfl mLn_11 mIn_X11 mI_X11 hfs_X11 (Nat.le_of_ble_eq_true rfl) (Nat.le_of_ble_eq_true rfl) dL_law_0 (fun zX11 => ?_)
  refine v_dup C dL_law_3 rfl ?_
  refine v_callIR (st := [.ref zX11]) C (kX11_init zX11) mLi_11 mI_X11 mC_X11_init mN_X11_init rfl hdi_X11 ⟨Nat.le_of_ble_eq_true rfl, Nat.le_of_ble_eq_true rfl⟩ ⟨Nat.le_of_ble_eq_true rfl, Nat.le_of_ble_eq_true rfl⟩ (Nat.le_of_ble_eq_true rfl) dL_law_4 (fun sX11 _ => ?_)
  obtain ⟨t0, t1, t2, t3, t4, t5, t6, t7, t8, t9, t10, t11, t12, t13, t14⟩ := sX11
  refine v_astore_n (lv' := [(1, .ref zX11), (0, .ref b)]) C dL_law_7 (by decide) rfl ?_
  refine v_new (ci := 12) (fs := [.int 0, .null, .null, .null, .null, .int 0, .null, .null, .null, .null, .int 0, .int 0, .int 0, .int 0, .int 0, .int 0, .int 0, .int 0, .null, .null, .null, .int 0, .null, .null, .int 0, .null, .int 0, .null, .null, .null, .int 0, .null, .null, .null, .int 0, .null, .int 0, .int 0, .null, .null, .int 0, .null, .null, .null, .null, .int 0, .null, .int 0, .null, .null, .null, .null]) C tyX12 tyX12_ok inT12 rfl mLn_12 mIn_X12 mI_X12 hfs_X12 (Nat.le_of_ble_eq_true rfl) (Nat.le_of_ble_eq_true rfl) dL_law_8 (fun zX12 => ?_)
  refine v_dup C dL_law_11 rfl ?_
  refine v_callIR (st := [.ref zX12]) C (kX12_init zX12) mLi_12 mI_X12 mC_X12_init mN_X12_init rfl hdi_X12 ⟨Nat.le_of_ble_eq_true rfl, Nat.le_of_ble_eq_true rfl⟩ ⟨Nat.le_of_ble_eq_true rfl, Nat.le_of_ble_eq_true rfl⟩ (Nat.le_of_ble_eq_true rfl) dL_law_12 (fun sX12 _ => ?_)
  refine v_astore_n (lv' := [(2, .ref zX12), (1, .ref zX11), (0, .ref b)]) C dL_law_15 (by decide) rfl ?_
  refine v_iconst (v := 0) C dL_law_16 (by decide) ?_
  refine v_istore_n (lv' := [(3, .int 0), (2, .ref zX12), (1, .ref zX11), (0, .ref b)]) C dL_law_17 (by decide) rfl ?_
  refine v_lv C (lv' := [(0, .ref b), (1, .ref zX11), (2, .ref zX12), (3, .int 0)]) [3, 2, 1, 0] rfl ?_
  refine v_eq C (ws' := ([wX11 E zX11 t0 uX11, wX8 E (t0 0) t1 uX8, wX2 E (t1 2) t2 uX2, wX7 E (t1 3) t3 uX7, wX0 E (t1 4) t4 uX0, wX1 E (t1 5) t5 uX1, wX6 E (t1 6) t6 uX6, wX9 E (t0 2) t7 uX9, wX5 E (t0 3) t8 uX5, wX10 E (t0 4) t9 uX10, wX5 E (t9 6) t10 uX5, wX5 E (t9 7) t11 uX5, wX4 E (t0 5) t12 uX4, wX3 E (t0 6) t13 (sX (sX uX3 0 t14) 1 0), wX12 E zX12 sX12 uX12, [], [], []] : List va_W).flatten) (by simp only [List.flatten_cons, List.flatten_nil, List.append_nil, List.nil_append, List.append_assoc]) rfl rfl rfl ?_
  refine v_perm C (ws' := ([wX11 E zX11 t0 uX11, wX12 E zX12 sX12 uX12, wX8 E (t0 0) t1 uX8, wX2 E (t1 2) t2 uX2, wX7 E (t1 3) t3 uX7, wX0 E (t1 4) t4 uX0, wX1 E (t1 5) t5 uX1, wX6 E (t1 6) t6 uX6, wX9 E (t0 2) t7 uX9, wX5 E (t0 3) t8 uX5, wX10 E (t0 4) t9 uX10, wX5 E (t9 6) t10 uX5, wX5 E (t9 7) t11 uX5, wX4 E (t0 5) t12 uX4, wX3 E (t0 6) t13 (sX (sX uX3 0 t14) 1 0), [], [], []] : List va_W).flatten) (flat_pick (ms := [wX11 E zX11 t0 uX11, wX8 E (t0 0) t1 uX8, wX2 E (t1 2) t2 uX2, wX7 E (t1 3) t3 uX7, wX0 E (t1 4) t4 uX0, wX1 E (t1 5) t5 uX1, wX6 E (t1 6) t6 uX6, wX9 E (t0 2) t7 uX9, wX5 E (t0 3) t8 uX5, wX10 E (t0 4) t9 uX10, wX5 E (t9 6) t10 uX5, wX5 E (t9 7) t11 uX5, wX4 E (t0 5) t12 uX4, wX3 E (t0 6) t13 (sX (sX uX3 0 t14) 1 0), wX12 E zX12 sX12 uX12, [], [], []]) (I := [0, 14, 1, 2, 3, 4, 5, 6, 7, 8, 9, 10, 11, 12, 13, 15, 16, 17]) (n := 18) rfl (by decide)).symm ?_
  refine v_widen (a' := 200) (b' := 80000) C (Nat.le_of_ble_eq_true rfl) (Nat.le_of_ble_eq_true rfl) ?_
  exact hH zX11 zX12 t0 sX12 t1 t2 t3 t4 t5 t6 t7 t8 t9 t10 t11 t12 t13 t14 C hLW hend
