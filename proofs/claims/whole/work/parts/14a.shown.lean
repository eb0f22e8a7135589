def nmS (A : Nat → Nat → Nat) (S : List Nat) (u : Nat) : List (Nat × Int32) := match S with
  | [] => []
  | n :: _ => spl A n u
def blk (S1 S2 : List Nat) : List (Nat × Int32) := match S1, S2 with
  | _ :: _, _ :: _ => [(32, -4)]
  | _, _ => []
def bsS (A : Nat → Nat → Nat) (u p yr : Nat) : List Nat := if bdA A u p yr = 0 then [] else stkA A p (bdA A u p yr - 1) u
/-- what is shown -/
def shwA (A : Nat → Nat → Nat) (p yr kn : Nat) : List (Nat × Int32) := nmS A (stkA A p (ldA A (min yr kn) p yr) (min yr kn)) (min yr kn) ++ (blk (stkA A p (ldA A (min yr kn) p yr) (min yr kn)) (bsS A (min yr kn) p yr) ++ nmS A (bsS A (min yr kn) p yr) (min yr kn))
theorem nmS_len {A : Nat → Nat → Nat} {c : Nat} (hw : Wf A c) (S : List Nat) (u : Nat) : (nmS A S u).length ≤ 36 := by
  cases S with
  | nil => exact Nat.zero_le _
  | cons n r => exact splL hw n u
theorem blk_len (S1 S2 : List Nat) : (blk S1 S2).length ≤ 1 := by
  cases S1 <;> cases S2 <;> simp [blk]
theorem shw_len {A : Nat → Nat → Nat} {c : Nat} (hw : Wf A c) (p yr kn : Nat) : (shwA A p yr kn).length ≤ 73 := by
  unfold shwA
  rw [List.length_append, List.length_append]
  have h1 := nmS_len hw (stkA A p (ldA A (min yr kn) p yr) (min yr kn)) (min yr kn)
  have h2 := nmS_len hw (bsS A (min yr kn) p yr) (min yr kn)
  have h3 := blk_len (stkA A p (ldA A (min yr kn) p yr) (min yr kn)) (bsS A (min yr kn) p yr)
  omega
theorem nmS_ok {A : Nat → Nat → Nat} {c : Nat} (hw : Wf A c) {S : List Nat} (hS : ∀ x ∈ S, x < A 52 0) (u : Nat) : okL (nmS A S u) := by
  cases S with
  | nil => intro x hx; exact absurd hx (List.not_mem_nil)
  | cons n r => exact splO hw (hS n List.mem_cons_self) u
theorem bsS_lt {A : Nat → Nat → Nat} {c : Nat} (hw : Wf A c) {u p yr : Nat} : ∀ x ∈ bsS A u p yr, x < A 52 0 := by
  intro x hx
  unfold bsS at hx
  split at hx
  · exact absurd hx (List.not_mem_nil)
  · exact stkA_lt hw hx
theorem shw_ok {A : Nat → Nat → Nat} {c : Nat} (hw : Wf A c) (p yr kn : Nat) : okL (shwA A p yr kn) := by
  intro x hx
  unfold shwA at hx
  rcases List.mem_append.mp hx with h | h
  · exact nmS_ok hw (fun x hx => stkA_lt hw hx) _ x h
  · rcases List.mem_append.mp h with h | h
    · generalize stkA A p (ldA A (min yr kn) p yr) (min yr kn) = S1 at h
      generalize bsS A (min yr kn) p yr = S2 at h
      cases S1 with
      | nil => exact absurd h (by simp [blk])
      | cons a r =>
        cases S2 with
        | nil => exact absurd h (by simp [blk])
        | cons b s =>
          have : x = (32, -4) := by simpa [blk] using h
          rw [this]; exact (by decide : 32 < 128)
    · exact nmS_ok hw (bsS_lt hw) _ x h
theorem N_show59 {vw st la sp ac bd row : Md} {A : Nat → Nat → Nat} {c u : Nat} {S1 S2 : List Nat} (hw : Wf A c) (hp : Nsc sp A) (hu : u < 400) (h1 : ∀ x ∈ S1, x < A 52 0) (h2 : ∀ x ∈ S2, x < A 52 0) {Q : Md → Md → Md → Md → Md → Md → Md → Prop} (hQ : ∀ row', RowIs row' (nmS A S1 u ++ (blk S1 S2 ++ nmS A S2 u)) → Q vw st la sp ac bd row') : qX10_show_59 Q vw st la sp ac bd row (nI u) (topI S1) (topI S2) := by
  have b2 : A 52 0 ≤ 80 := hw.1.2.2.1
  unfold qX10_show_59
  intro w hw1
  have r0 : RowIs w [] := RowIs_nil (by rw [hw1]; rfl)
  have k107 : ∀ row l, RowIs row l → l.length ≤ 37 → (∀ row', RowIs row' (l ++ nmS A S2 u) → Q vw st la sp ac bd row') → qX10_show_107 Q vw st la sp ac bd row (nI u) (topI S2) := by
    intro row l hr hl hk
    unfold qX10_show_107
    cases S2 with
    | nil => exact c_y rfl (hk row (by show RowIs row (l ++ []); rw [List.append_nil]; exact hr))
    | cons n r =>
      have hn := h2 n List.mem_cons_self
      exact c_n (nI_m1 (by omega)) (N_spellInto hw hp.1 hp.2 hn hu hr hl (fun row' _ h => hk row' h))
  have k86 : ∀ row l, RowIs row l → l.length ≤ 36 → (∀ row', RowIs row' (l ++ (blk S1 S2 ++ nmS A S2 u)) → Q vw st la sp ac bd row') → qX10_show_86 Q vw st la sp ac bd row (nI u) (topI S1) (topI S2) := by
    intro row l hr hl hk
    unfold qX10_show_86
    cases S1 with
    | nil => exact c_y rfl (k107 row l hr (by omega) (fun row' h => hk row' (by cases S2 <;> exact h)))
    | cons n r =>
      have hn := h1 n List.mem_cons_self
      refine c_n (nI_m1 (by omega)) ?_
      cases S2 with
      | nil => exact c_y rfl (k107 row l hr (by omega) (fun row' h => hk row' h))
      | cons n2 r2 =>
        have hn2 := h2 n2 List.mem_cons_self
        refine c_n (nI_m1 (by omega)) (N_add (a := 32) hr (by omega) (by omega) (fun row' _ h => k107 row' _ h (by rw [List.length_append]; show l.length + 1 ≤ 37; omega) (fun row'' h' => hk row'' ?_)))
        rw [List.append_assoc] at h'; exact h'
  cases S1 with
  | nil => exact c_y rfl (k86 w [] r0 (by simp) (fun row' h => hQ row' h))
  | cons n r =>
    have hn := h1 n List.mem_cons_self
    refine c_n (nI_m1 (by omega)) (N_spellInto hw hp.1 hp.2 hn hu r0 (by simp) (fun row' _ h => ?_))
    rw [List.nil_append] at h
    exact k86 row' _ h (splL hw n u) (fun row'' h' => hQ row'' h')
theorem N_show {vw st la sp ac bd row : Md} {A : Nat → Nat → Nat} {c p yr kn : Nat} (hw : Wf A c) (hl : Nla la A) (hp : Nsc sp A) (ha : Nac ac A) (hb : Nse bd A) (hpp : p < A 51 0) (hy : yr < 400) (hk : kn < 400) {Q : Md → Md → Md → Md → Md → Md → Md → Prop} (hQ : ∀ vw' row', RowIs row' (shwA A p yr kn) → Q vw' st la sp ac bd row') : qX10_show vw st la sp ac bd row (nI p) (nI yr) (nI kn) Q := by
  unfold qX10_show
  refine N_look hw hl ha hpp hy hk (fun vw' _ a4 a5 _ _ _ => ?_)
  rw [a4, a5, imin_nI (by omega) (by omega)]
  have hld := ldA_lt hw (u := min yr kn) (p := p) (yr := yr)
  have hbd := bdA_le (A := A) (u := min yr kn) (p := p) (yr := yr)
  have hu : min yr kn < 400 := by omega
  unfold shwA at hQ
  refine N_nameAt hw hb hpp hld hu ?_
  by_cases h0 : bdA A (min yr kn) p yr = 0
  · have e : bsS A (min yr kn) p yr = [] := by unfold bsS; rw [if_pos h0]
    rw [e] at hQ
    refine c_y' (by rw [h0]; rfl) (N_show59 (S2 := []) hw hp hu (fun x hx => stkA_lt hw hx) (fun x hx => absurd hx (List.not_mem_nil)) (fun row' h => hQ vw' row' h))
  · have e : bsS A (min yr kn) p yr = stkA A p (bdA A (min yr kn) p yr - 1) (min yr kn) := by unfold bsS; rw [if_neg h0]
    rw [e] at hQ
    rw [oI_pos (by omega)]
    refine c_n' (nI_m1 (by omega)) (N_nameAt hw hb hpp (by omega) hu ?_)
    exact N_show59 hw hp hu (fun x hx => stkA_lt hw hx) (fun x hx => stkA_lt hw hx) (fun row' h => hQ vw' row' h)
theorem M_shows59 {m : Md} {A : Nat → Nat → Nat} {c u : Nat} {S1 S2 : List Nat} (hw : Wf A c) (hm : MW (gA m 1) A) (hu : u < 400) (h1 : ∀ x ∈ S1, x < A 52 0) (h2 : ∀ x ∈ S2, x < A 52 0) {Q : Md → Prop} (hQ : ∀ m', Fr [(0, 21), (1, 19), (1, 20)] m m' → Laid m' (nmS A S1 u ++ (blk S1 S2 ++ nmS A S2 u)) → Q m') : qX12_shows_59 Q m (nI u) (topI S1) (topI S2) := by
  have b2 : A 52 0 ≤ 80 := hw.1.2.2.1
  unfold qX12_shows_59
  intro w hw1
  have fw : Fr [(0, 21), (1, 19), (1, 20)] m w := by rw [hw1]; exact Fr.sF 21 _ (by decide)
  have r0 : Laid w [] := Laid_nil (by rw [hw1]; rfl)
  have k100 : ∀ v l, Fr [(0, 21), (1, 19), (1, 20)] m v → Laid v l → l.length ≤ 37 → (∀ v', Fr [(0, 21), (1, 19), (1, 20)] m v' → Laid v' (l ++ nmS A S2 u) → Q v') → qX12_shows_100 Q v (nI u) (topI S2) := by
    intro v l fv hr hl hk
    unfold qX12_shows_100
    cases S2 with
    | nil => exact c_y rfl (hk v fv (by show Laid v (l ++ []); rw [List.append_nil]; exact hr))
    | cons n r =>
      have hn := h2 n List.mem_cons_self
      exact c_n (nI_m1 (by omega)) (M_spells hw (by rw [fv.2.1 1 (by decide)]; exact hm) hn hu hr hl (fun v' fv' h => hk v' (fv.tr fv') h))
  have k80 : ∀ v l, Fr [(0, 21), (1, 19), (1, 20)] m v → Laid v l → l.length ≤ 36 → (∀ v', Fr [(0, 21), (1, 19), (1, 20)] m v' → Laid v' (l ++ (blk S1 S2 ++ nmS A S2 u)) → Q v') → qX12_shows_80 Q v (nI u) (topI S1) (topI S2) := by
    intro v l fv hr hl hk
    unfold qX12_shows_80
    cases S1 with
    | nil => exact c_y rfl (k100 v l fv hr (by omega) (fun v' f' h => hk v' f' (by cases S2 <;> exact h)))
    | cons n r =>
      have hn := h1 n List.mem_cons_self
      refine c_n (nI_m1 (by omega)) ?_
      cases S2 with
      | nil => exact c_y rfl (k100 v l fv hr (by omega) (fun v' f' h => hk v' f' h))
      | cons n2 r2 =>
        have hn2 := h2 n2 List.mem_cons_self
        refine c_n (nI_m1 (by omega)) (M_lays (a := 32) hr (by omega) (fun v' f' h => k100 v' _ (fv.tr f') h (by rw [List.length_append]; show l.length + 1 ≤ 37; omega) (fun v'' f'' h' => hk v'' f'' ?_)))
        rw [List.append_assoc] at h'; exact h'
  cases S1 with
  | nil => exact c_y rfl (k80 w [] fw r0 (by simp) (fun v' f' h => hQ v' f' h))
  | cons n r =>
    have hn := h1 n List.mem_cons_self
    refine c_n (nI_m1 (by omega)) (M_spells hw (by rw [fw.2.1 1 (by decide)]; exact hm) hn hu r0 (by simp) (fun v' f' h => ?_))
    rw [List.nil_append] at h
    exact k80 v' _ (fw.tr f') h (splL hw n u) (fun v'' f'' h' => hQ v'' f'' h')
theorem M_shows {m : Md} {A : Nat → Nat → Nat} {c p yr kn : Nat} (hw : Wf A c) (hm : MW (gA m 1) A) (hpp : p < A 51 0) (hy : yr < 400) (hk : kn < 400) {Q : Md → Prop} (hQ : ∀ m', Fr [(1, 7), (1, 8), (1, 9), (1, 28), (0, 21), (1, 19), (1, 20)] m m' → Laid m' (shwA A p yr kn) → Q m') : qX12_shows m (nI p) (nI yr) (nI kn) Q := by
  have b1 : A 51 0 ≤ 40 := hw.1.2.1
  unfold qX12_shows
  rw [imin_nI (by omega) (by omega)]
  have hld := ldA_lt hw (u := min yr kn) (p := p) (yr := yr)
  have hbd := bdA_le (A := A) (u := min yr kn) (p := p) (yr := yr)
  have hu : min yr kn < 400 := by omega
  unfold shwA at hQ
  generalize min yr kn = u at *
  refine M_looks hw hm hu (fun m1 f1 d7 d8 d9 => ?_)
  have hm1 : MW (gA m1 1) A := by rw [f1.2.1 1 (by decide)]; exact hm
  have hk1 := MLk_of (p := p) hw (by omega) d7 d9
  refine M_firstOf hw hm1 hk1 (by omega) hu hy ?_
  refine M_settledOf (t := ldA A u p yr) hw hm1 hpp hld hu (fun m2 f2 => ?_)
  have hm2 : MW (gA m2 1) A := by rw [f2.2.1 1 (by decide)]; exact hm1
  have hk2 : MLk m2 A (parA A u) (livA A u p) p := ⟨fun j hj => by rw [f2.2.1 7 (by decide)]; exact hk1.1 j hj, hk1.2.1, fun t ht => by rw [f2.2.1 9 (by decide)]; exact hk1.2.2.1 t ht, hk1.2.2.2⟩
  refine M_besideOf hw hm2 hk2 (by omega) hu hy ?_
  rw [show bsA A (fcF (livA A u p) (ptF A (parA A u) p) yr) (livA A u p) (acA A u) = bdA A u p yr from rfl]
  have fa : Fr [(1, 7), (1, 8), (1, 9), (1, 28), (0, 21), (1, 19), (1, 20)] m m2 := (f1.mono (by decide)).tr (f2.mono (by decide))
  by_cases h0 : bdA A u p yr = 0
  · have e : bsS A u p yr = [] := by unfold bsS; rw [if_pos h0]
    rw [e] at hQ
    refine c_y' (by rw [h0]; rfl) (M_shows59 (S2 := []) hw hm2 hu (fun x hx => stkA_lt hw hx) (fun x hx => absurd hx (List.not_mem_nil)) (fun m' f' h => hQ m' (fa.tr (f'.mono (by decide))) h))
  · have e : bsS A u p yr = stkA A p (bdA A u p yr - 1) u := by unfold bsS; rw [if_neg h0]
    rw [e] at hQ
    rw [oI_pos (by omega)]
    refine c_n' (nI_m1 (by omega)) (M_settledOf hw hm2 hpp (by omega) hu (fun m3 f3 => ?_))
    exact M_shows59 hw (by rw [f3.2.1 1 (by decide)]; exact hm2) hu (fun x hx => stkA_lt hw hx) (fun x hx => stkA_lt hw hx) (fun m' f' h => hQ m' (fa.tr ((f3.mono (by decide)).tr (f'.mono (by decide)))) h)
theorem sim_shown {c : Nat} {nb m st la sp ac bd sg hd vw : Md} (hR : RW c m st la sp ac bd sg) (hH : RHand hd m) {x1 x2 x3 : Int32} {Q : Int32 → Md → Md → Md → Md → Md → Md → Md → Md → Int32 → Md → Prop} (hQ : ∀ r hd' vw' m', RHand hd' m' → Fr [(1, 7), (1, 8), (1, 9), (1, 28), (0, 21), (1, 19), (1, 20), (0, 24), (1, 22), (1, 23)] m m' → Q r nb st la sp ac bd hd' vw' r m') : qX11_shown nb st la sp ac bd hd vw x1 x2 x3 (fun r nb' st' la' sp' ac' bd' hd' vw' => qX12_shown m x1 x2 x3 (fun r' m' => Q r nb' st' la' sp' ac' bd' hd' vw' r' m')) := by
  obtain ⟨A, hm, hw, hs, hn⟩ := id hR
  have e1 : gA m 1 1 = nI (A 51 0) := hm.1.2.1
  have s1 : gF la 0 = nI (A 51 0) := hn.1.1.1
  have b1 : A 51 0 ≤ 40 := hw.1.2.1
  unfold qX11_shown qX12_shown
  rcases ix32 x1 (n := A 51 0) (by omega) with h | ⟨p, hp, rfl⟩
  · exact la_has0 s1 (by omega) h (b_0' (m_isPl0 e1 b1 h (b_0' (hQ _ _ _ _ hH Fr.rf))))
  refine la_has1 s1 (by omega) hp (b_1' ?_)
  rcases ix32 x2 (n := 400) (by omega) with h | ⟨y, hy, rfl⟩
  · exact q_yr0 h (b_0' (m_isPl1 e1 b1 hp (b_1' (m_yr0 h (b_0' (hQ _ _ _ _ hH Fr.rf))))))
  refine q_yr1 hy (b_1' ?_)
  rcases ix32 x3 (n := 400) (by omega) with h | ⟨z, hz, rfl⟩
  · exact q_yr0 h (b_0 (m_isPl1 e1 b1 hp (b_1' (m_yr1 hy (b_1' (m_yr0 h (b_0 (hQ _ _ _ _ hH Fr.rf))))))))
  refine q_yr1 hz (b_1 (N_show hw hn.1 hn.2.1 hn.2.2.1 hn.2.2.2.1.2 hp hy hz (fun vw' hd' hrow => ?_)))
  rw [hrow.1]
  have hl := shw_len hw p y z
  refine m_isPl1 e1 b1 hp (b_1' (m_yr1 hy (b_1' (m_yr1 hz (b_1 (M_shows hw hm hp hy hz (fun m' fm h => M_hand h hl (fun m'' fm' g hh => ?_))))))))
  exact hQ _ _ _ _ (RHand_of hl hrow g hh) ((fm.mono (by decide)).tr (fm'.mono (by decide)))
