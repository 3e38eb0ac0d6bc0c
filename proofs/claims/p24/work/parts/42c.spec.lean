/-! THE ROUND: what it is. A list of jobs that can be done; of all such lists the one with the most weight, then the earliest back, then the first. -/
def zFL (jb : Nat → Prop) (op : Nat → Nat → Prop) (wy : Option Nat → Nat → Nat) (wh : Option Nat → Nat) (mn ld : Nat → Nat) (bg lst car : Nat) (ms : List Nat) (t : Nat) : Prop := ms.Nodup ∧ (∀ m, m ∈ ms → jb m) ∧ lsum ld ms ≤ car ∧ ∃ u, orun op wy mn none bg ms = some u ∧ t = u + wh (olast none ms) ∧ t ≤ lst
def zSP (jb : Nat → Prop) (op : Nat → Nat → Prop) (wy : Option Nat → Nat → Nat) (wh : Option Nat → Nat) (mn ld wg : Nat → Nat) (bg lst car W B : Nat) (ms : List Nat) : Prop := zFL jb op wy wh mn ld bg lst car ms B ∧ lsum wg ms = W ∧ ∀ ms' t', zFL jb op wy wh mn ld bg lst car ms' t' → lsum wg ms' < W ∨ (lsum wg ms' = W ∧ (B < t' ∨ (B = t' ∧ zlx ms ms')))
theorem sp_uniq {jb : Nat → Prop} {op : Nat → Nat → Prop} {wy : Option Nat → Nat → Nat} {wh : Option Nat → Nat} {mn ld wg : Nat → Nat} {bg lst car W B W' B' : Nat} {ms ms' : List Nat} (h : zSP jb op wy wh mn ld wg bg lst car W B ms) (h' : zSP jb op wy wh mn ld wg bg lst car W' B' ms') : W = W' ∧ B = B' ∧ ms = ms' := by
  obtain ⟨a1, a2, a3⟩ := h
  obtain ⟨b1, b2, b3⟩ := h'
  have c1 := a3 ms' B' b1
  have c2 := b3 ms B a1
  rw [b2] at c1
  rw [a2] at c2
  rcases c1 with c1 | ⟨c1, d1⟩ <;> rcases c2 with c2 | ⟨c2, d2⟩
  · omega
  · omega
  · omega
  · rcases d1 with d1 | ⟨d1, e1⟩ <;> rcases d2 with d2 | ⟨d2, e2⟩
    · omega
    · omega
    · omega
    · exact ⟨c2, d1, lx_anti _ _ e1 e2⟩
/-- what the class has found is the round of its jobs -/
theorem sp_class {op : Nat → Nat → Prop} {wy : Option Nat → Nat → Nat} {wh : Option Nat → Nat} {mn ld wg : Nat → Nat} {bg lst car cc W B : Nat} {b : Nat → Nat} {O : List Nat} (hl : lst ≤ 1440) (hb : ∀ S, S < 2 ^ cc → leastN (zPB op wy wh mn (fun S => zsm ld S cc ≤ car) bg lst S) (b S)) (hc : zCB (fun S => zsm wg S cc) b (2 ^ cc) W B) (ho : zCO op wy wh mn B bg (fun S => b S = B ∧ zsm wg S cc = W) (2 ^ cc) (some O)) : zSP (fun c => c < cc) op wy wh mn ld wg bg lst car W B O := by
  obtain ⟨⟨S0, s1, s2, s3, s4⟩, hc2⟩ := hc
  have hBl : B ≤ lst := by
    rcases (hb S0 s1).1 with q | ⟨⟨-, ms, u, -, -, -, q⟩, -⟩
    · omega
    · omega
  rcases ho with ⟨q, -⟩ | ⟨O', S, q, h1, ⟨h2, h3⟩, ⟨h4, u, h5, h6⟩, h7⟩
  · cases q
  · cases q
    have hLS : zsm ld S cc ≤ car := by
      rcases (hb S h1).1 with q | ⟨⟨q, -⟩, -⟩
      · omega
      · exact q
    have hmin := (hb S h1).2 (u + wh (olast none O)) ⟨hLS, O, u, h4, h5, rfl, by omega⟩
    refine ⟨⟨(isP_mem O h4).1, fun m hm => xb_m h1 (((isP_mem O h4).2 m).mp hm), by rw [← sm_list O h4 h1]; exact hLS, u, h5, by omega, hBl⟩, by rw [← sm_list O h4 h1]; exact h3, ?_⟩
    rintro ms' t' ⟨g1, g2, g3, u', g4, g5, g6⟩
    have p1 := oset_P ms' g1
    have p2 := oset_lt ms' g2
    have p3 : zsm ld (oset ms') cc ≤ car := by rw [sm_list ms' p1 p2]; exact g3
    have p4 := (hb _ p2).2 t' ⟨p3, ms', u', p1, g4, g5, g6⟩
    have p5 := hc2 _ p2 (by omega)
    have p6 : zsm wg (oset ms') cc = lsum wg ms' := sm_list ms' p1 p2
    have p5 : zsm wg (oset ms') cc < W ∨ (zsm wg (oset ms') cc = W ∧ B ≤ b (oset ms')) := p5
    rw [p6] at p5
    rcases p5 with p5 | ⟨p5, p7⟩
    · exact Or.inl p5
    · refine Or.inr ⟨p5, ?_⟩
      rcases Nat.lt_or_ge B t' with q | q
      · exact Or.inl q
      · refine Or.inr ⟨by omega, h7 _ ms' p2 ⟨by omega, p6.trans p5⟩ ⟨p1, u', g4, by omega⟩⟩
section MAPS
variable {op opc : Nat → Nat → Prop} {wy wyc : Option Nat → Nat → Nat} {wh whc : Option Nat → Nat} {mn mnc ld ldc wg wgc nm : Nat → Nat} {cc : Nat}
theorem bg_map {c t : Nat} (h : ∀ q, opc c q ↔ op (nm c) q) : bgF opc c t = bgF op (nm c) t := by
  refine bgP_uniq (bgF_P opc c t) ?_
  rcases bgF_P op (nm c) t with ⟨h1, h2⟩ | ⟨b, h1, h2, h3, h4, h5⟩
  · exact Or.inl ⟨h1, fun k a b q => h2 k a b ((h _).mp q)⟩
  · exact Or.inr ⟨b, h1, h2, h3, (h _).mpr h4, fun k a b q => h5 k a b ((h _).mp q)⟩
/-- the numbers of the jobs c < cc stand for those of the marks nm c -/
def zMap (op opc : Nat → Nat → Prop) (wy wyc : Option Nat → Nat → Nat) (wh whc : Option Nat → Nat) (mn mnc ld ldc wg wgc nm : Nat → Nat) (cc : Nat) : Prop := (∀ c, c < cc → (∀ q, q < 24 → (opc c q ↔ op (nm c) q)) ∧ mnc c = mn (nm c) ∧ ldc c = ld (nm c) ∧ wgc c = wg (nm c) ∧ wyc none c = wy none (nm c) ∧ whc (some c) = wh (some (nm c)) ∧ ∀ d, d < cc → wyc (some d) c = wy (some (nm d)) (nm c)) ∧ (∀ c d, c < d → d < cc → nm c < nm d) ∧ whc none = wh none
theorem bg_map2 {c t : Nat} (h : ∀ q, q < 24 → (opc c q ↔ op (nm c) q)) : bgF opc c t = bgF op (nm c) t := by
  refine bgP_uniq (bgF_P opc c t) ?_
  rcases bgF_P op (nm c) t with ⟨h1, h2⟩ | ⟨b, h1, h2, h3, h4, h5⟩
  · exact Or.inl ⟨h1, fun k a b q => h2 k a b ((h _ (by omega)).mp q)⟩
  · exact Or.inr ⟨b, h1, h2, h3, (h _ (by omega)).mpr h4, fun k a b' q => h5 k a b' ((h _ (by omega)).mp q)⟩
theorem run_map (h : zMap op opc wy wyc wh whc mn mnc ld ldc wg wgc nm cc) : ∀ (cs : List Nat) (o : Option Nat) (t : Nat), (∀ c, c ∈ cs → c < cc) → (∀ c, o = some c → c < cc) → orun opc wyc mnc o t cs = orun op wy mn (o.map nm) t (cs.map nm) ∧ obgs opc wyc mnc o t cs = obgs op wy mn (o.map nm) t (cs.map nm) := by
  intro cs
  induction cs with
  | nil => intro o t _ _; exact ⟨rfl, rfl⟩
  | cons c cs ih =>
    intro o t h1 h2
    have hc := h1 c List.mem_cons_self
    obtain ⟨a1, a2, -, -, a5, -, a7⟩ := h.1 c hc
    have ew : wyc o c = wy (o.map nm) (nm c) := by
      cases o with
      | none => exact a5
      | some d => exact a7 d (h2 d rfl)
    have eb := bg_map2 (t := t + wyc o c) a1
    rw [ew] at eb
    show orun opc wyc mnc o t (c :: cs) = orun op wy mn (o.map nm) t (nm c :: cs.map nm) ∧ obgs opc wyc mnc o t (c :: cs) = obgs op wy mn (o.map nm) t (nm c :: cs.map nm)
    have i := fun b => ih (some c) (b + mnc c) (fun c' q => h1 c' (List.mem_cons_of_mem _ q)) (fun c' q => by cases q; exact hc)
    cases hb : bgF op (nm c) (t + wy (o.map nm) (nm c)) with
    | none =>
      rw [hb] at eb
      refine ⟨by rw [orun_n hb, orun_n (by rw [ew]; exact eb)], ?_⟩
      show (match bgF opc c (t + wyc o c) with | none => [] | some b => b :: obgs opc wyc mnc (some c) (b + mnc c) cs) = (match bgF op (nm c) (t + wy (o.map nm) (nm c)) with | none => [] | some b => b :: obgs op wy mn (some (nm c)) (b + mn (nm c)) (cs.map nm))
      rw [ew, eb, hb]
    | some b =>
      rw [hb] at eb
      have e1 : bgF opc c (t + wyc o c) = some b := by rw [ew]; exact eb
      have i := i b
      rw [orun_c hb, orun_c e1, obgs_c hb, obgs_c e1, i.1, i.2, a2]
      exact ⟨rfl, rfl⟩
theorem last_map : ∀ (cs : List Nat) (o : Option Nat), olast (o.map nm) (cs.map nm) = (olast o cs).map nm := by
  intro cs
  induction cs with
  | nil => intro o; rfl
  | cons c cs ih => intro o; exact ih (some c)
theorem last_in : ∀ (cs : List Nat) (o : Option Nat), (∀ c, c ∈ cs → c < cc) → (∀ c, o = some c → c < cc) → ∀ c, olast o cs = some c → c < cc := by
  intro cs
  induction cs with
  | nil => intro o _ h c q; exact h c q
  | cons a cs ih => intro o h _ c q; exact ih (some a) (fun c' z => h c' (List.mem_cons_of_mem _ z)) (fun c' z => by cases z; exact h a List.mem_cons_self) c q
theorem sum_map {f fc : Nat → Nat} (h : ∀ c, c < cc → fc c = f (nm c)) : ∀ (cs : List Nat), (∀ c, c ∈ cs → c < cc) → lsum fc cs = lsum f (cs.map nm) := by
  intro cs
  induction cs with
  | nil => intro _; rfl
  | cons a cs ih =>
    intro q
    show fc a + lsum fc cs = f (nm a) + lsum f (cs.map nm)
    rw [h a (q a List.mem_cons_self), ih (fun c z => q c (List.mem_cons_of_mem _ z))]
theorem nm_inj (h : ∀ c d, c < d → d < cc → nm c < nm d) {c d : Nat} (hc : c < cc) (hd : d < cc) (e : nm c = nm d) : c = d := by
  rcases Nat.lt_trichotomy c d with q | q | q
  · have := h c d q hd; omega
  · exact q
  · have := h d c q hc; omega
theorem nd_map (h : ∀ c d, c < d → d < cc → nm c < nm d) : ∀ (cs : List Nat), (∀ c, c ∈ cs → c < cc) → (cs.Nodup ↔ (cs.map nm).Nodup) := by
  intro cs
  induction cs with
  | nil => intro _; exact Iff.rfl
  | cons a cs ih =>
    intro q
    show (a :: cs).Nodup ↔ (nm a :: cs.map nm).Nodup
    rw [List.nodup_cons, List.nodup_cons, ih (fun c z => q c (List.mem_cons_of_mem _ z))]
    refine and_congr_left (fun _ => not_congr ?_)
    rw [List.mem_map]
    exact ⟨fun z => ⟨a, z, rfl⟩, fun ⟨d, z1, z2⟩ => by rw [nm_inj h (q a List.mem_cons_self) (q d (List.mem_cons_of_mem _ z1)) z2.symm]; exact z1⟩
theorem lx_map (h : ∀ c d, c < d → d < cc → nm c < nm d) : ∀ (p q : List Nat), (∀ c, c ∈ p → c < cc) → (∀ c, c ∈ q → c < cc) → zlx p q → zlx (p.map nm) (q.map nm) := by
  intro p
  induction p with
  | nil => intro q _ _ _; exact lx_nil _
  | cons a p ih =>
    intro q h1 h2 h3
    cases q with
    | nil => exact False.elim h3
    | cons b q =>
      have h3 : a < b ∨ (a = b ∧ zlx p q) := h3
      show nm a < nm b ∨ (nm a = nm b ∧ zlx (p.map nm) (q.map nm))
      rcases h3 with h3 | ⟨h3, h4⟩
      · exact Or.inl (h a b h3 (h2 b List.mem_cons_self))
      · exact Or.inr ⟨by rw [h3], ih q (fun c z => h1 c (List.mem_cons_of_mem _ z)) (fun c z => h2 c (List.mem_cons_of_mem _ z)) h4⟩
theorem un_map {jb : Nat → Prop} (hj : ∀ m, jb m → ∃ c, c < cc ∧ nm c = m) : ∀ (ms : List Nat), (∀ m, m ∈ ms → jb m) → ∃ cs : List Nat, (∀ c, c ∈ cs → c < cc) ∧ cs.map nm = ms := by
  intro ms
  induction ms with
  | nil => intro _; exact ⟨[], fun c q => absurd q List.not_mem_nil, rfl⟩
  | cons a ms ih =>
    intro h
    obtain ⟨cs, h1, h2⟩ := ih (fun m q => h m (List.mem_cons_of_mem _ q))
    obtain ⟨c, h3, h4⟩ := hj a (h a List.mem_cons_self)
    refine ⟨c :: cs, fun d q => ?_, ?_⟩
    · rcases List.mem_cons.mp q with z | z
      · rw [z]; exact h3
      · exact h1 d z
    · show nm c :: cs.map nm = a :: ms
      rw [h2, h4]
theorem fl_map {jb : Nat → Prop} {bg lst car t : Nat} (h : zMap op opc wy wyc wh whc mn mnc ld ldc wg wgc nm cc) (hj : ∀ m, jb m ↔ ∃ c, c < cc ∧ nm c = m) {cs : List Nat} (hc : ∀ c, c ∈ cs → c < cc) : zFL (fun c => c < cc) opc wyc whc mnc ldc bg lst car cs t ↔ zFL jb op wy wh mn ld bg lst car (cs.map nm) t := by
  have e1 := run_map h cs none bg hc (fun c q => by cases q)
  have e2 := sum_map (fun c q => (h.1 c q).2.2.1) cs hc
  have e3 : whc (olast none cs) = wh (olast none (cs.map nm)) := by
    have q1 := last_map (nm := nm) cs none
    have q2 := last_in cs none hc (fun c q => by cases q)
    have q1 : olast none (cs.map nm) = (olast none cs).map nm := q1
    rw [q1]
    cases o : olast none cs with
    | none => exact h.2.2
    | some c => exact (h.1 c (q2 c o)).2.2.2.2.2.1
  have e4 := nd_map h.2.1 cs hc
  have e5 : orun opc wyc mnc none bg cs = orun op wy mn none bg (cs.map nm) := e1.1
  unfold zFL
  rw [e2, e3, e5, e4]
  refine and_congr_right (fun _ => and_congr_left (fun _ => ?_))
  exact ⟨fun _ m q => by obtain ⟨c, z1, z2⟩ := List.mem_map.mp q; exact (hj m).mpr ⟨c, hc c z1, z2⟩, fun _ => hc⟩
/-- the round of the class's jobs is the round of the marks -/
theorem sp_map {jb : Nat → Prop} {bg lst car W B : Nat} (h : zMap op opc wy wyc wh whc mn mnc ld ldc wg wgc nm cc) (hj : ∀ m, jb m ↔ ∃ c, c < cc ∧ nm c = m) {O : List Nat} (q : zSP (fun c => c < cc) opc wyc whc mnc ldc wgc bg lst car W B O) : zSP jb op wy wh mn ld wg bg lst car W B (O.map nm) := by
  obtain ⟨q1, q2, q3⟩ := q
  have hO : ∀ c, c ∈ O → c < cc := q1.2.1
  have es := fun cs hc => sum_map (fc := wgc) (f := wg) (fun c z => (h.1 c z).2.2.2.1) cs hc
  refine ⟨(fl_map h hj hO).mp q1, by rw [← es O hO]; exact q2, fun ms' t' g => ?_⟩
  obtain ⟨cs, h1, rfl⟩ := un_map (fun m z => (hj m).mp z) ms' g.2.1
  have := q3 cs t' ((fl_map h hj h1).mpr g)
  rw [es cs h1] at this
  rcases this with z | ⟨z1, z | ⟨z, z2⟩⟩
  · exact Or.inl z
  · exact Or.inr ⟨z1, Or.inl z⟩
  · exact Or.inr ⟨z1, Or.inr ⟨z, lx_map h.2.1 _ _ hO h1 z2⟩⟩
end MAPS
/-- the round stays if what it hangs on stays -/
theorem sp_same {jb jb' : Nat → Prop} {op op' : Nat → Nat → Prop} {wy wy' : Option Nat → Nat → Nat} {wh wh' : Option Nat → Nat} {mn mn' ld ld' wg wg' : Nat → Nat} {bg lst car W B : Nat} {ms : List Nat} (hj : ∀ m, jb m ↔ jb' m) (ho : ∀ m, jb m → (∀ q, q < 24 → (op m q ↔ op' m q)) ∧ mn m = mn' m ∧ ld m = ld' m ∧ wg m = wg' m ∧ wy none m = wy' none m ∧ wh (some m) = wh' (some m) ∧ ∀ d, jb d → wy (some d) m = wy' (some d) m) (hn : wh none = wh' none) (h : zSP jb op wy wh mn ld wg bg lst car W B ms) : zSP jb' op' wy' wh' mn' ld' wg' bg lst car W B ms := by
  have hr : ∀ (ms : List Nat) (o : Option Nat) (t : Nat), (∀ m, m ∈ ms → jb m) → (∀ m, o = some m → jb m) → orun op wy mn o t ms = orun op' wy' mn' o t ms := by
    intro ms
    induction ms with
    | nil => intro o t _ _; rfl
    | cons c ms ih =>
      intro o t h1 h2
      have hc := h1 c List.mem_cons_self
      obtain ⟨a1, a2, -, -, a5, -, a7⟩ := ho c hc
      have ew : wy o c = wy' o c := by
        cases o with
        | none => exact a5
        | some d => exact a7 d (h2 d rfl)
      have eb := bg_map2 (op := op') (opc := op) (nm := fun c => c) (c := c) (t := t + wy o c) a1
      have eb : bgF op c (t + wy o c) = bgF op' c (t + wy' o c) := by rw [ew] at eb ⊢; exact eb
      cases hb : bgF op' c (t + wy' o c) with
      | none => rw [hb] at eb; rw [orun_n hb, orun_n eb]
      | some b =>
        rw [hb] at eb
        rw [orun_c hb, orun_c eb, a2]
        exact ih (some c) _ (fun m q => h1 m (List.mem_cons_of_mem _ q)) (fun m q => by cases q; exact hc)
  have hl : ∀ (ms : List Nat) (o : Option Nat), (∀ m, m ∈ ms → jb m) → (∀ m, o = some m → jb m) → ∀ m, olast o ms = some m → jb m := by
    intro ms
    induction ms with
    | nil => intro o _ h c q; exact h c q
    | cons a cs ih => intro o h _ c q; exact ih (some a) (fun c' z => h c' (List.mem_cons_of_mem _ z)) (fun c' z => by cases z; exact h a List.mem_cons_self) c q
  have hs : ∀ (f f' : Nat → Nat), (∀ m, jb m → f m = f' m) → ∀ ms : List Nat, (∀ m, m ∈ ms → jb m) → lsum f ms = lsum f' ms := by
    intro f f' hf ms
    induction ms with
    | nil => intro _; rfl
    | cons a ms ih => intro q; show f a + lsum f ms = f' a + lsum f' ms; rw [hf a (q a List.mem_cons_self), ih (fun m z => q m (List.mem_cons_of_mem _ z))]
  have hf : ∀ (ms : List Nat) (t : Nat), (∀ m, m ∈ ms → jb m) → (zFL jb op wy wh mn ld bg lst car ms t ↔ zFL jb' op' wy' wh' mn' ld' bg lst car ms t) := by
    intro ms t hm
    have e1 := hr ms none bg hm (fun m q => by cases q)
    have e2 := hs ld ld' (fun m z => (ho m z).2.2.1) ms hm
    have e3 : wh (olast none ms) = wh' (olast none ms) := by
      have q2 := hl ms none hm (fun m q => by cases q)
      cases o : olast none ms with
      | none => exact hn
      | some c => exact (ho c (q2 c o)).2.2.2.2.2.1
    unfold zFL
    rw [e1, e2, e3]
    refine and_congr_right (fun _ => and_congr_left (fun _ => ?_))
    exact ⟨fun z m q => (hj m).mp (z m q), fun z m q => (hj m).mpr (z m q)⟩
  obtain ⟨q1, q2, q3⟩ := h
  refine ⟨(hf ms B q1.2.1).mp q1, by rw [← hs wg wg' (fun m z => (ho m z).2.2.2.1) ms q1.2.1]; exact q2, fun ms' t' g => ?_⟩
  have hm : ∀ m, m ∈ ms' → jb m := fun m z => (hj m).mpr (g.2.1 m z)
  rw [← hs wg wg' (fun m z => (ho m z).2.2.2.1) ms' hm]
  exact q3 ms' t' ((hf ms' t' hm).mpr g)
