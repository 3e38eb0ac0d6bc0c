def rwM (f : Nat → Int32) (a : Nat) : Nat → Int32 := fun k => f (8 * a + k)
theorem ai_one {z : Int32} {E P Q : Prop} (h : (z = 1 ∧ E ∧ P) ∨ (z = 0 ∧ Q)) (c : ¬ z = 0) : E ∧ P := by
  rcases h with q | q
  · exact q.2
  · exact absurd q.1 c
theorem ai_ge {z : Int32} {E : Prop} {P : Nat → Prop} {k s : Nat} (hk : s ≤ k) (h : (z = 1 ∧ E ∧ ∀ j, j < k → P j) ∨ (z = 0 ∧ ¬ (E ∧ ∀ j, j < s → P j))) : okI 1 0 (E ∧ ∀ j, j < s → P j) z := by
  rcases h with ⟨h1, h2, h3⟩ | ⟨h1, h2⟩
  · exact Or.inl ⟨h1, h2, fun j hj => h3 j (by omega)⟩
  · exact Or.inr ⟨h1, h2⟩
theorem ai_out {z : Int32} {E P Q : Prop} (h : (z = 1 ∧ E ∧ P) ∨ (z = 0 ∧ ¬ Q)) (c : z = 0) : okI 1 0 Q z := by
  rcases h with q | q
  · rw [c] at q; exact absurd q.1 (by decide)
  · exact Or.inr q
section AO
variable {z : Int32} {M : Nat → Prop} {t s : Nat}
theorem ao_1 (h : (z = 1 ∧ ∃ j, j < t ∧ j % 2 = 0 ∧ M j) ∨ (z = 0 ∧ ∀ j, j < t → j % 2 = 0 → ¬ M j)) (c : ¬ z = 0) : ((1 : Int32) = 1 ∧ ∃ j, j < t + 2 ∧ j % 2 = 0 ∧ M j) ∨ ((1 : Int32) = 0 ∧ ∀ j, j < t + 2 → j % 2 = 0 → ¬ M j) := by
  rcases h with ⟨-, j, h1, h2, h3⟩ | q
  · exact Or.inl ⟨rfl, j, by omega, h2, h3⟩
  · exact absurd q.1 c
theorem ao_2 {z5 : Int32} (he : t % 2 = 0) (h : okI 1 0 (M t) z5) (c : ¬ z5 = 0) : ((1 : Int32) = 1 ∧ ∃ j, j < t + 2 ∧ j % 2 = 0 ∧ M j) ∨ ((1 : Int32) = 0 ∧ ∀ j, j < t + 2 → j % 2 = 0 → ¬ M j) := by
  rcases h with q | q
  · exact Or.inl ⟨rfl, t, by omega, he, q.2⟩
  · exact absurd q.1 c
theorem ao_3 {z5 : Int32} (h : (z = 1 ∧ ∃ j, j < t ∧ j % 2 = 0 ∧ M j) ∨ (z = 0 ∧ ∀ j, j < t → j % 2 = 0 → ¬ M j)) (he : t % 2 = 0) (c : z = 0) (h5 : okI 1 0 (M t) z5) (c5 : z5 = 0) : ((0 : Int32) = 1 ∧ ∃ j, j < t + 2 ∧ j % 2 = 0 ∧ M j) ∨ ((0 : Int32) = 0 ∧ ∀ j, j < t + 2 → j % 2 = 0 → ¬ M j) := by
  rcases h with q | q
  · rw [c] at q; exact absurd q.1 (by decide)
  · rcases h5 with p | p
    · rw [c5] at p; exact absurd p.1 (by decide)
    · exact Or.inr ⟨rfl, ev_s q.2 he p.2⟩
theorem ao_ge (hk : s ≤ t) (hk2 : t ≤ s + 1) (he : t % 2 = 0) (h : (z = 1 ∧ ∃ j, j < t ∧ j % 2 = 0 ∧ M j) ∨ (z = 0 ∧ ∀ j, j < t → j % 2 = 0 → ¬ M j)) : okI 1 0 (∃ j, j < s ∧ j % 2 = 0 ∧ M j) z := by
  rcases h with ⟨h1, j, h2, h3, h4⟩ | ⟨h1, h2⟩
  · exact Or.inl ⟨h1, j, by omega, h3, h4⟩
  · exact Or.inr ⟨h1, fun ⟨j, q1, q2, q3⟩ => h2 j (by omega) q2 q3⟩
end AO
theorem cl_1 {z : Int32} {C : Nat → Prop} {k : Nat} (h : (z = 1 ∧ ∃ j, j < k ∧ C j) ∨ (z = 0 ∧ ∀ j, j < k → ¬ C j)) (c : ¬ z = 0) : ((1 : Int32) = 1 ∧ ∃ j, j < k + 1 ∧ C j) ∨ ((1 : Int32) = 0 ∧ ∀ j, j < k + 1 → ¬ C j) := by
  rcases h with ⟨-, j, h1, h2⟩ | q
  · exact Or.inl ⟨rfl, j, by omega, h2⟩
  · exact absurd q.1 c
theorem cl_3 {z : Int32} {C : Nat → Prop} {k : Nat} (h : (z = 1 ∧ ∃ j, j < k ∧ C j) ∨ (z = 0 ∧ ∀ j, j < k → ¬ C j)) (c : z = 0) (hn : ¬ C k) : ((0 : Int32) = 1 ∧ ∃ j, j < k + 1 ∧ C j) ∨ ((0 : Int32) = 0 ∧ ∀ j, j < k + 1 → ¬ C j) := by
  rcases h with q | q
  · rw [c] at q; exact absurd q.1 (by decide)
  · exact Or.inr ⟨rfl, lt_s q.2 hn⟩
theorem cl_ge {z : Int32} {C : Nat → Prop} {k n : Nat} (e : k = n) (h : (z = 1 ∧ ∃ j, j < k ∧ C j) ∨ (z = 0 ∧ ∀ j, j < k → ¬ C j)) : okI 1 0 (∃ j, j < n ∧ C j) z := by
  subst e
  rcases h with ⟨h1, h2⟩ | ⟨h1, h2⟩
  · exact Or.inl ⟨h1, h2⟩
  · exact Or.inr ⟨h1, fun ⟨j, q1, q2⟩ => h2 j q1 q2⟩
/-- mark k lies near mark m, with a rhythm alike: as the reference asks -/
def clM (x : Int32) (f2 f3 f13 f14 : Nat → Int32) (m k : Nat) : Prop := ¬ m = k ∧ ¬ x < nrM f2 f3 m k ∧ f13 m = f13 k ∧ alkC (f13 m).toNatClampNeg (rwM f14 m) (rwM f14 k)
theorem am_iff {a b sa : Nat} {f g : Nat → Int32} (e : g a = nI sa) (hs : sa < 2 ^ 31) : (∃ t, t < sa ∧ t % 2 = 0 ∧ (nI sa = g b ∧ ∀ k, k < sa → f ((8 * a) + ((t + k) % sa)) = f ((8 * b) + k))) ↔ (g a = g b ∧ alkC (g a).toNatClampNeg (rwM f a) (rwM f b)) := by
  rw [e, nI_clamp hs]
  constructor
  · rintro ⟨t, h1, h2, h3, h4⟩
    exact ⟨h3, t, h1, h2, fun k hk => by rw [Nat.add_comm k t]; exact h4 k hk⟩
  · rintro ⟨h3, t, h1, h2, h4⟩
    exact ⟨t, h1, h2, h3, fun k hk => by have := h4 k hk; rw [Nat.add_comm k t] at this; exact this⟩
set_option maxHeartbeats 4000000 in
set_option maxRecDepth 100000 in
/-- X9_isAlike: the loop at 41 -/
theorem lf_X9_alikeI {p : Program} {l : Launch} {e : Env} {s : State} {m : MethodId} {args : Array Value} {below : List Frame} {meth : Method} {c : Code} {Q : State → Prop} {D : va_G} {cI cJ cZ cM : Nat} {h0 : Nat} {n : Nat → Nat} {mi : Nat → Int32} {mq : Nat → Int32} {mav : Nat → Nat → Int32} {a_ : Nat} {b_ : Nat} {sa : Nat} {z3 : Int32} {t_ : Nat} {H : Heap} (hx : p.tables.exec = Jvm.exec) (hb : c.code = cX9_isAlike) (hml : c.maxLocals = 7) (hts : ∀ w ∈ wsX9_isAlike, w.before args s = true) (hown : s.vm.findClass RX9 = some m.cls) (hG : GK D cI cJ cZ cM s) (hP : va_P D vwCl [(h0, .inr (9, [.ref (n 0), .int (mi 1), .ref (n 2), .ref (n 3), .ref (n 4), .ref (n 5), .ref (n 6), .int (mi 7), .ref (n 8), .ref (n 9), .ref (n 10), .ref (n 11), .ref (n 12), .ref (n 13), .ref (n 14), .int (mi 15), .int (mi 16), .ref (n 17), .ref (n 18), .ref (n 19), .ref (n 20), .ref (n 21), .ref (n 22), .ref (n 23), .ref (n 24), .ref (n 25), .int (mi 26), .int (mi 27), .int (mi 28), .int (mi 29), .int (mi 30), .int (mi 31), .int (mi 32), .int (mi 33), .ref (n 34), .ref (n 35), .int (mq 36), .int (mq 37), .int (mq 38), .ref (n 39), .ref (n 40), .ref (n 41), .ref (n 42), .int (mq 43), .int (mq 44), .int (mq 45)])), (n 13, .inl (cI, 10, .inl (mav 13))), (n 14, .inl (cI, 80, .inl (mav 14)))] H) (ha_ : a_ < 10) (hb_ : b_ < 10) (hsa : sa ≤ 8) (e13 : (mav 13) a_ = nI sa) (ht_ : t_ < sa) :
    ∀ (k9 : Nat) (k_ : Nat) (z5 : Int32), (k_ ≤ sa) → ((z5 = 1 ∧ nI sa = (mav 13) b_ ∧ ∀ k, k < k_ → (mav 14) ((8 * a_) + ((t_ + k) % sa)) = (mav 14) ((8 * b_) + k)) ∨ (z5 = 0 ∧ ¬ (nI sa = (mav 13) b_ ∧ ∀ k, k < sa → (mav 14) ((8 * a_) + ((t_ + k) % sa)) = (mav 14) ((8 * b_) + k)))) → sa - k_ < k9 → ∀ (ls : Array Slot), lv_has ls 7 [(6, .int (nI k_)), (5, .int z5), (3, .int z3), (4, .int (nI t_)), (0, .ref h0), (1, .int (nI a_)), (2, .int (nI b_))] → (∀ (z5 : Int32) (ls : Array Slot), (okI 1 0 (nI sa = (mav 13) b_ ∧ ∀ k, k < sa → (mav 14) ((8 * a_) + ((t_ + k) % sa)) = (mav 14) ((8 * b_) + k)) z5) → lv_has ls 7 [(5, .int z5), (3, .int z3), (4, .int (nI t_)), (0, .ref h0), (1, .int (nI a_)), (2, .int (nI b_))] → W p l e (headSpec wsX9_isAlike ({ frames := 0, cells := 0, slots := 0, locals := 0 } : Room)).room s m args below meth c H [] 0 0 Q (F0 m 107 ls [])) → W p l e (headSpec wsX9_isAlike ({ frames := 0, cells := 0, slots := 0, locals := 0 } : Room)).room s m args below meth c H [] 0 0 Q (F0 m 41 ls []) := by
  have hK := hG.1
  have hN := hG.2
  intro k9
  induction k9 with
  | zero => intro k_ z5 hk hz5 hfu; exact absurd hfu (Nat.not_lt_zero _)
  | succ k9 ih =>
    intro k_ z5 hk hz5 hfu ls hl kk0
    rcases Nat.lt_or_ge k_ sa with hlt | hge
    · refine lv_iload hx hb dX9_isAlike_41 (lv_at hl 0 rfl) ?_
      refine lv_aload_n hx hb dX9_isAlike_43 rfl (lv_at hl 4 rfl) ?_
      refine va_get (D := D) (ci := 9) (v := .ref (n 13)) (C := RX9) (T := TX9) (N := 46) hx hb hts (fun _ h9 => List.mem_cons_of_mem _ (List.mem_append_right _ h9)) hown hK hP 0 rfl rfl 13 (by decide) (hts (.fieldLink RX9 44 "BuoyTenderModel" "steps" "[I") (by decide +kernel)) (fun _ h9 => h9) rfl dX9_isAlike_44 ?_
      refine lv_iload_n hx hb dX9_isAlike_47 rfl (lv_at hl 5 rfl) ?_
      refine va_iald hx hb hK hP 1 0 rfl rfl (vp_in_nI (by omega) (by decide)) dX9_isAlike_48 ?_
      refine lv_topi (fun z_1 ez_1 => ?_)
      obtain rfl : z_1 = (mav 13) a_ := ez_1.trans (congrArg (mav 13) (nI_clamp (by omega)))
      refine lv_topi (fun z_2 ez_2 => ?_)
      obtain rfl : z_2 = nI sa := ez_2.trans e13
      refine lv_icmp_ge (tgt := 107) hx hb dX9_isAlike_49 (by decide) (fun c_3 => absurd c_3 (nI_ge hlt (by omega))) (fun c_3 => ?_)
      refine lv_iload hx hb dX9_isAlike_52 (lv_at hl 1 rfl) ?_
      refine lv_if_eq (tgt := 107) hx hb dX9_isAlike_54 (by decide) (fun c_4 => ?_) (fun c_4 => ?_)
      · exact kk0 z5 _ (ai_out hz5 c_4) (lv_sub hl [1, 2, 3, 4, 5, 6] rfl)
      refine lv_aload_n hx hb dX9_isAlike_57 rfl (lv_at hl 4 rfl) ?_
      refine va_get (D := D) (ci := 9) (v := .ref (n 14)) (C := RX9) (T := TX9) (N := 46) hx hb hts (fun _ h9 => List.mem_cons_of_mem _ (List.mem_append_right _ h9)) hown hK hP 0 rfl rfl 14 (by decide) (hts (.fieldLink RX9 47 "BuoyTenderModel" "rhythm" "[I") (by decide +kernel)) (fun _ h9 => h9) rfl dX9_isAlike_58 ?_
      refine lv_bipush (v := 8) hx hb dX9_isAlike_61 (by decide) ?_
      refine lv_iload_n hx hb dX9_isAlike_63 rfl (lv_at hl 5 rfl) ?_
      refine lv_imul hx hb dX9_isAlike_64 ?_
      refine lv_topi (fun z_5 ez_5 => ?_)
      obtain rfl : z_5 = nI (8 * a_) := ez_5.trans (pk_mul 8 a_)
      refine lv_iload hx hb dX9_isAlike_65 (lv_at hl 3 rfl) ?_
      refine lv_iload hx hb dX9_isAlike_67 (lv_at hl 0 rfl) ?_
      refine lv_iadd hx hb dX9_isAlike_69 ?_
      refine lv_topi (fun z_6 ez_6 => ?_)
      obtain rfl : z_6 = nI (t_ + k_) := ez_6.trans (nI_add t_ k_)
      refine lv_aload_n hx hb dX9_isAlike_70 rfl (lv_at hl 4 rfl) ?_
      refine va_get (D := D) (ci := 9) (v := .ref (n 13)) (C := RX9) (T := TX9) (N := 46) hx hb hts (fun _ h9 => List.mem_cons_of_mem _ (List.mem_append_right _ h9)) hown hK hP 0 rfl rfl 13 (by decide) (hts (.fieldLink RX9 44 "BuoyTenderModel" "steps" "[I") (by decide +kernel)) (fun _ h9 => h9) rfl dX9_isAlike_71 ?_
      refine lv_iload_n hx hb dX9_isAlike_74 rfl (lv_at hl 5 rfl) ?_
      refine va_iald hx hb hK hP 1 0 rfl rfl (vp_in_nI (by omega) (by decide)) dX9_isAlike_75 ?_
      refine lv_topi (fun z_7 ez_7 => ?_)
      obtain rfl : z_7 = (mav 13) a_ := ez_7.trans (congrArg (mav 13) (nI_clamp (by omega)))
      refine lv_topi (fun z_8 ez_8 => ?_)
      obtain rfl : z_8 = nI sa := ez_8.trans e13
      refine lv_irem hx hb dX9_isAlike_76 (nI_nz9 (by omega) (by omega)) ?_
      refine lv_topi (fun z_9 ez_9 => ?_)
      obtain rfl : z_9 = nI ((t_ + k_) % sa) := ez_9.trans (pk_rem (by omega) (by omega) (by omega))
      have hmod9 : (t_ + k_) % sa < sa := Nat.mod_lt _ (by omega)
      refine lv_iadd hx hb dX9_isAlike_77 ?_
      refine lv_topi (fun z_10 ez_10 => ?_)
      obtain rfl : z_10 = nI ((8 * a_) + ((t_ + k_) % sa)) := ez_10.trans (nI_add (8 * a_) ((t_ + k_) % sa))
      refine va_iald hx hb hK hP 2 0 rfl rfl (vp_in_nI (by omega) (by decide)) dX9_isAlike_78 ?_
      refine lv_topi (fun z_11 ez_11 => ?_)
      obtain rfl : z_11 = (mav 14) ((8 * a_) + ((t_ + k_) % sa)) := ez_11.trans (congrArg (mav 14) (nI_clamp (by omega)))
      refine lv_aload_n hx hb dX9_isAlike_79 rfl (lv_at hl 4 rfl) ?_
      refine va_get (D := D) (ci := 9) (v := .ref (n 14)) (C := RX9) (T := TX9) (N := 46) hx hb hts (fun _ h9 => List.mem_cons_of_mem _ (List.mem_append_right _ h9)) hown hK hP 0 rfl rfl 14 (by decide) (hts (.fieldLink RX9 47 "BuoyTenderModel" "rhythm" "[I") (by decide +kernel)) (fun _ h9 => h9) rfl dX9_isAlike_80 ?_
      refine lv_bipush (v := 8) hx hb dX9_isAlike_83 (by decide) ?_
      refine lv_iload_n hx hb dX9_isAlike_85 rfl (lv_at hl 6 rfl) ?_
      refine lv_imul hx hb dX9_isAlike_86 ?_
      refine lv_topi (fun z_12 ez_12 => ?_)
      obtain rfl : z_12 = nI (8 * b_) := ez_12.trans (pk_mul 8 b_)
      refine lv_iload hx hb dX9_isAlike_87 (lv_at hl 0 rfl) ?_
      refine lv_iadd hx hb dX9_isAlike_89 ?_
      refine lv_topi (fun z_13 ez_13 => ?_)
      obtain rfl : z_13 = nI ((8 * b_) + k_) := ez_13.trans (nI_add (8 * b_) k_)
      refine va_iald hx hb hK hP 2 0 rfl rfl (vp_in_nI (by omega) (by decide)) dX9_isAlike_90 ?_
      refine lv_topi (fun z_14 ez_14 => ?_)
      obtain rfl : z_14 = (mav 14) ((8 * b_) + k_) := ez_14.trans (congrArg (mav 14) (nI_clamp (by omega)))
      refine lv_icmp_ne (tgt := 98) hx hb dX9_isAlike_91 (by decide) (fun c_15 => ?_) (fun c_15 => ?_)
      · refine lv_iconst (v := 0) hx hb dX9_isAlike_98 (by decide) ?_
        refine lv_istore (lv' := [(5, .int 0), (6, .int (nI k_)), (3, .int z3), (4, .int (nI t_)), (0, .ref h0), (1, .int (nI a_)), (2, .int (nI b_))]) hx hb dX9_isAlike_99 hl (by decide) rfl (fun ls hl => ?_)
        refine lv_iinc (v := nI (k_ + 1)) (lv' := [(6, .int (nI (k_ + 1))), (5, .int 0), (3, .int z3), (4, .int (nI t_)), (0, .ref h0), (1, .int (nI a_)), (2, .int (nI b_))]) hx hb dX9_isAlike_101 hl (k := 1) rfl (nI_add k_ 1) (by decide) rfl (fun ls hl => ?_)
        refine lv_goto (tgt := 41) hx hb dX9_isAlike_104 (by decide) ?_
        exact ih (k_ + 1) 0 (by omega) (Or.inr ⟨rfl, fun q => c_15 (q.2 k_ hlt)⟩) (by omega) _ (lv_sub hl [0, 1, 2, 3, 4, 5, 6] rfl) kk0
      refine lv_iconst (v := 1) hx hb dX9_isAlike_94 (by decide) ?_
      refine lv_goto (tgt := 99) hx hb dX9_isAlike_95 (by decide) ?_
      refine lv_istore (lv' := [(5, .int 1), (6, .int (nI k_)), (3, .int z3), (4, .int (nI t_)), (0, .ref h0), (1, .int (nI a_)), (2, .int (nI b_))]) hx hb dX9_isAlike_99 hl (by decide) rfl (fun ls hl => ?_)
      refine lv_iinc (v := nI (k_ + 1)) (lv' := [(6, .int (nI (k_ + 1))), (5, .int 1), (3, .int z3), (4, .int (nI t_)), (0, .ref h0), (1, .int (nI a_)), (2, .int (nI b_))]) hx hb dX9_isAlike_101 hl (k := 1) rfl (nI_add k_ 1) (by decide) rfl (fun ls hl => ?_)
      refine lv_goto (tgt := 41) hx hb dX9_isAlike_104 (by decide) ?_
      exact ih (k_ + 1) 1 (by omega) (Or.inl ⟨rfl, (ai_one hz5 c_4).1, lt_s (ai_one hz5 c_4).2 c_15⟩) (by omega) _ (lv_sub hl [0, 1, 2, 3, 4, 5, 6] rfl) kk0
    · refine lv_iload hx hb dX9_isAlike_41 (lv_at hl 0 rfl) ?_
      refine lv_aload_n hx hb dX9_isAlike_43 rfl (lv_at hl 4 rfl) ?_
      refine va_get (D := D) (ci := 9) (v := .ref (n 13)) (C := RX9) (T := TX9) (N := 46) hx hb hts (fun _ h9 => List.mem_cons_of_mem _ (List.mem_append_right _ h9)) hown hK hP 0 rfl rfl 13 (by decide) (hts (.fieldLink RX9 44 "BuoyTenderModel" "steps" "[I") (by decide +kernel)) (fun _ h9 => h9) rfl dX9_isAlike_44 ?_
      refine lv_iload_n hx hb dX9_isAlike_47 rfl (lv_at hl 5 rfl) ?_
      refine va_iald hx hb hK hP 1 0 rfl rfl (vp_in_nI (by omega) (by decide)) dX9_isAlike_48 ?_
      refine lv_topi (fun z_16 ez_16 => ?_)
      obtain rfl : z_16 = (mav 13) a_ := ez_16.trans (congrArg (mav 13) (nI_clamp (by omega)))
      refine lv_topi (fun z_17 ez_17 => ?_)
      obtain rfl : z_17 = nI sa := ez_17.trans e13
      refine lv_icmp_ge (tgt := 107) hx hb dX9_isAlike_49 (by decide) (fun c_18 => ?_) (fun c_18 => absurd (nI_le hge (by omega)) c_18)
      exact kk0 z5 _ (ai_ge (by omega) hz5) (lv_sub hl [1, 2, 3, 4, 5, 6] rfl)
set_option maxHeartbeats 4000000 in
set_option maxRecDepth 100000 in
/-- X9_isAlike: the loop at 5 -/
theorem lf_X9_alikeO {p : Program} {l : Launch} {e : Env} {s : State} {m : MethodId} {args : Array Value} {below : List Frame} {meth : Method} {c : Code} {Q : State → Prop} {D : va_G} {cI cJ cZ cM : Nat} {h0 : Nat} {n : Nat → Nat} {mi : Nat → Int32} {mq : Nat → Int32} {mav : Nat → Nat → Int32} {a_ : Nat} {b_ : Nat} {sa : Nat} {H : Heap} (hx : p.tables.exec = Jvm.exec) (hb : c.code = cX9_isAlike) (hml : c.maxLocals = 7) (hts : ∀ w ∈ wsX9_isAlike, w.before args s = true) (hown : s.vm.findClass RX9 = some m.cls) (hG : GK D cI cJ cZ cM s) (hP : va_P D vwCl [(h0, .inr (9, [.ref (n 0), .int (mi 1), .ref (n 2), .ref (n 3), .ref (n 4), .ref (n 5), .ref (n 6), .int (mi 7), .ref (n 8), .ref (n 9), .ref (n 10), .ref (n 11), .ref (n 12), .ref (n 13), .ref (n 14), .int (mi 15), .int (mi 16), .ref (n 17), .ref (n 18), .ref (n 19), .ref (n 20), .ref (n 21), .ref (n 22), .ref (n 23), .ref (n 24), .ref (n 25), .int (mi 26), .int (mi 27), .int (mi 28), .int (mi 29), .int (mi 30), .int (mi 31), .int (mi 32), .int (mi 33), .ref (n 34), .ref (n 35), .int (mq 36), .int (mq 37), .int (mq 38), .ref (n 39), .ref (n 40), .ref (n 41), .ref (n 42), .int (mq 43), .int (mq 44), .int (mq 45)])), (n 13, .inl (cI, 10, .inl (mav 13))), (n 14, .inl (cI, 80, .inl (mav 14)))] H) (ha_ : a_ < 10) (hb_ : b_ < 10) (hsa : sa ≤ 8) (e13 : (mav 13) a_ = nI sa) :
    ∀ (k9 : Nat) (t_ : Nat) (z3 : Int32), (t_ ≤ sa + 1) → (t_ % 2 = 0) → ((z3 = 1 ∧ ∃ t, t < t_ ∧ t % 2 = 0 ∧ (nI sa = (mav 13) b_ ∧ ∀ k, k < sa → (mav 14) ((8 * a_) + ((t + k) % sa)) = (mav 14) ((8 * b_) + k))) ∨ (z3 = 0 ∧ ∀ t, t < t_ → t % 2 = 0 → ¬ (nI sa = (mav 13) b_ ∧ ∀ k, k < sa → (mav 14) ((8 * a_) + ((t + k) % sa)) = (mav 14) ((8 * b_) + k)))) → sa - t_ < k9 → ∀ (ls : Array Slot), lv_has ls 7 [(4, .int (nI t_)), (3, .int z3), (0, .ref h0), (1, .int (nI a_)), (2, .int (nI b_))] → (∀ (z3 : Int32) (ls : Array Slot), (okI 1 0 (∃ t, t < sa ∧ t % 2 = 0 ∧ (nI sa = (mav 13) b_ ∧ ∀ k, k < sa → (mav 14) ((8 * a_) + ((t + k) % sa)) = (mav 14) ((8 * b_) + k))) z3) → lv_has ls 7 [(3, .int z3), (0, .ref h0), (1, .int (nI a_)), (2, .int (nI b_))] → W p l e (headSpec wsX9_isAlike ({ frames := 0, cells := 0, slots := 0, locals := 0 } : Room)).room s m args below meth c H [] 0 0 Q (F0 m 128 ls [])) → W p l e (headSpec wsX9_isAlike ({ frames := 0, cells := 0, slots := 0, locals := 0 } : Room)).room s m args below meth c H [] 0 0 Q (F0 m 5 ls []) := by
  have hK := hG.1
  have hN := hG.2
  intro k9
  induction k9 with
  | zero => intro t_ z3 ht_ hev hz3 hfu; exact absurd hfu (Nat.not_lt_zero _)
  | succ k9 ih =>
    intro t_ z3 ht_ hev hz3 hfu ls hl kk0
    rcases Nat.lt_or_ge t_ sa with hlt | hge
    · refine lv_iload hx hb dX9_isAlike_5 (lv_at hl 0 rfl) ?_
      refine lv_aload_n hx hb dX9_isAlike_7 rfl (lv_at hl 2 rfl) ?_
      refine va_get (D := D) (ci := 9) (v := .ref (n 13)) (C := RX9) (T := TX9) (N := 46) hx hb hts (fun _ h9 => List.mem_cons_of_mem _ (List.mem_append_right _ h9)) hown hK hP 0 rfl rfl 13 (by decide) (hts (.fieldLink RX9 44 "BuoyTenderModel" "steps" "[I") (by decide +kernel)) (fun _ h9 => h9) rfl dX9_isAlike_8 ?_
      refine lv_iload_n hx hb dX9_isAlike_11 rfl (lv_at hl 3 rfl) ?_
      refine va_iald hx hb hK hP 1 0 rfl rfl (vp_in_nI (by omega) (by decide)) dX9_isAlike_12 ?_
      refine lv_topi (fun z_1 ez_1 => ?_)
      obtain rfl : z_1 = (mav 13) a_ := ez_1.trans (congrArg (mav 13) (nI_clamp (by omega)))
      refine lv_topi (fun z_2 ez_2 => ?_)
      obtain rfl : z_2 = nI sa := ez_2.trans e13
      refine lv_icmp_ge (tgt := 128) hx hb dX9_isAlike_13 (by decide) (fun c_3 => absurd c_3 (nI_ge hlt (by omega))) (fun c_3 => ?_)
      refine lv_aload_n hx hb dX9_isAlike_16 rfl (lv_at hl 2 rfl) ?_
      refine va_get (D := D) (ci := 9) (v := .ref (n 13)) (C := RX9) (T := TX9) (N := 46) hx hb hts (fun _ h9 => List.mem_cons_of_mem _ (List.mem_append_right _ h9)) hown hK hP 0 rfl rfl 13 (by decide) (hts (.fieldLink RX9 44 "BuoyTenderModel" "steps" "[I") (by decide +kernel)) (fun _ h9 => h9) rfl dX9_isAlike_17 ?_
      refine lv_iload_n hx hb dX9_isAlike_20 rfl (lv_at hl 3 rfl) ?_
      refine va_iald hx hb hK hP 1 0 rfl rfl (vp_in_nI (by omega) (by decide)) dX9_isAlike_21 ?_
      refine lv_topi (fun z_4 ez_4 => ?_)
      obtain rfl : z_4 = (mav 13) a_ := ez_4.trans (congrArg (mav 13) (nI_clamp (by omega)))
      refine lv_topi (fun z_5 ez_5 => ?_)
      obtain rfl : z_5 = nI sa := ez_5.trans e13
      refine lv_aload_n hx hb dX9_isAlike_22 rfl (lv_at hl 2 rfl) ?_
      refine va_get (D := D) (ci := 9) (v := .ref (n 13)) (C := RX9) (T := TX9) (N := 46) hx hb hts (fun _ h9 => List.mem_cons_of_mem _ (List.mem_append_right _ h9)) hown hK hP 0 rfl rfl 13 (by decide) (hts (.fieldLink RX9 44 "BuoyTenderModel" "steps" "[I") (by decide +kernel)) (fun _ h9 => h9) rfl dX9_isAlike_23 ?_
      refine lv_iload_n hx hb dX9_isAlike_26 rfl (lv_at hl 4 rfl) ?_
      refine va_iald hx hb hK hP 1 0 rfl rfl (vp_in_nI (by omega) (by decide)) dX9_isAlike_27 ?_
      refine lv_topi (fun z_6 ez_6 => ?_)
      obtain rfl : z_6 = (mav 13) b_ := ez_6.trans (congrArg (mav 13) (nI_clamp (by omega)))
      refine lv_icmp_ne (tgt := 35) hx hb dX9_isAlike_28 (by decide) (fun c_7 => ?_) (fun c_7 => ?_)
      · refine lv_iconst (v := 0) hx hb dX9_isAlike_35 (by decide) ?_
        refine lv_istore (lv' := [(5, .int 0), (4, .int (nI t_)), (3, .int z3), (0, .ref h0), (1, .int (nI a_)), (2, .int (nI b_))]) hx hb dX9_isAlike_36 hl (by decide) rfl (fun ls hl => ?_)
        refine lv_iconst (v := 0) hx hb dX9_isAlike_38 (by decide) ?_
        refine lv_istore (lv' := [(6, .int 0), (5, .int 0), (4, .int (nI t_)), (3, .int z3), (0, .ref h0), (1, .int (nI a_)), (2, .int (nI b_))]) hx hb dX9_isAlike_39 hl (by decide) rfl (fun ls hl => ?_)
        have hPl := hP.sub (ws' := [(h0, .inr (9, [.ref (n 0), .int (mi 1), .ref (n 2), .ref (n 3), .ref (n 4), .ref (n 5), .ref (n 6), .int (mi 7), .ref (n 8), .ref (n 9), .ref (n 10), .ref (n 11), .ref (n 12), .ref (n 13), .ref (n 14), .int (mi 15), .int (mi 16), .ref (n 17), .ref (n 18), .ref (n 19), .ref (n 20), .ref (n 21), .ref (n 22), .ref (n 23), .ref (n 24), .ref (n 25), .int (mi 26), .int (mi 27), .int (mi 28), .int (mi 29), .int (mi 30), .int (mi 31), .int (mi 32), .int (mi 33), .ref (n 34), .ref (n 35), .int (mq 36), .int (mq 37), .int (mq 38), .ref (n 39), .ref (n 40), .ref (n 41), .ref (n 42), .int (mq 43), .int (mq 44), .int (mq 45)])), (n 13, .inl (cI, 10, .inl (mav 13))), (n 14, .inl (cI, 80, .inl (mav 14)))]) [0, 1, 2] rfl
        refine lf_X9_alikeI hx hb hml hts hown hG hPl ha_ hb_ hsa e13 hlt (sa + 1) 0 0 (Nat.zero_le _) (Or.inr ⟨rfl, fun q => c_7 q.1⟩) (by omega) _ (lv_sub hl [0, 1, 3, 2, 4, 5, 6] rfl) (fun z5_8 ls e_8_0 hl => ?_)
        refine lv_iload_n hx hb dX9_isAlike_107 rfl (lv_at hl 1 rfl) ?_
        refine lv_if_ne (tgt := 116) hx hb dX9_isAlike_108 (by decide) (fun c_9 => ?_) (fun c_9 => ?_)
        · refine lv_iconst (v := 1) hx hb dX9_isAlike_116 (by decide) ?_
          refine lv_goto (tgt := 121) hx hb dX9_isAlike_117 (by decide) ?_
          refine lv_istore_n (lv' := [(3, .int 1), (5, .int z5_8), (4, .int (nI t_)), (0, .ref h0), (1, .int (nI a_)), (2, .int (nI b_))]) hx hb dX9_isAlike_121 rfl hl (by decide) rfl (fun ls hl => ?_)
          refine lv_iinc (v := nI (t_ + 2)) (lv' := [(4, .int (nI (t_ + 2))), (3, .int 1), (5, .int z5_8), (0, .ref h0), (1, .int (nI a_)), (2, .int (nI b_))]) hx hb dX9_isAlike_122 hl (k := 2) rfl (nI_add t_ 2) (by decide) rfl (fun ls hl => ?_)
          refine lv_goto (tgt := 5) hx hb dX9_isAlike_125 (by decide) ?_
          exact ih (t_ + 2) 1 (by omega) (by omega) (ao_1 hz3 c_9) (by omega) _ (lv_sub hl [0, 1, 3, 4, 5] rfl) kk0
        refine lv_iload hx hb dX9_isAlike_111 (lv_at hl 0 rfl) ?_
        refine lv_if_eq (tgt := 120) hx hb dX9_isAlike_113 (by decide) (fun c_10 => ?_) (fun c_10 => ?_)
        · refine lv_iconst (v := 0) hx hb dX9_isAlike_120 (by decide) ?_
          refine lv_istore_n (lv' := [(3, .int 0), (5, .int z5_8), (4, .int (nI t_)), (0, .ref h0), (1, .int (nI a_)), (2, .int (nI b_))]) hx hb dX9_isAlike_121 rfl hl (by decide) rfl (fun ls hl => ?_)
          refine lv_iinc (v := nI (t_ + 2)) (lv' := [(4, .int (nI (t_ + 2))), (3, .int 0), (5, .int z5_8), (0, .ref h0), (1, .int (nI a_)), (2, .int (nI b_))]) hx hb dX9_isAlike_122 hl (k := 2) rfl (nI_add t_ 2) (by decide) rfl (fun ls hl => ?_)
          refine lv_goto (tgt := 5) hx hb dX9_isAlike_125 (by decide) ?_
          exact ih (t_ + 2) 0 (by omega) (by omega) (ao_3 hz3 hev c_9 e_8_0 c_10) (by omega) _ (lv_sub hl [0, 1, 3, 4, 5] rfl) kk0
        refine lv_iconst (v := 1) hx hb dX9_isAlike_116 (by decide) ?_
        refine lv_goto (tgt := 121) hx hb dX9_isAlike_117 (by decide) ?_
        refine lv_istore_n (lv' := [(3, .int 1), (5, .int z5_8), (4, .int (nI t_)), (0, .ref h0), (1, .int (nI a_)), (2, .int (nI b_))]) hx hb dX9_isAlike_121 rfl hl (by decide) rfl (fun ls hl => ?_)
        refine lv_iinc (v := nI (t_ + 2)) (lv' := [(4, .int (nI (t_ + 2))), (3, .int 1), (5, .int z5_8), (0, .ref h0), (1, .int (nI a_)), (2, .int (nI b_))]) hx hb dX9_isAlike_122 hl (k := 2) rfl (nI_add t_ 2) (by decide) rfl (fun ls hl => ?_)
        refine lv_goto (tgt := 5) hx hb dX9_isAlike_125 (by decide) ?_
        exact ih (t_ + 2) 1 (by omega) (by omega) (ao_2 hev e_8_0 c_10) (by omega) _ (lv_sub hl [0, 1, 3, 4, 5] rfl) kk0
      refine lv_iconst (v := 1) hx hb dX9_isAlike_31 (by decide) ?_
      refine lv_goto (tgt := 36) hx hb dX9_isAlike_32 (by decide) ?_
      refine lv_istore (lv' := [(5, .int 1), (4, .int (nI t_)), (3, .int z3), (0, .ref h0), (1, .int (nI a_)), (2, .int (nI b_))]) hx hb dX9_isAlike_36 hl (by decide) rfl (fun ls hl => ?_)
      refine lv_iconst (v := 0) hx hb dX9_isAlike_38 (by decide) ?_
      refine lv_istore (lv' := [(6, .int 0), (5, .int 1), (4, .int (nI t_)), (3, .int z3), (0, .ref h0), (1, .int (nI a_)), (2, .int (nI b_))]) hx hb dX9_isAlike_39 hl (by decide) rfl (fun ls hl => ?_)
      have hPl := hP.sub (ws' := [(h0, .inr (9, [.ref (n 0), .int (mi 1), .ref (n 2), .ref (n 3), .ref (n 4), .ref (n 5), .ref (n 6), .int (mi 7), .ref (n 8), .ref (n 9), .ref (n 10), .ref (n 11), .ref (n 12), .ref (n 13), .ref (n 14), .int (mi 15), .int (mi 16), .ref (n 17), .ref (n 18), .ref (n 19), .ref (n 20), .ref (n 21), .ref (n 22), .ref (n 23), .ref (n 24), .ref (n 25), .int (mi 26), .int (mi 27), .int (mi 28), .int (mi 29), .int (mi 30), .int (mi 31), .int (mi 32), .int (mi 33), .ref (n 34), .ref (n 35), .int (mq 36), .int (mq 37), .int (mq 38), .ref (n 39), .ref (n 40), .ref (n 41), .ref (n 42), .int (mq 43), .int (mq 44), .int (mq 45)])), (n 13, .inl (cI, 10, .inl (mav 13))), (n 14, .inl (cI, 80, .inl (mav 14)))]) [0, 1, 2] rfl
      refine lf_X9_alikeI hx hb hml hts hown hG hPl ha_ hb_ hsa e13 hlt (sa + 1) 0 1 (Nat.zero_le _) (Or.inl ⟨rfl, c_7, lt_0⟩) (by omega) _ (lv_sub hl [0, 1, 3, 2, 4, 5, 6] rfl) (fun z5_11 ls e_11_0 hl => ?_)
      refine lv_iload_n hx hb dX9_isAlike_107 rfl (lv_at hl 1 rfl) ?_
      refine lv_if_ne (tgt := 116) hx hb dX9_isAlike_108 (by decide) (fun c_12 => ?_) (fun c_12 => ?_)
      · refine lv_iconst (v := 1) hx hb dX9_isAlike_116 (by decide) ?_
        refine lv_goto (tgt := 121) hx hb dX9_isAlike_117 (by decide) ?_
        refine lv_istore_n (lv' := [(3, .int 1), (5, .int z5_11), (4, .int (nI t_)), (0, .ref h0), (1, .int (nI a_)), (2, .int (nI b_))]) hx hb dX9_isAlike_121 rfl hl (by decide) rfl (fun ls hl => ?_)
        refine lv_iinc (v := nI (t_ + 2)) (lv' := [(4, .int (nI (t_ + 2))), (3, .int 1), (5, .int z5_11), (0, .ref h0), (1, .int (nI a_)), (2, .int (nI b_))]) hx hb dX9_isAlike_122 hl (k := 2) rfl (nI_add t_ 2) (by decide) rfl (fun ls hl => ?_)
        refine lv_goto (tgt := 5) hx hb dX9_isAlike_125 (by decide) ?_
        exact ih (t_ + 2) 1 (by omega) (by omega) (ao_1 hz3 c_12) (by omega) _ (lv_sub hl [0, 1, 3, 4, 5] rfl) kk0
      refine lv_iload hx hb dX9_isAlike_111 (lv_at hl 0 rfl) ?_
      refine lv_if_eq (tgt := 120) hx hb dX9_isAlike_113 (by decide) (fun c_13 => ?_) (fun c_13 => ?_)
      · refine lv_iconst (v := 0) hx hb dX9_isAlike_120 (by decide) ?_
        refine lv_istore_n (lv' := [(3, .int 0), (5, .int z5_11), (4, .int (nI t_)), (0, .ref h0), (1, .int (nI a_)), (2, .int (nI b_))]) hx hb dX9_isAlike_121 rfl hl (by decide) rfl (fun ls hl => ?_)
        refine lv_iinc (v := nI (t_ + 2)) (lv' := [(4, .int (nI (t_ + 2))), (3, .int 0), (5, .int z5_11), (0, .ref h0), (1, .int (nI a_)), (2, .int (nI b_))]) hx hb dX9_isAlike_122 hl (k := 2) rfl (nI_add t_ 2) (by decide) rfl (fun ls hl => ?_)
        refine lv_goto (tgt := 5) hx hb dX9_isAlike_125 (by decide) ?_
        exact ih (t_ + 2) 0 (by omega) (by omega) (ao_3 hz3 hev c_12 e_11_0 c_13) (by omega) _ (lv_sub hl [0, 1, 3, 4, 5] rfl) kk0
      refine lv_iconst (v := 1) hx hb dX9_isAlike_116 (by decide) ?_
      refine lv_goto (tgt := 121) hx hb dX9_isAlike_117 (by decide) ?_
      refine lv_istore_n (lv' := [(3, .int 1), (5, .int z5_11), (4, .int (nI t_)), (0, .ref h0), (1, .int (nI a_)), (2, .int (nI b_))]) hx hb dX9_isAlike_121 rfl hl (by decide) rfl (fun ls hl => ?_)
      refine lv_iinc (v := nI (t_ + 2)) (lv' := [(4, .int (nI (t_ + 2))), (3, .int 1), (5, .int z5_11), (0, .ref h0), (1, .int (nI a_)), (2, .int (nI b_))]) hx hb dX9_isAlike_122 hl (k := 2) rfl (nI_add t_ 2) (by decide) rfl (fun ls hl => ?_)
      refine lv_goto (tgt := 5) hx hb dX9_isAlike_125 (by decide) ?_
      exact ih (t_ + 2) 1 (by omega) (by omega) (ao_2 hev e_11_0 c_13) (by omega) _ (lv_sub hl [0, 1, 3, 4, 5] rfl) kk0
    · refine lv_iload hx hb dX9_isAlike_5 (lv_at hl 0 rfl) ?_
      refine lv_aload_n hx hb dX9_isAlike_7 rfl (lv_at hl 2 rfl) ?_
      refine va_get (D := D) (ci := 9) (v := .ref (n 13)) (C := RX9) (T := TX9) (N := 46) hx hb hts (fun _ h9 => List.mem_cons_of_mem _ (List.mem_append_right _ h9)) hown hK hP 0 rfl rfl 13 (by decide) (hts (.fieldLink RX9 44 "BuoyTenderModel" "steps" "[I") (by decide +kernel)) (fun _ h9 => h9) rfl dX9_isAlike_8 ?_
      refine lv_iload_n hx hb dX9_isAlike_11 rfl (lv_at hl 3 rfl) ?_
      refine va_iald hx hb hK hP 1 0 rfl rfl (vp_in_nI (by omega) (by decide)) dX9_isAlike_12 ?_
      refine lv_topi (fun z_14 ez_14 => ?_)
      obtain rfl : z_14 = (mav 13) a_ := ez_14.trans (congrArg (mav 13) (nI_clamp (by omega)))
      refine lv_topi (fun z_15 ez_15 => ?_)
      obtain rfl : z_15 = nI sa := ez_15.trans e13
      refine lv_icmp_ge (tgt := 128) hx hb dX9_isAlike_13 (by decide) (fun c_16 => ?_) (fun c_16 => absurd (nI_le hge (by omega)) c_16)
      exact kk0 z3 _ (ao_ge (by omega) ht_ hev hz3) (lv_sub hl [1, 2, 3, 4] rfl)
set_option maxHeartbeats 4000000 in
set_option maxRecDepth 100000 in
/-- X9_isAlike -/
theorem kf_X9_isAlike (l : Launch) (D : va_G) (cI cJ cZ cM : Nat) (h0 : Nat) (n : Nat → Nat) (mi : Nat → Int32) (mq : Nat → Int32) (mav : Nat → Nat → Int32) (a_ : Nat) (b_ : Nat) (sa : Nat) (ha_ : a_ < 10) (hb_ : b_ < 10) (hsa : sa ≤ 8) (e13 : (mav 13) a_ = nI sa) : Met l yX9_isAlike wsX9_isAlike ({ frames := 0, cells := 0, slots := 0, locals := 0 } : Room) (RO D cI cJ cZ cM [.ref h0, .int (nI a_), .int (nI b_)] [(h0, .inr (9, [.ref (n 0), .int (mi 1), .ref (n 2), .ref (n 3), .ref (n 4), .ref (n 5), .ref (n 6), .int (mi 7), .ref (n 8), .ref (n 9), .ref (n 10), .ref (n 11), .ref (n 12), .ref (n 13), .ref (n 14), .int (mi 15), .int (mi 16), .ref (n 17), .ref (n 18), .ref (n 19), .ref (n 20), .ref (n 21), .ref (n 22), .ref (n 23), .ref (n 24), .ref (n 25), .int (mi 26), .int (mi 27), .int (mi 28), .int (mi 29), .int (mi 30), .int (mi 31), .int (mi 32), .int (mi 33), .ref (n 34), .ref (n 35), .int (mq 36), .int (mq 37), .int (mq 38), .ref (n 39), .ref (n 40), .ref (n 41), .ref (n 42), .int (mq 43), .int (mq 44), .int (mq 45)])), (n 13, .inl (cI, 10, .inl (mav 13))), (n 14, .inl (cI, 80, .inl (mav 14)))]) (vp_Si (fun r => okI 1 0 (mav 13 a_ = mav 13 b_ ∧ alkC (mav 13 a_).toNatClampNeg (rwM (mav 14) a_) (rwM (mav 14) b_)) r)) 0 0 (fun _ => False) := by
  refine Met.ofW (cc := cX9_isAlike) (maxL := 7) (ret := (some .boolean)) (by decide) rfl ?_
  intro p e s m args below meth c s₁ B hml hv
  obtain ⟨rfl, hG, hP⟩ := hv
  have hx := B.exec
  have hb := B.bytes
  have hr := B.returns
  have hts := atoms_spec (ws := wsX9_isAlike) B.pre
  have hown : s.vm.findClass RX9 = some m.cls := findClass_of_methodNamed B.named
  have hlocks := B.notSynchronized
  have hK := hG.1
  have hN := hG.2
  have hl := lv_entry ([.ref h0, .int (nI a_), .int (nI b_)]) (n := 7) (Nat.le_of_ble_eq_true rfl)
  rw [lg_entry_eq]
  generalize (lg_sl ([.ref h0, .int (nI a_), .int (nI b_)]) ++ List.replicate (7 - (lg_sl ([.ref h0, .int (nI a_), .int (nI b_)])).length) Slot.unset).toArray = ls at hl ⊢
  have hl : lv_has ls 7 [(0, .ref h0), (1, .int (nI a_)), (2, .int (nI b_))] := hl
  refine lv_iconst (v := 0) hx hb dX9_isAlike_0 (by decide) ?_
  refine lv_istore_n (lv' := [(3, .int 0), (0, .ref h0), (1, .int (nI a_)), (2, .int (nI b_))]) hx hb dX9_isAlike_1 rfl hl (by decide) rfl (fun ls hl => ?_)
  refine lv_iconst (v := 0) hx hb dX9_isAlike_2 (by decide) ?_
  refine lv_istore (lv' := [(4, .int 0), (3, .int 0), (0, .ref h0), (1, .int (nI a_)), (2, .int (nI b_))]) hx hb dX9_isAlike_3 hl (by decide) rfl (fun ls hl => ?_)
  have hPl := hP.sub (ws' := [(h0, .inr (9, [.ref (n 0), .int (mi 1), .ref (n 2), .ref (n 3), .ref (n 4), .ref (n 5), .ref (n 6), .int (mi 7), .ref (n 8), .ref (n 9), .ref (n 10), .ref (n 11), .ref (n 12), .ref (n 13), .ref (n 14), .int (mi 15), .int (mi 16), .ref (n 17), .ref (n 18), .ref (n 19), .ref (n 20), .ref (n 21), .ref (n 22), .ref (n 23), .ref (n 24), .ref (n 25), .int (mi 26), .int (mi 27), .int (mi 28), .int (mi 29), .int (mi 30), .int (mi 31), .int (mi 32), .int (mi 33), .ref (n 34), .ref (n 35), .int (mq 36), .int (mq 37), .int (mq 38), .ref (n 39), .ref (n 40), .ref (n 41), .ref (n 42), .int (mq 43), .int (mq 44), .int (mq 45)])), (n 13, .inl (cI, 10, .inl (mav 13))), (n 14, .inl (cI, 80, .inl (mav 14)))]) [0, 1, 2] rfl
  refine lf_X9_alikeO hx hb hml hts hown hG hPl ha_ hb_ hsa e13 (sa + 1) 0 0 (Nat.zero_le _) rfl (Or.inr ⟨rfl, lt_0⟩) (by omega) _ (lv_sub hl [0, 1, 2, 3, 4] rfl) (fun z3_1 ls e_1_0 hl => ?_)
  refine lv_iload_n hx hb dX9_isAlike_128 rfl (lv_at hl 0 rfl) ?_
  have hz9 := okI_iff (am_iff (a := a_) (b := b_) (f := mav 14) (g := mav 13) e13 (by omega)) e_1_0
  exact W.zret (v := z3_1) hx hb hr (by rcases hz9 with ⟨q, -⟩ | ⟨q, -⟩ <;> (rw [q]; rfl)) (fun t ht hW => ⟨z3_1, rfl, hz9, ht⟩) (fun _ h => by cases h) dX9_isAlike_129
set_option maxHeartbeats 4000000 in
set_option maxRecDepth 100000 in
/-- X9_clashes: the loop at 5 -/
theorem lf_X9_clashes {p : Program} {l : Launch} {e : Env} {s : State} {m : MethodId} {args : Array Value} {below : List Frame} {meth : Method} {c : Code} {Q : State → Prop} {D : va_G} {cI cJ cZ cM : Nat} {h0 : Nat} {n : Nat → Nat} {mi : Nat → Int32} {mq : Nat → Int32} {mav : Nat → Nat → Int32} {m_ : Nat} {x2 : Int32} {n0 : Nat} {sa : Nat} {H : Heap} (hx : p.tables.exec = Jvm.exec) (hb : c.code = cX9_clashes) (hml : c.maxLocals = 5) (hts : ∀ w ∈ wsX9_clashes, w.before args s = true) (hown : s.vm.findClass RX9 = some m.cls) (hG : GK D cI cJ cZ cM s) (hP : va_P D vwCl [(h0, .inr (9, [.ref (n 0), .int (mi 1), .ref (n 2), .ref (n 3), .ref (n 4), .ref (n 5), .ref (n 6), .int (mi 7), .ref (n 8), .ref (n 9), .ref (n 10), .ref (n 11), .ref (n 12), .ref (n 13), .ref (n 14), .int (mi 15), .int (mi 16), .ref (n 17), .ref (n 18), .ref (n 19), .ref (n 20), .ref (n 21), .ref (n 22), .ref (n 23), .ref (n 24), .ref (n 25), .int (mi 26), .int (mi 27), .int (mi 28), .int (mi 29), .int (mi 30), .int (mi 31), .int (mi 32), .int (mi 33), .ref (n 34), .ref (n 35), .int (mq 36), .int (mq 37), .int (mq 38), .ref (n 39), .ref (n 40), .ref (n 41), .ref (n 42), .int (mq 43), .int (mq 44), .int (mq 45)])), (n 2, .inl (cI, 10, .inl (mav 2))), (n 3, .inl (cI, 10, .inl (mav 3))), (n 13, .inl (cI, 10, .inl (mav 13))), (n 14, .inl (cI, 80, .inl (mav 14)))] H) (h_n : mi 1 = nI n0) (hn0 : n0 ≤ 10) (hm_ : m_ < 10) (hsa : sa ≤ 8) (e13 : (mav 13) m_ = nI sa) :
    ∀ (k9 : Nat) (k_ : Nat) (z3 : Int32), (k_ ≤ n0) → ((z3 = 1 ∧ ∃ k, k < k_ ∧ clM x2 (mav 2) (mav 3) (mav 13) (mav 14) m_ k) ∨ (z3 = 0 ∧ ∀ k, k < k_ → ¬ clM x2 (mav 2) (mav 3) (mav 13) (mav 14) m_ k)) → n0 - k_ < k9 → ∀ (ls : Array Slot), lv_has ls 5 [(4, .int (nI k_)), (3, .int z3), (0, .ref h0), (1, .int (nI m_)), (2, .int x2)] → (∀ (z3 : Int32) (ls : Array Slot), (okI 1 0 (∃ k, k < n0 ∧ clM x2 (mav 2) (mav 3) (mav 13) (mav 14) m_ k) z3) → lv_has ls 5 [(3, .int z3), (0, .ref h0), (1, .int (nI m_)), (2, .int x2)] → W p l e (headSpec wsX9_clashes ({ frames := 2, cells := 0, slots := 0, locals := 44 } : Room)).room s m args below meth c H [] 0 0 Q (F0 m 51 ls [])) → W p l e (headSpec wsX9_clashes ({ frames := 2, cells := 0, slots := 0, locals := 44 } : Room)).room s m args below meth c H [] 0 0 Q (F0 m 5 ls []) := by
  have hK := hG.1
  have hN := hG.2
  intro k9
  induction k9 with
  | zero => intro k_ z3 hk hz3 hfu; exact absurd hfu (Nat.not_lt_zero _)
  | succ k9 ih =>
    intro k_ z3 hk hz3 hfu ls hl kk0
    rcases Nat.lt_or_ge k_ n0 with hlt | hge
    · refine lv_iload hx hb dX9_clashes_5 (lv_at hl 0 rfl) ?_
      refine lv_aload_n hx hb dX9_clashes_7 rfl (lv_at hl 2 rfl) ?_
      refine va_get (D := D) (ci := 9) (v := .int (mi 1)) (C := RX9) (T := TX9) (N := 46) hx hb hts (fun _ h9 => List.mem_cons_of_mem _ (List.mem_append_right _ h9)) hown hK hP 0 rfl rfl 1 (by decide) (hts (.fieldLink RX9 109 "BuoyTenderModel" "marks" "I") (by decide +kernel)) (fun _ h9 => h9) rfl dX9_clashes_8 ?_
      refine lv_topi (fun z_1 ez_1 => ?_)
      obtain rfl : z_1 = nI n0 := ez_1.trans h_n
      refine lv_icmp_ge (tgt := 51) hx hb dX9_clashes_11 (by decide) (fun c_2 => absurd c_2 (nI_ge hlt (by omega))) (fun c_2 => ?_)
      refine lv_iload_n hx hb dX9_clashes_14 rfl (lv_at hl 1 rfl) ?_
      refine lv_if_ne (tgt := 39) hx hb dX9_clashes_15 (by decide) (fun c_3 => ?_) (fun c_3 => ?_)
      · refine lv_iconst (v := 1) hx hb dX9_clashes_39 (by decide) ?_
        refine lv_goto (tgt := 44) hx hb dX9_clashes_40 (by decide) ?_
        refine lv_istore_n (lv' := [(3, .int 1), (4, .int (nI k_)), (0, .ref h0), (1, .int (nI m_)), (2, .int x2)]) hx hb dX9_clashes_44 rfl hl (by decide) rfl (fun ls hl => ?_)
        refine lv_iinc (v := nI (k_ + 1)) (lv' := [(4, .int (nI (k_ + 1))), (3, .int 1), (0, .ref h0), (1, .int (nI m_)), (2, .int x2)]) hx hb dX9_clashes_45 hl (k := 1) rfl (nI_add k_ 1) (by decide) rfl (fun ls hl => ?_)
        refine lv_goto (tgt := 5) hx hb dX9_clashes_48 (by decide) ?_
        exact ih (k_ + 1) 1 (by omega) (cl_1 hz3 c_3) (by omega) _ (lv_sub hl [0, 1, 2, 3, 4] rfl) kk0
      refine lv_aload_n hx hb dX9_clashes_18 rfl (lv_at hl 2 rfl) ?_
      refine lv_iload_n hx hb dX9_clashes_19 rfl (lv_at hl 3 rfl) ?_
      refine lv_iload hx hb dX9_clashes_20 (lv_at hl 0 rfl) ?_
      refine lv_iload_n hx hb dX9_clashes_22 rfl (lv_at hl 4 rfl) ?_
      have hPc := hP.sub (ws' := [(h0, .inr (9, [.ref (n 0), .int (mi 1), .ref (n 2), .ref (n 3), .ref (n 4), .ref (n 5), .ref (n 6), .int (mi 7), .ref (n 8), .ref (n 9), .ref (n 10), .ref (n 11), .ref (n 12), .ref (n 13), .ref (n 14), .int (mi 15), .int (mi 16), .ref (n 17), .ref (n 18), .ref (n 19), .ref (n 20), .ref (n 21), .ref (n 22), .ref (n 23), .ref (n 24), .ref (n 25), .int (mi 26), .int (mi 27), .int (mi 28), .int (mi 29), .int (mi 30), .int (mi 31), .int (mi 32), .int (mi 33), .ref (n 34), .ref (n 35), .int (mq 36), .int (mq 37), .int (mq 38), .ref (n 39), .ref (n 40), .ref (n 41), .ref (n 42), .int (mq 43), .int (mq 44), .int (mq 45)])), (n 2, .inl (cI, 10, .inl (mav 2))), (n 3, .inl (cI, 10, .inl (mav 3)))]) [0, 1, 2] rfl
      refine vp_callSi (va_Run.run (va_runV (As := [.int (nI m_), .int (nI k_), .int x2]) (rest := []) ⟨hx, hb, hml, hown, hts⟩ (k_X9_isNear l D cI cJ cZ cM h0 n mi mq mav m_ k_ (by omega) (by omega) x2) (cwV 3 hts gX9_clashes_X9_isNear rfl rfl rfl (by decide +kernel) ⟨Nat.le_of_ble_eq_true rfl, Nat.le_of_ble_eq_true rfl⟩) (ro_V hG hPc (va_recv hK hPc (ci := 9) (q0 := 0) rfl rfl)) rfl rfl hl.1 rfl (lv_room (Nat.le_of_ble_eq_true rfl)) dX9_clashes_23 ⟨Nat.le_of_ble_eq_true rfl, Nat.le_of_ble_eq_true rfl⟩)) (fun r_4 h_4 => ?_)
      rcases h_4 with ⟨rfl, h_4⟩ | ⟨rfl, h_4⟩
      · refine lv_if_eq (tgt := 43) hx hb dX9_clashes_26 (by decide) (fun c_5 => False.elim (by revert c_5; decide)) (fun _ => ?_)
        refine lv_aload_n hx hb dX9_clashes_29 rfl (lv_at hl 2 rfl) ?_
        refine lv_iload_n hx hb dX9_clashes_30 rfl (lv_at hl 3 rfl) ?_
        refine lv_iload hx hb dX9_clashes_31 (lv_at hl 0 rfl) ?_
        have hPc := hP.sub (ws' := [(h0, .inr (9, [.ref (n 0), .int (mi 1), .ref (n 2), .ref (n 3), .ref (n 4), .ref (n 5), .ref (n 6), .int (mi 7), .ref (n 8), .ref (n 9), .ref (n 10), .ref (n 11), .ref (n 12), .ref (n 13), .ref (n 14), .int (mi 15), .int (mi 16), .ref (n 17), .ref (n 18), .ref (n 19), .ref (n 20), .ref (n 21), .ref (n 22), .ref (n 23), .ref (n 24), .ref (n 25), .int (mi 26), .int (mi 27), .int (mi 28), .int (mi 29), .int (mi 30), .int (mi 31), .int (mi 32), .int (mi 33), .ref (n 34), .ref (n 35), .int (mq 36), .int (mq 37), .int (mq 38), .ref (n 39), .ref (n 40), .ref (n 41), .ref (n 42), .int (mq 43), .int (mq 44), .int (mq 45)])), (n 13, .inl (cI, 10, .inl (mav 13))), (n 14, .inl (cI, 80, .inl (mav 14)))]) [0, 3, 4] rfl
        refine vp_callSi (va_Run.run (va_runV (As := [.int (nI m_), .int (nI k_)]) (rest := []) ⟨hx, hb, hml, hown, hts⟩ (kf_X9_isAlike l D cI cJ cZ cM h0 n mi mq mav m_ k_ sa (by omega) (by omega) hsa e13) (cwV 2 hts gX9_clashes_X9_isAlike rfl rfl rfl (by decide +kernel) ⟨Nat.le_of_ble_eq_true rfl, Nat.le_of_ble_eq_true rfl⟩) (ro_V hG hPc (va_recv hK hPc (ci := 9) (q0 := 0) rfl rfl)) rfl rfl hl.1 rfl (lv_room (Nat.le_of_ble_eq_true rfl)) dX9_clashes_33 ⟨Nat.le_of_ble_eq_true rfl, Nat.le_of_ble_eq_true rfl⟩)) (fun r_6 h_6 => ?_)
        rcases h_6 with ⟨rfl, h_6⟩ | ⟨rfl, h_6⟩
        · refine lv_if_eq (tgt := 43) hx hb dX9_clashes_36 (by decide) (fun c_7 => False.elim (by revert c_7; decide)) (fun _ => ?_)
          refine lv_iconst (v := 1) hx hb dX9_clashes_39 (by decide) ?_
          refine lv_goto (tgt := 44) hx hb dX9_clashes_40 (by decide) ?_
          refine lv_istore_n (lv' := [(3, .int 1), (4, .int (nI k_)), (0, .ref h0), (1, .int (nI m_)), (2, .int x2)]) hx hb dX9_clashes_44 rfl hl (by decide) rfl (fun ls hl => ?_)
          refine lv_iinc (v := nI (k_ + 1)) (lv' := [(4, .int (nI (k_ + 1))), (3, .int 1), (0, .ref h0), (1, .int (nI m_)), (2, .int x2)]) hx hb dX9_clashes_45 hl (k := 1) rfl (nI_add k_ 1) (by decide) rfl (fun ls hl => ?_)
          refine lv_goto (tgt := 5) hx hb dX9_clashes_48 (by decide) ?_
          exact ih (k_ + 1) 1 (by omega) (Or.inl ⟨rfl, k_, by omega, fun q => h_4.1 (congrArg nI q), h_4.2, h_6⟩) (by omega) _ (lv_sub hl [0, 1, 2, 3, 4] rfl) kk0
        refine lv_if_eq (tgt := 43) hx hb dX9_clashes_36 (by decide) (fun _ => ?_) (fun c_8 => False.elim (by revert c_8; decide))
        refine lv_iconst (v := 0) hx hb dX9_clashes_43 (by decide) ?_
        refine lv_istore_n (lv' := [(3, .int 0), (4, .int (nI k_)), (0, .ref h0), (1, .int (nI m_)), (2, .int x2)]) hx hb dX9_clashes_44 rfl hl (by decide) rfl (fun ls hl => ?_)
        refine lv_iinc (v := nI (k_ + 1)) (lv' := [(4, .int (nI (k_ + 1))), (3, .int 0), (0, .ref h0), (1, .int (nI m_)), (2, .int x2)]) hx hb dX9_clashes_45 hl (k := 1) rfl (nI_add k_ 1) (by decide) rfl (fun ls hl => ?_)
        refine lv_goto (tgt := 5) hx hb dX9_clashes_48 (by decide) ?_
        exact ih (k_ + 1) 0 (by omega) (cl_3 hz3 c_3 (fun q => h_6 q.2.2)) (by omega) _ (lv_sub hl [0, 1, 2, 3, 4] rfl) kk0
      refine lv_if_eq (tgt := 43) hx hb dX9_clashes_26 (by decide) (fun _ => ?_) (fun c_9 => False.elim (by revert c_9; decide))
      refine lv_iconst (v := 0) hx hb dX9_clashes_43 (by decide) ?_
      refine lv_istore_n (lv' := [(3, .int 0), (4, .int (nI k_)), (0, .ref h0), (1, .int (nI m_)), (2, .int x2)]) hx hb dX9_clashes_44 rfl hl (by decide) rfl (fun ls hl => ?_)
      refine lv_iinc (v := nI (k_ + 1)) (lv' := [(4, .int (nI (k_ + 1))), (3, .int 0), (0, .ref h0), (1, .int (nI m_)), (2, .int x2)]) hx hb dX9_clashes_45 hl (k := 1) rfl (nI_add k_ 1) (by decide) rfl (fun ls hl => ?_)
      refine lv_goto (tgt := 5) hx hb dX9_clashes_48 (by decide) ?_
      exact ih (k_ + 1) 0 (by omega) (cl_3 hz3 c_3 (fun q => h_4 ⟨fun e => q.1 ((nI_inj9 (by omega) (by omega)).mp e), q.2.1⟩)) (by omega) _ (lv_sub hl [0, 1, 2, 3, 4] rfl) kk0
    · refine lv_iload hx hb dX9_clashes_5 (lv_at hl 0 rfl) ?_
      refine lv_aload_n hx hb dX9_clashes_7 rfl (lv_at hl 2 rfl) ?_
      refine va_get (D := D) (ci := 9) (v := .int (mi 1)) (C := RX9) (T := TX9) (N := 46) hx hb hts (fun _ h9 => List.mem_cons_of_mem _ (List.mem_append_right _ h9)) hown hK hP 0 rfl rfl 1 (by decide) (hts (.fieldLink RX9 109 "BuoyTenderModel" "marks" "I") (by decide +kernel)) (fun _ h9 => h9) rfl dX9_clashes_8 ?_
      refine lv_topi (fun z_10 ez_10 => ?_)
      obtain rfl : z_10 = nI n0 := ez_10.trans h_n
      refine lv_icmp_ge (tgt := 51) hx hb dX9_clashes_11 (by decide) (fun c_11 => ?_) (fun c_11 => absurd (nI_le hge (by omega)) c_11)
      exact kk0 z3 _ (cl_ge (by omega) hz3) (lv_sub hl [1, 2, 3, 4] rfl)
set_option maxHeartbeats 4000000 in
set_option maxRecDepth 100000 in
/-- X9_clashes -/
theorem kf_X9_clashes (l : Launch) (D : va_G) (cI cJ cZ cM : Nat) (h0 : Nat) (n : Nat → Nat) (mi : Nat → Int32) (mq : Nat → Int32) (mav : Nat → Nat → Int32) (n0 : Nat) (h_n : mi 1 = nI n0) (hn0 : n0 ≤ 10) (hst : ∀ i, i < 10 → ∃ q, q ≤ 8 ∧ mav 13 i = nI q) (m_ : Nat) (hm_ : m_ < 10) (x2 : Int32) : Met l yX9_clashes wsX9_clashes ({ frames := 2, cells := 0, slots := 0, locals := 44 } : Room) (RO D cI cJ cZ cM [.ref h0, .int (nI m_), .int x2] [(h0, .inr (9, [.ref (n 0), .int (mi 1), .ref (n 2), .ref (n 3), .ref (n 4), .ref (n 5), .ref (n 6), .int (mi 7), .ref (n 8), .ref (n 9), .ref (n 10), .ref (n 11), .ref (n 12), .ref (n 13), .ref (n 14), .int (mi 15), .int (mi 16), .ref (n 17), .ref (n 18), .ref (n 19), .ref (n 20), .ref (n 21), .ref (n 22), .ref (n 23), .ref (n 24), .ref (n 25), .int (mi 26), .int (mi 27), .int (mi 28), .int (mi 29), .int (mi 30), .int (mi 31), .int (mi 32), .int (mi 33), .ref (n 34), .ref (n 35), .int (mq 36), .int (mq 37), .int (mq 38), .ref (n 39), .ref (n 40), .ref (n 41), .ref (n 42), .int (mq 43), .int (mq 44), .int (mq 45)])), (n 2, .inl (cI, 10, .inl (mav 2))), (n 3, .inl (cI, 10, .inl (mav 3))), (n 13, .inl (cI, 10, .inl (mav 13))), (n 14, .inl (cI, 80, .inl (mav 14)))]) (vp_Si (fun r => okI 1 0 (∃ k, k < n0 ∧ clM x2 (mav 2) (mav 3) (mav 13) (mav 14) m_ k) r)) 0 0 (fun _ => False) := by
  refine Met.ofW (cc := cX9_clashes) (maxL := 5) (ret := (some .boolean)) (by decide) rfl ?_
  intro p e s m args below meth c s₁ B hml hv
  obtain ⟨rfl, hG, hP⟩ := hv
  have hx := B.exec
  have hb := B.bytes
  have hr := B.returns
  have hts := atoms_spec (ws := wsX9_clashes) B.pre
  have hown : s.vm.findClass RX9 = some m.cls := findClass_of_methodNamed B.named
  have hlocks := B.notSynchronized
  have hK := hG.1
  have hN := hG.2
  have hl := lv_entry ([.ref h0, .int (nI m_), .int x2]) (n := 5) (Nat.le_of_ble_eq_true rfl)
  rw [lg_entry_eq]
  generalize (lg_sl ([.ref h0, .int (nI m_), .int x2]) ++ List.replicate (5 - (lg_sl ([.ref h0, .int (nI m_), .int x2])).length) Slot.unset).toArray = ls at hl ⊢
  have hl : lv_has ls 5 [(0, .ref h0), (1, .int (nI m_)), (2, .int x2)] := hl
  obtain ⟨sa, hsa, e13⟩ := hst m_ hm_
  refine lv_iconst (v := 0) hx hb dX9_clashes_0 (by decide) ?_
  refine lv_istore_n (lv' := [(3, .int 0), (0, .ref h0), (1, .int (nI m_)), (2, .int x2)]) hx hb dX9_clashes_1 rfl hl (by decide) rfl (fun ls hl => ?_)
  refine lv_iconst (v := 0) hx hb dX9_clashes_2 (by decide) ?_
  refine lv_istore (lv' := [(4, .int 0), (3, .int 0), (0, .ref h0), (1, .int (nI m_)), (2, .int x2)]) hx hb dX9_clashes_3 hl (by decide) rfl (fun ls hl => ?_)
  have hPl := hP.sub (ws' := [(h0, .inr (9, [.ref (n 0), .int (mi 1), .ref (n 2), .ref (n 3), .ref (n 4), .ref (n 5), .ref (n 6), .int (mi 7), .ref (n 8), .ref (n 9), .ref (n 10), .ref (n 11), .ref (n 12), .ref (n 13), .ref (n 14), .int (mi 15), .int (mi 16), .ref (n 17), .ref (n 18), .ref (n 19), .ref (n 20), .ref (n 21), .ref (n 22), .ref (n 23), .ref (n 24), .ref (n 25), .int (mi 26), .int (mi 27), .int (mi 28), .int (mi 29), .int (mi 30), .int (mi 31), .int (mi 32), .int (mi 33), .ref (n 34), .ref (n 35), .int (mq 36), .int (mq 37), .int (mq 38), .ref (n 39), .ref (n 40), .ref (n 41), .ref (n 42), .int (mq 43), .int (mq 44), .int (mq 45)])), (n 2, .inl (cI, 10, .inl (mav 2))), (n 3, .inl (cI, 10, .inl (mav 3))), (n 13, .inl (cI, 10, .inl (mav 13))), (n 14, .inl (cI, 80, .inl (mav 14)))]) [0, 1, 2, 3, 4] rfl
  refine lf_X9_clashes hx hb hml hts hown hG hPl h_n hn0 hm_ hsa e13 (n0 + 1) 0 0 (Nat.zero_le _) (Or.inr ⟨rfl, lt_0⟩) (by omega) _ (lv_sub hl [0, 1, 2, 3, 4] rfl) (fun z3_1 ls e_1_0 hl => ?_)
  refine lv_iload_n hx hb dX9_clashes_51 rfl (lv_at hl 0 rfl) ?_
  exact W.zret (v := z3_1) hx hb hr (by rcases e_1_0 with ⟨q, -⟩ | ⟨q, -⟩ <;> (rw [q]; rfl)) (fun t ht hW => ⟨z3_1, rfl, e_1_0, ht⟩) (fun _ h => by cases h) dX9_clashes_52
set_option maxHeartbeats 4000000 in
set_option maxRecDepth 100000 in
/-- X9_near: the loop at 15 -/
theorem lf_X9_near {p : Program} {l : Launch} {e : Env} {s : State} {m : MethodId} {args : Array Value} {below : List Frame} {meth : Method} {c : Code} {Q : State → Prop} {D : va_G} {cI cJ cZ cM : Nat} {h0 : Nat} {n : Nat → Nat} {mi : Nat → Int32} {mq : Nat → Int32} {mav : Nat → Nat → Int32} {x1 : Int32} {n0 : Nat} {A : Nat → Prop} (hx : p.tables.exec = Jvm.exec) (hb : c.code = cX9_near) (hml : c.maxLocals = 3) (hts : ∀ w ∈ wsX9_near, w.before args s = true) (hown : s.vm.findClass RX9 = some m.cls) (hG : GK D cI cJ cZ cM s) (hA : ∀ q : Nat, s.heap.size ≤ q → A q) (h_n : mi 1 = nI n0) (hn0 : n0 ≤ 10) (hst : ∀ i, i < 10 → ∃ q, q ≤ 8 ∧ mav 13 i = nI q) :
    ∀ (k9 : Nat) (m_ : Nat), (m_ ≤ n0) → (∀ m, m < m_ → ¬ ∃ k, k < n0 ∧ clM x1 (mav 2) (mav 3) (mav 13) (mav 14) m k) → n0 - m_ < k9 → ∀ (H : Heap) (locs : List Loc) (ls : Array Slot), va_P D vwCl [(h0, .inr (9, [.ref (n 0), .int (mi 1), .ref (n 2), .ref (n 3), .ref (n 4), .ref (n 5), .ref (n 6), .int (mi 7), .ref (n 8), .ref (n 9), .ref (n 10), .ref (n 11), .ref (n 12), .ref (n 13), .ref (n 14), .int (mi 15), .int (mi 16), .ref (n 17), .ref (n 18), .ref (n 19), .ref (n 20), .ref (n 21), .ref (n 22), .ref (n 23), .ref (n 24), .ref (n 25), .int (mi 26), .int (mi 27), .int (mi 28), .int (mi 29), .int (mi 30), .int (mi 31), .int (mi 32), .int (mi 33), .ref (n 34), .ref (n 35), .int (mq 36), .int (mq 37), .int (mq 38), .ref (n 39), .ref (n 40), .ref (n 41), .ref (n 42), .int (mq 43), .int (mq 44), .int (mq 45)])), (n 2, .inl (cI, 10, .inl (mav 2))), (n 3, .inl (cI, 10, .inl (mav 3))), (n 13, .inl (cI, 10, .inl (mav 13))), (n 14, .inl (cI, 80, .inl (mav 14)))] H → va_D A [(h0, .inr (9, [.ref (n 0), .int (mi 1), .ref (n 2), .ref (n 3), .ref (n 4), .ref (n 5), .ref (n 6), .int (mi 7), .ref (n 8), .ref (n 9), .ref (n 10), .ref (n 11), .ref (n 12), .ref (n 13), .ref (n 14), .int (mi 15), .int (mi 16), .ref (n 17), .ref (n 18), .ref (n 19), .ref (n 20), .ref (n 21), .ref (n 22), .ref (n 23), .ref (n 24), .ref (n 25), .int (mi 26), .int (mi 27), .int (mi 28), .int (mi 29), .int (mi 30), .int (mi 31), .int (mi 32), .int (mi 33), .ref (n 34), .ref (n 35), .int (mq 36), .int (mq 37), .int (mq 38), .ref (n 39), .ref (n 40), .ref (n 41), .ref (n 42), .int (mq 43), .int (mq 44), .int (mq 45)])), (n 2, .inl (cI, 10, .inl (mav 2))), (n 3, .inl (cI, 10, .inl (mav 3))), (n 13, .inl (cI, 10, .inl (mav 13))), (n 14, .inl (cI, 80, .inl (mav 14)))] → va_S A s.heap H locs → lv_has ls 3 [(2, .int (nI m_)), (0, .ref h0), (1, .int x1)] → (∀  (H : Heap) (locs : List Loc) (ls : Array Slot), (∀ m, m < n0 → ¬ ∃ k, k < n0 ∧ clM x1 (mav 2) (mav 3) (mav 13) (mav 14) m k) → va_P D vwCl [(h0, .inr (9, [.ref (n 0), .int (mi 1), .ref (n 2), .ref (n 3), .ref (n 4), .ref (n 5), .ref (n 6), .int (mi 7), .ref (n 8), .ref (n 9), .ref (n 10), .ref (n 11), .ref (n 12), .ref (n 13), .ref (n 14), .int (mi 15), .int (mi 16), .ref (n 17), .ref (n 18), .ref (n 19), .ref (n 20), .ref (n 21), .ref (n 22), .ref (n 23), .ref (n 24), .ref (n 25), .int (mi 26), .int (mi 27), .int (mi 28), .int (mi 29), .int (mi 30), .int (mi 31), .int (mi 32), .int (mi 33), .ref (n 34), .ref (n 35), .int (mq 36), .int (mq 37), .int (mq 38), .ref (n 39), .ref (n 40), .ref (n 41), .ref (n 42), .int (mq 43), .int (mq 44), .int (mq 45)])), (n 2, .inl (cI, 10, .inl (mav 2))), (n 3, .inl (cI, 10, .inl (mav 3))), (n 13, .inl (cI, 10, .inl (mav 13))), (n 14, .inl (cI, 80, .inl (mav 14)))] H → va_D A [(h0, .inr (9, [.ref (n 0), .int (mi 1), .ref (n 2), .ref (n 3), .ref (n 4), .ref (n 5), .ref (n 6), .int (mi 7), .ref (n 8), .ref (n 9), .ref (n 10), .ref (n 11), .ref (n 12), .ref (n 13), .ref (n 14), .int (mi 15), .int (mi 16), .ref (n 17), .ref (n 18), .ref (n 19), .ref (n 20), .ref (n 21), .ref (n 22), .ref (n 23), .ref (n 24), .ref (n 25), .int (mi 26), .int (mi 27), .int (mi 28), .int (mi 29), .int (mi 30), .int (mi 31), .int (mi 32), .int (mi 33), .ref (n 34), .ref (n 35), .int (mq 36), .int (mq 37), .int (mq 38), .ref (n 39), .ref (n 40), .ref (n 41), .ref (n 42), .int (mq 43), .int (mq 44), .int (mq 45)])), (n 2, .inl (cI, 10, .inl (mav 2))), (n 3, .inl (cI, 10, .inl (mav 3))), (n 13, .inl (cI, 10, .inl (mav 13))), (n 14, .inl (cI, 80, .inl (mav 14)))] → va_S A s.heap H locs → lv_has ls 3 [(0, .ref h0), (1, .int x1)] → W p l e (headSpec wsX9_near ({ frames := 3, cells := 0, slots := 0, locals := 68 } : Room)).room s m args below meth c H locs 0 0 Q (F0 m 40 ls [])) → (∀  (H : Heap) (locs : List Loc) (ls : Array Slot), (∃ m, m < n0 ∧ ∃ k, k < n0 ∧ clM x1 (mav 2) (mav 3) (mav 13) (mav 14) m k) → va_P D vwCl [(h0, .inr (9, [.ref (n 0), .int (mi 1), .ref (n 2), .ref (n 3), .ref (n 4), .ref (n 5), .ref (n 6), .int (mi 7), .ref (n 8), .ref (n 9), .ref (n 10), .ref (n 11), .ref (n 12), .ref (n 13), .ref (n 14), .int (mi 15), .int (mi 16), .ref (n 17), .ref (n 18), .ref (n 19), .ref (n 20), .ref (n 21), .ref (n 22), .ref (n 23), .ref (n 24), .ref (n 25), .int (mi 26), .int (mi 27), .int (mi 28), .int (mi 29), .int (mi 30), .int (mi 31), .int (mi 32), .int (mi 33), .ref (n 34), .ref (n 35), .int (mq 36), .int (mq 37), .int (mq 38), .ref (n 39), .ref (n 40), .ref (n 41), .ref (n 42), .int (mq 43), .int (mq 44), .int (mq 45)])), (n 2, .inl (cI, 10, .inl (mav 2))), (n 3, .inl (cI, 10, .inl (mav 3))), (n 13, .inl (cI, 10, .inl (mav 13))), (n 14, .inl (cI, 80, .inl (mav 14)))] H → va_D A [(h0, .inr (9, [.ref (n 0), .int (mi 1), .ref (n 2), .ref (n 3), .ref (n 4), .ref (n 5), .ref (n 6), .int (mi 7), .ref (n 8), .ref (n 9), .ref (n 10), .ref (n 11), .ref (n 12), .ref (n 13), .ref (n 14), .int (mi 15), .int (mi 16), .ref (n 17), .ref (n 18), .ref (n 19), .ref (n 20), .ref (n 21), .ref (n 22), .ref (n 23), .ref (n 24), .ref (n 25), .int (mi 26), .int (mi 27), .int (mi 28), .int (mi 29), .int (mi 30), .int (mi 31), .int (mi 32), .int (mi 33), .ref (n 34), .ref (n 35), .int (mq 36), .int (mq 37), .int (mq 38), .ref (n 39), .ref (n 40), .ref (n 41), .ref (n 42), .int (mq 43), .int (mq 44), .int (mq 45)])), (n 2, .inl (cI, 10, .inl (mav 2))), (n 3, .inl (cI, 10, .inl (mav 3))), (n 13, .inl (cI, 10, .inl (mav 13))), (n 14, .inl (cI, 80, .inl (mav 14)))] → va_S A s.heap H locs → lv_has ls 3 [(0, .ref h0), (1, .int x1)] → W p l e (headSpec wsX9_near ({ frames := 3, cells := 0, slots := 0, locals := 68 } : Room)).room s m args below meth c H locs 0 0 Q (F0 m 32 ls [])) → W p l e (headSpec wsX9_near ({ frames := 3, cells := 0, slots := 0, locals := 68 } : Room)).room s m args below meth c H locs 0 0 Q (F0 m 15 ls []) := by
  have hK := hG.1
  have hN := hG.2
  intro k9
  induction k9 with
  | zero => intro m_ hk hno hfu; exact absurd hfu (Nat.not_lt_zero _)
  | succ k9 ih =>
    intro m_ hk hno hfu H locs ls hP hD hS hl kk0 kk1
    rcases Nat.lt_or_ge m_ n0 with hlt | hge
    · refine lv_iload_n hx hb dX9_near_15 rfl (lv_at hl 0 rfl) ?_
      refine lv_aload_n hx hb dX9_near_16 rfl (lv_at hl 1 rfl) ?_
      refine va_get (D := D) (ci := 9) (v := .int (mi 1)) (C := RX9) (T := TX9) (N := 46) hx hb hts (fun _ h9 => List.mem_cons_of_mem _ (List.mem_append_right _ h9)) hown hK hP 0 rfl rfl 1 (by decide) (hts (.fieldLink RX9 109 "BuoyTenderModel" "marks" "I") (by decide +kernel)) (fun _ h9 => h9) rfl dX9_near_17 ?_
      refine lv_topi (fun z_1 ez_1 => ?_)
      obtain rfl : z_1 = nI n0 := ez_1.trans h_n
      refine lv_icmp_ge (tgt := 40) hx hb dX9_near_20 (by decide) (fun c_2 => absurd c_2 (nI_ge hlt (by omega))) (fun c_2 => ?_)
      refine lv_aload_n hx hb dX9_near_23 rfl (lv_at hl 1 rfl) ?_
      refine lv_iload_n hx hb dX9_near_24 rfl (lv_at hl 0 rfl) ?_
      refine lv_iload_n hx hb dX9_near_25 rfl (lv_at hl 2 rfl) ?_
      have hPc := hP.sub (ws' := [(h0, .inr (9, [.ref (n 0), .int (mi 1), .ref (n 2), .ref (n 3), .ref (n 4), .ref (n 5), .ref (n 6), .int (mi 7), .ref (n 8), .ref (n 9), .ref (n 10), .ref (n 11), .ref (n 12), .ref (n 13), .ref (n 14), .int (mi 15), .int (mi 16), .ref (n 17), .ref (n 18), .ref (n 19), .ref (n 20), .ref (n 21), .ref (n 22), .ref (n 23), .ref (n 24), .ref (n 25), .int (mi 26), .int (mi 27), .int (mi 28), .int (mi 29), .int (mi 30), .int (mi 31), .int (mi 32), .int (mi 33), .ref (n 34), .ref (n 35), .int (mq 36), .int (mq 37), .int (mq 38), .ref (n 39), .ref (n 40), .ref (n 41), .ref (n 42), .int (mq 43), .int (mq 44), .int (mq 45)])), (n 2, .inl (cI, 10, .inl (mav 2))), (n 3, .inl (cI, 10, .inl (mav 3))), (n 13, .inl (cI, 10, .inl (mav 13))), (n 14, .inl (cI, 80, .inl (mav 14)))]) [0, 1, 2, 3, 4] rfl
      refine vp_callSi (va_Run.run (va_runV (As := [.int (nI m_), .int x1]) (rest := []) ⟨hx, hb, hml, hown, hts⟩ (kf_X9_clashes l D cI cJ cZ cM h0 n mi mq mav n0 h_n hn0 hst m_ (by omega) x1) (cwV 2 hts gX9_near_X9_clashes rfl rfl rfl (by decide +kernel) ⟨Nat.le_of_ble_eq_true rfl, Nat.le_of_ble_eq_true rfl⟩) (ro_V hG hPc (va_recv hK hPc (ci := 9) (q0 := 0) rfl rfl)) rfl rfl hl.1 rfl (lv_room (Nat.le_of_ble_eq_true rfl)) dX9_near_26 ⟨Nat.le_of_ble_eq_true rfl, Nat.le_of_ble_eq_true rfl⟩)) (fun r_3 h_3 => ?_)
      rcases h_3 with ⟨rfl, h_3⟩ | ⟨rfl, h_3⟩
      · refine lv_if_eq (tgt := 34) hx hb dX9_near_29 (by decide) (fun c_4 => False.elim (by revert c_4; decide)) (fun _ => ?_)
        exact kk1  _ _ _ ⟨m_, hlt, h_3⟩ hP hD hS (lv_sub hl [1, 2] rfl)
      refine lv_if_eq (tgt := 34) hx hb dX9_near_29 (by decide) (fun _ => ?_) (fun c_5 => False.elim (by revert c_5; decide))
      refine lv_iinc (v := nI (m_ + 1)) (lv' := [(2, .int (nI (m_ + 1))), (0, .ref h0), (1, .int x1)]) hx hb dX9_near_34 hl (k := 0) rfl (nI_add m_ 1) (by decide) rfl (fun ls hl => ?_)
      refine lv_goto (tgt := 15) hx hb dX9_near_37 (by decide) ?_
      exact ih (m_ + 1) (by omega) (lt_s hno h_3) (by omega) _ _ _ hP hD hS (lv_sub hl [0, 1, 2] rfl) kk0 kk1
    · refine lv_iload_n hx hb dX9_near_15 rfl (lv_at hl 0 rfl) ?_
      refine lv_aload_n hx hb dX9_near_16 rfl (lv_at hl 1 rfl) ?_
      refine va_get (D := D) (ci := 9) (v := .int (mi 1)) (C := RX9) (T := TX9) (N := 46) hx hb hts (fun _ h9 => List.mem_cons_of_mem _ (List.mem_append_right _ h9)) hown hK hP 0 rfl rfl 1 (by decide) (hts (.fieldLink RX9 109 "BuoyTenderModel" "marks" "I") (by decide +kernel)) (fun _ h9 => h9) rfl dX9_near_17 ?_
      refine lv_topi (fun z_6 ez_6 => ?_)
      obtain rfl : z_6 = nI n0 := ez_6.trans h_n
      refine lv_icmp_ge (tgt := 40) hx hb dX9_near_20 (by decide) (fun c_7 => ?_) (fun c_7 => absurd (nI_le hge (by omega)) c_7)
      exact kk0  _ _ _ (fun m q => hno m (by omega)) hP hD hS (lv_sub hl [1, 2] rfl)
set_option maxHeartbeats 4000000 in
set_option maxRecDepth 100000 in
/-- X9_near -/
theorem kf_X9_near (l : Launch) (D : va_G) (cI cJ cZ cM : Nat) (h0 : Nat) (n : Nat → Nat) (mi : Nat → Int32) (mq : Nat → Int32) (mav : Nat → Nat → Int32) (n0 : Nat) (h_n : mi 1 = nI n0) (hn0 : n0 ≤ 10) (hst : ∀ i, i < 10 → ∃ q, q ≤ 8 ∧ mav 13 i = nI q) (x1 : Int32) (sz : Nat) : Met l yX9_near wsX9_near ({ frames := 3, cells := 0, slots := 0, locals := 68 } : Room) (RW D cI cJ cZ cM [.ref h0, .int x1] [(h0, .inr (9, [.ref (n 0), .int (mi 1), .ref (n 2), .ref (n 3), .ref (n 4), .ref (n 5), .ref (n 6), .int (mi 7), .ref (n 8), .ref (n 9), .ref (n 10), .ref (n 11), .ref (n 12), .ref (n 13), .ref (n 14), .int (mi 15), .int (mi 16), .ref (n 17), .ref (n 18), .ref (n 19), .ref (n 20), .ref (n 21), .ref (n 22), .ref (n 23), .ref (n 24), .ref (n 25), .int (mi 26), .int (mi 27), .int (mi 28), .int (mi 29), .int (mi 30), .int (mi 31), .int (mi 32), .int (mi 33), .ref (n 34), .ref (n 35), .int (mq 36), .int (mq 37), .int (mq 38), .ref (n 39), .ref (n 40), .ref (n 41), .ref (n 42), .int (mq 43), .int (mq 44), .int (mq 45)])), (n 2, .inl (cI, 10, .inl (mav 2))), (n 3, .inl (cI, 10, .inl (mav 3))), (n 13, .inl (cI, 10, .inl (mav 13))), (n 14, .inl (cI, 80, .inl (mav 14)))] sz) (va_Qi (S := Int32) (fun r u => (r = 1 ∧ ((0 ≤ x1 ∧ x1 ≤ 5000) ∧ ¬ ∃ m, m < n0 ∧ ∃ k, k < n0 ∧ clM x1 (mav 2) (mav 3) (mav 13) (mav 14) m k) ∧ u = x1) ∨ (r = 0 ∧ ¬ ((0 ≤ x1 ∧ x1 ≤ 5000) ∧ ¬ ∃ m, m < n0 ∧ ∃ k, k < n0 ∧ clM x1 (mav 2) (mav 3) (mav 13) (mav 14) m k) ∧ u = mi 15)) (BB D (fun u => [(h0, .inr (9, [.ref (n 0), .int (mi 1), .ref (n 2), .ref (n 3), .ref (n 4), .ref (n 5), .ref (n 6), .int (mi 7), .ref (n 8), .ref (n 9), .ref (n 10), .ref (n 11), .ref (n 12), .ref (n 13), .ref (n 14), .int u, .int (mi 16), .ref (n 17), .ref (n 18), .ref (n 19), .ref (n 20), .ref (n 21), .ref (n 22), .ref (n 23), .ref (n 24), .ref (n 25), .int (mi 26), .int (mi 27), .int (mi 28), .int (mi 29), .int (mi 30), .int (mi 31), .int (mi 32), .int (mi 33), .ref (n 34), .ref (n 35), .int (mq 36), .int (mq 37), .int (mq 38), .ref (n 39), .ref (n 40), .ref (n 41), .ref (n 42), .int (mq 43), .int (mq 44), .int (mq 45)])), (n 2, .inl (cI, 10, .inl (mav 2))), (n 3, .inl (cI, 10, .inl (mav 3))), (n 13, .inl (cI, 10, .inl (mav 13))), (n 14, .inl (cI, 80, .inl (mav 14)))]) (va_A [(h0, .inr (9, [.ref (n 0), .int (mi 1), .ref (n 2), .ref (n 3), .ref (n 4), .ref (n 5), .ref (n 6), .int (mi 7), .ref (n 8), .ref (n 9), .ref (n 10), .ref (n 11), .ref (n 12), .ref (n 13), .ref (n 14), .int (mi 15), .int (mi 16), .ref (n 17), .ref (n 18), .ref (n 19), .ref (n 20), .ref (n 21), .ref (n 22), .ref (n 23), .ref (n 24), .ref (n 25), .int (mi 26), .int (mi 27), .int (mi 28), .int (mi 29), .int (mi 30), .int (mi 31), .int (mi 32), .int (mi 33), .ref (n 34), .ref (n 35), .int (mq 36), .int (mq 37), .int (mq 38), .ref (n 39), .ref (n 40), .ref (n 41), .ref (n 42), .int (mq 43), .int (mq 44), .int (mq 45)])), (n 2, .inl (cI, 10, .inl (mav 2))), (n 3, .inl (cI, 10, .inl (mav 3))), (n 13, .inl (cI, 10, .inl (mav 13))), (n 14, .inl (cI, 80, .inl (mav 14)))] sz)) (va_A [(h0, .inr (9, [.ref (n 0), .int (mi 1), .ref (n 2), .ref (n 3), .ref (n 4), .ref (n 5), .ref (n 6), .int (mi 7), .ref (n 8), .ref (n 9), .ref (n 10), .ref (n 11), .ref (n 12), .ref (n 13), .ref (n 14), .int (mi 15), .int (mi 16), .ref (n 17), .ref (n 18), .ref (n 19), .ref (n 20), .ref (n 21), .ref (n 22), .ref (n 23), .ref (n 24), .ref (n 25), .int (mi 26), .int (mi 27), .int (mi 28), .int (mi 29), .int (mi 30), .int (mi 31), .int (mi 32), .int (mi 33), .ref (n 34), .ref (n 35), .int (mq 36), .int (mq 37), .int (mq 38), .ref (n 39), .ref (n 40), .ref (n 41), .ref (n 42), .int (mq 43), .int (mq 44), .int (mq 45)])), (n 2, .inl (cI, 10, .inl (mav 2))), (n 3, .inl (cI, 10, .inl (mav 3))), (n 13, .inl (cI, 10, .inl (mav 13))), (n 14, .inl (cI, 80, .inl (mav 14)))] sz)) 0 0 (va_A [(h0, .inr (9, [.ref (n 0), .int (mi 1), .ref (n 2), .ref (n 3), .ref (n 4), .ref (n 5), .ref (n 6), .int (mi 7), .ref (n 8), .ref (n 9), .ref (n 10), .ref (n 11), .ref (n 12), .ref (n 13), .ref (n 14), .int (mi 15), .int (mi 16), .ref (n 17), .ref (n 18), .ref (n 19), .ref (n 20), .ref (n 21), .ref (n 22), .ref (n 23), .ref (n 24), .ref (n 25), .int (mi 26), .int (mi 27), .int (mi 28), .int (mi 29), .int (mi 30), .int (mi 31), .int (mi 32), .int (mi 33), .ref (n 34), .ref (n 35), .int (mq 36), .int (mq 37), .int (mq 38), .ref (n 39), .ref (n 40), .ref (n 41), .ref (n 42), .int (mq 43), .int (mq 44), .int (mq 45)])), (n 2, .inl (cI, 10, .inl (mav 2))), (n 3, .inl (cI, 10, .inl (mav 3))), (n 13, .inl (cI, 10, .inl (mav 13))), (n 14, .inl (cI, 80, .inl (mav 14)))] sz) := by
  refine Met.ofW (cc := cX9_near) (maxL := 3) (ret := (some .boolean)) (by decide) rfl ?_
  intro p e s m args below meth c s₁ B hml hv
  obtain ⟨rfl, hsz, hG, hP, hD0⟩ := hv
  have hx := B.exec
  have hb := B.bytes
  have hr := B.returns
  have hts := atoms_spec (ws := wsX9_near) B.pre
  have hown : s.vm.findClass RX9 = some m.cls := findClass_of_methodNamed B.named
  have hlocks := B.notSynchronized
  have hK := hG.1
  have hN := hG.2
  subst hsz
  have hD := hD0.self (sz := s.heap.size)
  generalize hAe : va_A [(h0, .inr (9, [.ref (n 0), .int (mi 1), .ref (n 2), .ref (n 3), .ref (n 4), .ref (n 5), .ref (n 6), .int (mi 7), .ref (n 8), .ref (n 9), .ref (n 10), .ref (n 11), .ref (n 12), .ref (n 13), .ref (n 14), .int (mi 15), .int (mi 16), .ref (n 17), .ref (n 18), .ref (n 19), .ref (n 20), .ref (n 21), .ref (n 22), .ref (n 23), .ref (n 24), .ref (n 25), .int (mi 26), .int (mi 27), .int (mi 28), .int (mi 29), .int (mi 30), .int (mi 31), .int (mi 32), .int (mi 33), .ref (n 34), .ref (n 35), .int (mq 36), .int (mq 37), .int (mq 38), .ref (n 39), .ref (n 40), .ref (n 41), .ref (n 42), .int (mq 43), .int (mq 44), .int (mq 45)])), (n 2, .inl (cI, 10, .inl (mav 2))), (n 3, .inl (cI, 10, .inl (mav 3))), (n 13, .inl (cI, 10, .inl (mav 13))), (n 14, .inl (cI, 80, .inl (mav 14)))] s.heap.size = A at hD ⊢
  have hA : ∀ q : Nat, s.heap.size ≤ q → A q := fun q h => by rw [← hAe]; exact Or.inr h
  have hS : va_S A s.heap s.heap [] := va_S.rf
  have hP : va_P D vwCl [(h0, .inr (9, [.ref (n 0), .int (mi 1), .ref (n 2), .ref (n 3), .ref (n 4), .ref (n 5), .ref (n 6), .int (mi 7), .ref (n 8), .ref (n 9), .ref (n 10), .ref (n 11), .ref (n 12), .ref (n 13), .ref (n 14), .int (mi 15), .int (mi 16), .ref (n 17), .ref (n 18), .ref (n 19), .ref (n 20), .ref (n 21), .ref (n 22), .ref (n 23), .ref (n 24), .ref (n 25), .int (mi 26), .int (mi 27), .int (mi 28), .int (mi 29), .int (mi 30), .int (mi 31), .int (mi 32), .int (mi 33), .ref (n 34), .ref (n 35), .int (mq 36), .int (mq 37), .int (mq 38), .ref (n 39), .ref (n 40), .ref (n 41), .ref (n 42), .int (mq 43), .int (mq 44), .int (mq 45)])), (n 2, .inl (cI, 10, .inl (mav 2))), (n 3, .inl (cI, 10, .inl (mav 3))), (n 13, .inl (cI, 10, .inl (mav 13))), (n 14, .inl (cI, 80, .inl (mav 14)))] s.heap := hP
  have hl := lv_entry ([.ref h0, .int x1]) (n := 3) (Nat.le_of_ble_eq_true rfl)
  rw [lg_entry_eq]
  generalize (lg_sl ([.ref h0, .int x1]) ++ List.replicate (3 - (lg_sl ([.ref h0, .int x1])).length) Slot.unset).toArray = ls at hl ⊢
  have hl : lv_has ls 3 [(0, .ref h0), (1, .int x1)] := hl
  refine lv_iload_n hx hb dX9_near_0 rfl (lv_at hl 1 rfl) ?_
  refine lv_iconst (v := 0) hx hb dX9_near_1 (by decide) ?_
  refine lv_sipush (v := 5000) hx hb dX9_near_2 (by decide) ?_
  refine vp_callSi (va_Run.run (va_runS (As := [.int x1, .int 0, .int 5000]) (rest := []) ⟨hx, hb, hml, hown, hts⟩ (k_X9_in l x1 0 5000) (va_cwS 3 hts gX9_near_X9_in rfl rfl rfl (by decide +kernel) ⟨Nat.le_of_ble_eq_true rfl, Nat.le_of_ble_eq_true rfl⟩) preEq rfl rfl hl.1 rfl (lv_room (Nat.le_of_ble_eq_true rfl)) dX9_near_5 ⟨Nat.le_of_ble_eq_true rfl, Nat.le_of_ble_eq_true rfl⟩)) (fun r_1 h_1 => ?_)
  rcases h_1 with ⟨rfl, h_1⟩ | ⟨rfl, h_1⟩
  · refine lv_if_ne (tgt := 13) hx hb dX9_near_8 (by decide) (fun _ => ?_) (fun c_2 => False.elim (by revert c_2; decide))
    refine lv_iconst (v := 0) hx hb dX9_near_13 (by decide) ?_
    refine lv_istore_n (lv' := [(2, .int 0), (0, .ref h0), (1, .int x1)]) hx hb dX9_near_14 rfl hl (by decide) rfl (fun ls hl => ?_)
    refine lf_X9_near hx hb hml hts hown hG hA h_n hn0 hst (n0 + 1) 0 (Nat.zero_le _) lt_0 (by omega) _ _ _ hP hD hS (lv_sub hl [0, 1, 2] rfl) (fun  H locs ls e_3_0 hP hD hS hl => ?_) (fun  H locs ls e_4_0 hP hD hS hl => ?_)
    · refine lv_aload_n hx hb dX9_near_40 rfl (lv_at hl 0 rfl) ?_
      refine lv_iload_n hx hb dX9_near_41 rfl (lv_at hl 1 rfl) ?_
      refine va_put (D := D) (ci := 9) (v := .int x1) (ty := (tyX9 15)) (C := RX9) (T := TX9) (N := 46) hx hb hts (fun _ h9 => List.mem_cons_of_mem _ (List.mem_append_right _ h9)) tyX9 tyX9_ok nmX9 hown hK hP hD hS 0 rfl rfl 15 (by decide) (hts (.fieldLink RX9 140 "BuoyTenderModel" "nearness" "I") (by decide +kernel)) (fun _ h9 => h9) rfl (by decide +kernel) rfl rfl (Nat.le_of_ble_eq_true rfl) dX9_near_42 (fun H locs hP hD hS => ?_)
      have hP : va_P D vwCl [(h0, .inr (9, [.ref (n 0), .int (mi 1), .ref (n 2), .ref (n 3), .ref (n 4), .ref (n 5), .ref (n 6), .int (mi 7), .ref (n 8), .ref (n 9), .ref (n 10), .ref (n 11), .ref (n 12), .ref (n 13), .ref (n 14), .int x1, .int (mi 16), .ref (n 17), .ref (n 18), .ref (n 19), .ref (n 20), .ref (n 21), .ref (n 22), .ref (n 23), .ref (n 24), .ref (n 25), .int (mi 26), .int (mi 27), .int (mi 28), .int (mi 29), .int (mi 30), .int (mi 31), .int (mi 32), .int (mi 33), .ref (n 34), .ref (n 35), .int (mq 36), .int (mq 37), .int (mq 38), .ref (n 39), .ref (n 40), .ref (n 41), .ref (n 42), .int (mq 43), .int (mq 44), .int (mq 45)])), (n 2, .inl (cI, 10, .inl (mav 2))), (n 3, .inl (cI, 10, .inl (mav 3))), (n 13, .inl (cI, 10, .inl (mav 13))), (n 14, .inl (cI, 80, .inl (mav 14)))] H := hP
      have hD : va_D A [(h0, .inr (9, [.ref (n 0), .int (mi 1), .ref (n 2), .ref (n 3), .ref (n 4), .ref (n 5), .ref (n 6), .int (mi 7), .ref (n 8), .ref (n 9), .ref (n 10), .ref (n 11), .ref (n 12), .ref (n 13), .ref (n 14), .int x1, .int (mi 16), .ref (n 17), .ref (n 18), .ref (n 19), .ref (n 20), .ref (n 21), .ref (n 22), .ref (n 23), .ref (n 24), .ref (n 25), .int (mi 26), .int (mi 27), .int (mi 28), .int (mi 29), .int (mi 30), .int (mi 31), .int (mi 32), .int (mi 33), .ref (n 34), .ref (n 35), .int (mq 36), .int (mq 37), .int (mq 38), .ref (n 39), .ref (n 40), .ref (n 41), .ref (n 42), .int (mq 43), .int (mq 44), .int (mq 45)])), (n 2, .inl (cI, 10, .inl (mav 2))), (n 3, .inl (cI, 10, .inl (mav 3))), (n 13, .inl (cI, 10, .inl (mav 13))), (n 14, .inl (cI, 80, .inl (mav 14)))] := hD
      refine lv_iconst (v := 1) hx hb dX9_near_45 (by decide) ?_
      have hP9 := hP.sub (ws' := [(h0, .inr (9, [.ref (n 0), .int (mi 1), .ref (n 2), .ref (n 3), .ref (n 4), .ref (n 5), .ref (n 6), .int (mi 7), .ref (n 8), .ref (n 9), .ref (n 10), .ref (n 11), .ref (n 12), .ref (n 13), .ref (n 14), .int x1, .int (mi 16), .ref (n 17), .ref (n 18), .ref (n 19), .ref (n 20), .ref (n 21), .ref (n 22), .ref (n 23), .ref (n 24), .ref (n 25), .int (mi 26), .int (mi 27), .int (mi 28), .int (mi 29), .int (mi 30), .int (mi 31), .int (mi 32), .int (mi 33), .ref (n 34), .ref (n 35), .int (mq 36), .int (mq 37), .int (mq 38), .ref (n 39), .ref (n 40), .ref (n 41), .ref (n 42), .int (mq 43), .int (mq 44), .int (mq 45)])), (n 2, .inl (cI, 10, .inl (mav 2))), (n 3, .inl (cI, 10, .inl (mav 3))), (n 13, .inl (cI, 10, .inl (mav 13))), (n 14, .inl (cI, 80, .inl (mav 14)))]) [0, 1, 2, 3, 4] rfl
      have hD9 := hD.sub (ws' := [(h0, .inr (9, [.ref (n 0), .int (mi 1), .ref (n 2), .ref (n 3), .ref (n 4), .ref (n 5), .ref (n 6), .int (mi 7), .ref (n 8), .ref (n 9), .ref (n 10), .ref (n 11), .ref (n 12), .ref (n 13), .ref (n 14), .int x1, .int (mi 16), .ref (n 17), .ref (n 18), .ref (n 19), .ref (n 20), .ref (n 21), .ref (n 22), .ref (n 23), .ref (n 24), .ref (n 25), .int (mi 26), .int (mi 27), .int (mi 28), .int (mi 29), .int (mi 30), .int (mi 31), .int (mi 32), .int (mi 33), .ref (n 34), .ref (n 35), .int (mq 36), .int (mq 37), .int (mq 38), .ref (n 39), .ref (n 40), .ref (n 41), .ref (n 42), .int (mq 43), .int (mq 44), .int (mq 45)])), (n 2, .inl (cI, 10, .inl (mav 2))), (n 3, .inl (cI, 10, .inl (mav 3))), (n 13, .inl (cI, 10, .inl (mav 13))), (n 14, .inl (cI, 80, .inl (mav 14)))]) [0, 1, 2, 3, 4] (by decide) rfl
      exact W.zret (v := 1) hx hb hr rfl (fun t ht hW => ⟨⟨1, x1, rfl, (Or.inl ⟨rfl, ⟨h_1, (fun ⟨m, q1, q2⟩ => e_3_0 m q1 q2)⟩, rfl⟩), ⟨by rw [ht]; exact hP9, hD9⟩⟩, hS.F ht⟩) hS.2.2 dX9_near_46
    refine lv_iconst (v := 0) hx hb dX9_near_32 (by decide) ?_
    have hP9 := hP.sub (ws' := [(h0, .inr (9, [.ref (n 0), .int (mi 1), .ref (n 2), .ref (n 3), .ref (n 4), .ref (n 5), .ref (n 6), .int (mi 7), .ref (n 8), .ref (n 9), .ref (n 10), .ref (n 11), .ref (n 12), .ref (n 13), .ref (n 14), .int (mi 15), .int (mi 16), .ref (n 17), .ref (n 18), .ref (n 19), .ref (n 20), .ref (n 21), .ref (n 22), .ref (n 23), .ref (n 24), .ref (n 25), .int (mi 26), .int (mi 27), .int (mi 28), .int (mi 29), .int (mi 30), .int (mi 31), .int (mi 32), .int (mi 33), .ref (n 34), .ref (n 35), .int (mq 36), .int (mq 37), .int (mq 38), .ref (n 39), .ref (n 40), .ref (n 41), .ref (n 42), .int (mq 43), .int (mq 44), .int (mq 45)])), (n 2, .inl (cI, 10, .inl (mav 2))), (n 3, .inl (cI, 10, .inl (mav 3))), (n 13, .inl (cI, 10, .inl (mav 13))), (n 14, .inl (cI, 80, .inl (mav 14)))]) [0, 1, 2, 3, 4] rfl
    have hD9 := hD.sub (ws' := [(h0, .inr (9, [.ref (n 0), .int (mi 1), .ref (n 2), .ref (n 3), .ref (n 4), .ref (n 5), .ref (n 6), .int (mi 7), .ref (n 8), .ref (n 9), .ref (n 10), .ref (n 11), .ref (n 12), .ref (n 13), .ref (n 14), .int (mi 15), .int (mi 16), .ref (n 17), .ref (n 18), .ref (n 19), .ref (n 20), .ref (n 21), .ref (n 22), .ref (n 23), .ref (n 24), .ref (n 25), .int (mi 26), .int (mi 27), .int (mi 28), .int (mi 29), .int (mi 30), .int (mi 31), .int (mi 32), .int (mi 33), .ref (n 34), .ref (n 35), .int (mq 36), .int (mq 37), .int (mq 38), .ref (n 39), .ref (n 40), .ref (n 41), .ref (n 42), .int (mq 43), .int (mq 44), .int (mq 45)])), (n 2, .inl (cI, 10, .inl (mav 2))), (n 3, .inl (cI, 10, .inl (mav 3))), (n 13, .inl (cI, 10, .inl (mav 13))), (n 14, .inl (cI, 80, .inl (mav 14)))]) [0, 1, 2, 3, 4] (by decide) rfl
    exact W.zret (v := 0) hx hb hr rfl (fun t ht hW => ⟨⟨0, (mi 15), rfl, (Or.inr ⟨rfl, fun h9 => (fun q => q e_4_0) (h9.2), rfl⟩), ⟨by rw [ht]; exact hP9, hD9⟩⟩, hS.F ht⟩) hS.2.2 dX9_near_33
  refine lv_if_ne (tgt := 13) hx hb dX9_near_8 (by decide) (fun c_5 => False.elim (by revert c_5; decide)) (fun _ => ?_)
  refine lv_iconst (v := 0) hx hb dX9_near_11 (by decide) ?_
  have hP9 := hP.sub (ws' := [(h0, .inr (9, [.ref (n 0), .int (mi 1), .ref (n 2), .ref (n 3), .ref (n 4), .ref (n 5), .ref (n 6), .int (mi 7), .ref (n 8), .ref (n 9), .ref (n 10), .ref (n 11), .ref (n 12), .ref (n 13), .ref (n 14), .int (mi 15), .int (mi 16), .ref (n 17), .ref (n 18), .ref (n 19), .ref (n 20), .ref (n 21), .ref (n 22), .ref (n 23), .ref (n 24), .ref (n 25), .int (mi 26), .int (mi 27), .int (mi 28), .int (mi 29), .int (mi 30), .int (mi 31), .int (mi 32), .int (mi 33), .ref (n 34), .ref (n 35), .int (mq 36), .int (mq 37), .int (mq 38), .ref (n 39), .ref (n 40), .ref (n 41), .ref (n 42), .int (mq 43), .int (mq 44), .int (mq 45)])), (n 2, .inl (cI, 10, .inl (mav 2))), (n 3, .inl (cI, 10, .inl (mav 3))), (n 13, .inl (cI, 10, .inl (mav 13))), (n 14, .inl (cI, 80, .inl (mav 14)))]) [0, 1, 2, 3, 4] rfl
  have hD9 := hD.sub (ws' := [(h0, .inr (9, [.ref (n 0), .int (mi 1), .ref (n 2), .ref (n 3), .ref (n 4), .ref (n 5), .ref (n 6), .int (mi 7), .ref (n 8), .ref (n 9), .ref (n 10), .ref (n 11), .ref (n 12), .ref (n 13), .ref (n 14), .int (mi 15), .int (mi 16), .ref (n 17), .ref (n 18), .ref (n 19), .ref (n 20), .ref (n 21), .ref (n 22), .ref (n 23), .ref (n 24), .ref (n 25), .int (mi 26), .int (mi 27), .int (mi 28), .int (mi 29), .int (mi 30), .int (mi 31), .int (mi 32), .int (mi 33), .ref (n 34), .ref (n 35), .int (mq 36), .int (mq 37), .int (mq 38), .ref (n 39), .ref (n 40), .ref (n 41), .ref (n 42), .int (mq 43), .int (mq 44), .int (mq 45)])), (n 2, .inl (cI, 10, .inl (mav 2))), (n 3, .inl (cI, 10, .inl (mav 3))), (n 13, .inl (cI, 10, .inl (mav 13))), (n 14, .inl (cI, 80, .inl (mav 14)))]) [0, 1, 2, 3, 4] (by decide) rfl
  exact W.zret (v := 0) hx hb hr rfl (fun t ht hW => ⟨⟨0, (mi 15), rfl, (Or.inr ⟨rfl, fun h9 => h_1 (h9.1), rfl⟩), ⟨by rw [ht]; exact hP9, hD9⟩⟩, hS.F ht⟩) hS.2.2 dX9_near_12
