/-! ===== what stays true of a ledger; read, in both ===== -/
/-- what is known is written -/
def KV (h : Rg) : Prop := ∀ a, a < 4 → ∀ i, i < 32 → nW h ≤ i → gb (h 4 a) i = false
theorem pull_0 {h : Rg} (J : JV h) {a c : Nat} (hc : c < 4) : pullS h a c 0 = h 0 := by
  unfold pullS
  rw [heaS_o _ _ _ (by decide), pul0_eq J hc]
  rfl
theorem pull_4 {h : Rg} (J : JV h) {a c : Nat} (hc : c < 4) : pullS h a c 4 = upd (h 4) a (h 4 a ||| h 4 c) := by
  unfold pullS
  rw [heaS_o _ _ _ (by decide), pul0_eq J hc]
  rfl
theorem pull_5 {h : Rg} (J : JV h) {a c : Nat} (hc : c < 4) : pullS h a c 5 = upd (upd (h 5) a (h 5 a ||| h 5 c)) 0 (upd (h 4) a (h 4 a ||| h 4 c) 0) := by
  unfold pullS
  rw [heaS_o _ _ _ (by decide), pul0_eq J hc]
  rfl
theorem or_4 {x y u v : Int32} (h1 : x ||| u = x) (h2 : y ||| v = y) : x ||| y ||| (u ||| v) = x ||| y := by
  apply gb_ext
  intro i hi
  have g1 := congrArg (fun z => gb z i) h1
  have g2 := congrArg (fun z => gb z i) h2
  simp only [or_gb] at g1 g2 ⊢
  revert g1 g2
  cases gb x i <;> cases gb y i <;> cases gb u i <;> cases gb v i <;> decide
theorem JV_pull {h : Rg} (J : JV h) {a c : Nat} (ha : a < 4) (hc : c < 4) : JV (pullS h a c) := by
  unfold JV
  rw [pull_4 J hc, pull_5 J hc]
  refine ⟨upd_eq, fun b hb => ?_⟩
  by_cases h0 : b = 0
  · subst h0
    rw [upd_eq, Int32.or_self]
  · rw [upd_ne h0]
    by_cases e : b = a
    · subst e
      rw [upd_eq, upd_eq]
      exact or_4 (J.2 b hb) (J.2 c hc)
    · rw [upd_ne e, upd_ne e]
      exact J.2 b hb
theorem KV_pull {h : Rg} (V : KV h) (J : JV h) {a c : Nat} (ha : a < 4) (hc : c < 4) : KV (pullS h a c) := by
  intro b hb i hi hn
  rw [nW_congr (pull_0 J hc)] at hn
  rw [pull_4 J hc]
  by_cases e : b = a
  · rw [e, upd_eq, or_gb, V a ha i hi hn, V c hc i hi hn]
    rfl
  · rw [upd_ne e]
    exact V b hb i hi hn
theorem RL_slow {h : Rg} {m : Nat → Int32} (H : Rlm h m) (V : KV h) {a : Nat} (ha : a < 4) : mSl m a = slowS h a := by
  unfold mSl slowS
  rw [RL_k H ha, RL_f H ha, pop_cb]
  refine tn_lt _ (by decide) (fun i h1 h2 => ?_)
  rw [and_gb, V a ha i h2 (Nat.le_trans H.1.2.2.2.2 h1)]
  rfl
theorem RL_red {h : Rg} {m : Nat → Int32} (H : Rlm h m) (J : JV h) (V : KV h) {a : Nat} (ha : a < 4) : ∀ n, n ≤ 4 → Rlm (redS h a n).1 (mRe m a n).1 ∧ JV (redS h a n).1 ∧ KV (redS h a n).1 ∧ (redS h a n).2 = (mRe m a n).2
  | 0, _ => ⟨H, J, V, rfl⟩
  | n + 1, hn => by
    obtain ⟨H1, J1, V1, e1⟩ := RL_red H J V ha n (by omega)
    rw [redS, mRe]
    by_cases h1 : n = a
    · rw [if_pos h1, if_pos h1]; exact ⟨H1, J1, V1, e1⟩
    · rw [if_neg h1, if_neg h1, RL_1 H1, RL_h H1 ha (show n < 4 by omega), (RL_b H1 ha).2.2]
      by_cases h2 : (redS h a n).1 0 1 - (redS h a n).1 6 (a * 4 + n) ≤ (redS h a n).1 3 a
      · rw [if_pos h2, if_pos h2]; exact ⟨H1, J1, V1, e1⟩
      · rw [if_neg h2, if_neg h2]
        exact ⟨RL_pull H1 J1 ha (by omega), JV_pull J1 ha (by omega), KV_pull V1 J1 ha (by omega), congrArg (· + 1) e1⟩
theorem RL_read {h : Rg} {m : Nat → Int32} (H : Rlm h m) (J : JV h) (V : KV h) {a : Nat} (ha : a < 4) : Rlm (readS h a).1 (mRd m a).1 ∧ JV (readS h a).1 ∧ KV (readS h a).1 ∧ (readS h a).2 = (mRd m a).2 := by
  obtain ⟨H1, J1, V1, e1⟩ := RL_red H J V ha (nC h) H.1.2.2.1
  unfold readS mRd
  rw [RL_C H, RL_slow H1 V1 ha, (RL_b H1 ha).2.1]
  by_cases h2 : slowS (redS h a (nC h)).1 a ≤ (redS h a (nC h)).1 2 a
  · rw [if_pos h2, if_pos h2]; exact ⟨H1, J1, V1, e1⟩
  · rw [if_neg h2, if_neg h2]
    have J2 := JV_pull J1 (a := 0) (c := a) (by decide) ha
    have V2 := KV_pull V1 J1 (a := 0) (c := a) (by decide) ha
    have H2 := RL_pull H1 J1 (a := 0) (c := a) (by decide) ha
    exact ⟨RL_pull H2 J2 ha (by decide), JV_pull J2 ha (by decide), KV_pull V2 J2 ha (by decide), congrArg (· + 2) e1⟩
