/-- a reached step: the heap only grows, and the machine goes along -/
def aStp (D : va_G) (κ : Nat → ClassId) (B b o : Nat) (X : aX) (m : aM) (pc : Nat) (L : aL) (S : List Value) (h : aH) (pc' : Nat) (L' : aL) (S' : List Value) (h2 : aH) : Prop :=
  (h.1.length ≤ h2.1.length ∧ h.2 ≤ h2.2) ∧ ∀ (r : Option Value) (h' : aH), h2.1.length ≤ h'.1.length → h2.2 ≤ h'.2 → aSim D κ B b o X m pc' L' S' h2 r h' → aSim D κ B b o X m pc L S h r h'
section STP
variable {D : va_G} {κ : Nat → ClassId} {B b o : Nat} {X : aX} {m : aM} {pc pc' : Nat} {L L' : aL} {S S' : List Value} {h : aH}
/-- a step that leaves heap and locals -/
theorem aStp.pure
    (k : ∀ (p : Program) (l : Launch) (e : Env) (R : Room) (s : State) (mi : MethodId) (args : Array Value) (below : List Frame) (meth : Method) (c : Code) (H : Heap) (locs : List Loc) (cells slots : Nat) (ls : Array Slot) (Q : State → Prop),
      aCx p s mi args meth c m → aEnv D κ B b o X s → am_F m ≤ R.frames → am_L m ≤ R.locals → cells ≤ R.cells → slots ≤ R.slots → va_P D vwCl (wd κ B b o h.1) H → va_S (fun q => B ≤ q) s.heap H locs → lv_has ls (am_ml m) (L.map (rl B b o)) →
      W p l e R s mi args below meth c H locs cells slots Q (F0 mi pc' ls (S'.map (rv B b o))) → W p l e R s mi args below meth c H locs cells slots Q (F0 mi pc ls (S.map (rv B b o)))) :
    aStp D κ B b o X m pc L S h pc' L S' h := by
  refine ⟨⟨Nat.le_refl _, Nat.le_refl _⟩, fun r h' _ _ K => ?_⟩
  intro p l e R s mi args below meth c H locs cells slots ls hC hE hF hL hc hs hP hz hq hS hl
  exact k p l e R s mi args below meth c H locs cells slots ls _ hC hE hF hL (by omega) (by omega) hP hS hl (K p l e R s mi args below meth c H locs cells slots ls hC hE hF hL hc hs hP hz hq hS hl)
/-- a step that sets a local -/
theorem aStp.loc
    (k : ∀ (p : Program) (l : Launch) (e : Env) (R : Room) (s : State) (mi : MethodId) (args : Array Value) (below : List Frame) (meth : Method) (c : Code) (H : Heap) (locs : List Loc) (cells slots : Nat) (ls : Array Slot) (Q : State → Prop),
      aCx p s mi args meth c m → lv_has ls (am_ml m) (L.map (rl B b o)) →
      (∀ ls' : Array Slot, lv_has ls' (am_ml m) (L'.map (rl B b o)) → W p l e R s mi args below meth c H locs cells slots Q (F0 mi pc' ls' (S'.map (rv B b o)))) → W p l e R s mi args below meth c H locs cells slots Q (F0 mi pc ls (S.map (rv B b o)))) :
    aStp D κ B b o X m pc L S h pc' L' S' h := by
  refine ⟨⟨Nat.le_refl _, Nat.le_refl _⟩, fun r h' _ _ K => ?_⟩
  intro p l e R s mi args below meth c H locs cells slots ls hC hE hF hL hc hs hP hz hq hS hl
  exact k p l e R s mi args below meth c H locs cells slots ls _ hC hl (fun ls' hl' => K p l e R s mi args below meth c H locs cells slots ls' hC hE hF hL hc hs hP hz hq hS hl')
/-- a step that writes a cell -/
theorem aStp.cell {a : Nat} {e2 : aC}
    (k : ∀ (p : Program) (l : Launch) (e : Env) (R : Room) (s : State) (mi : MethodId) (args : Array Value) (below : List Frame) (meth : Method) (c : Code) (H : Heap) (locs : List Loc) (cells slots : Nat) (ls : Array Slot) (Q : State → Prop),
      aCx p s mi args meth c m → aEnv D κ B b o X s → va_P D vwCl (wd κ B b o h.1) H → va_S (fun q => B ≤ q) H H locs →
      (∀ (H1 : Heap) (locs1 : List Loc), va_P D vwCl ((wd κ B b o h.1).set a (B + a, rE κ B b o e2)) H1 → va_D (fun q => B ≤ q) ((wd κ B b o h.1).set a (B + a, rE κ B b o e2)) → va_S (fun q => B ≤ q) H H1 locs1 → W p l e R s mi args below meth c H1 locs1 cells slots Q (F0 mi pc' ls (S'.map (rv B b o)))) → W p l e R s mi args below meth c H locs cells slots Q (F0 mi pc ls (S.map (rv B b o)))) :
    aStp D κ B b o X m pc L S h pc' L S' (h.1.set a e2, h.2) := by
  refine ⟨⟨by simp, Nat.le_refl _⟩, fun r h' _ _ K => ?_⟩
  intro p l e R s mi args below meth c H locs cells slots ls hC hE hF hL hc hs hP hz hq hS hl
  have K1 := K p l e R s mi args below meth c
  simp only [List.length_set] at K1
  refine k p l e R s mi args below meth c H locs cells slots ls _ hC hE hP ⟨Nat.le_refl _, fun _ _ _ => rfl, hS.2.2⟩ (fun H1 locs1 hP1 _ hS1 => ?_)
  rw [wd_set] at hP1
  intro T hT XX
  have h1 := XX.heapSize
  rw [hT] at h1
  have hz1 : H1.size = H.size := by have := hS1.1; omega
  exact K1 H1 locs1 cells slots ls hC hE hF hL hc hs hP1 (by rw [hz1]; exact hz) (by rw [hz1]; exact hq) ⟨Nat.le_trans hS.1 hS1.1, fun q h1 h2 => (hS1.2.1 q (Nat.lt_of_lt_of_le h1 hS.1) h2).trans (hS.2.1 q h1 h2), hS1.2.2⟩ hl T hT XX
/-- a step that makes a cell -/
theorem aStp.new {n : Nat} {e2 : aC}
    (k : ∀ (p : Program) (l : Launch) (e : Env) (R : Room) (s : State) (mi : MethodId) (args : Array Value) (below : List Frame) (meth : Method) (c : Code) (H : Heap) (locs : List Loc) (cells slots : Nat) (ls : Array Slot) (Q : State → Prop),
      aCx p s mi args meth c m → aEnv D κ B b o X s → cells + 1 ≤ R.cells → slots + n ≤ R.slots → va_P D vwCl (wd κ B b o h.1) H → va_S (fun q => B ≤ q) H H locs → (∀ q, H.size ≤ q → B ≤ q) →
      (∀ (q : Nat) (H1 : Heap), va_P D vwCl (wd κ B b o h.1 ++ [(q, rE κ B b o e2)]) H1 → va_D (fun q => B ≤ q) (wd κ B b o h.1 ++ [(q, rE κ B b o e2)]) → va_S (fun q => B ≤ q) H H1 locs → W p l e R s mi args below meth c H1 locs (cells + 1) (slots + n) Q (F0 mi pc' ls (.ref q :: S'.map (rv B b o)))) → W p l e R s mi args below meth c H locs cells slots Q (F0 mi pc ls (S.map (rv B b o)))) :
    aStp D κ B b o X m pc L S h pc' L (.ref h.1.length :: S') (h.1 ++ [e2], h.2 + n) := by
  refine ⟨⟨by simp, by simp⟩, fun r h' hg1 hg2 K => ?_⟩
  intro p l e R s mi args below meth c H locs cells slots ls hC hE hF hL hc hs hP hz hq hS hl
  have K1 := K p l e R s mi args below meth c
  simp only [List.length_append, List.length_cons, List.length_nil] at K1 hg1
  simp only at hg2
  refine k p l e R s mi args below meth c H locs cells slots ls _ hC hE (by omega) (by omega) hP ⟨Nat.le_refl _, fun _ _ _ => rfl, hS.2.2⟩ (fun q h => by omega) (fun q H1 hP1 hD1 hS1 => ?_)
  intro T hT XX
  have h1 := XX.heapSize
  rw [hT] at h1
  have hlast : (wd κ B b o h.1 ++ [(q, rE κ B b o e2)])[h.1.length]? = some (q, rE κ B b o e2) := by
    rw [List.getElem?_append_right (by rw [wd_len]; exact Nat.le_refl _), wd_len]; simp
  have hq1 : q < H1.size := (hP1 _ _ hlast).lt
  have hq2 : B ≤ q := hD1.2 _ _ hlast
  have hq3 : H.size ≤ q := by
    rcases Nat.lt_or_ge q H.size with hlt | hge
    · exfalso
      have hi : q - B < h.1.length := by omega
      have hg := wd_get (κ := κ) (B := B) (b := b) (o := o) (List.getElem?_eq_getElem hi)
      have hg' : (wd κ B b o h.1 ++ [(q, rE κ B b o e2)])[q - B]? = some (B + (q - B), rE κ B b o h.1[q - B]) := by
        rw [List.getElem?_append_left (by rw [wd_len]; exact hi)]; exact hg
      have := hD1.1 _ _ _ _ hlast hg' (by show q = B + (q - B); omega)
      omega
    · exact hge
  have hz1 : H1.size = H.size + 1 := by have := hS1.1; omega
  have hqe : q = B + h.1.length := by omega
  subst hqe
  rw [← wd_app] at hP1
  have e1 : cells + 1 + (h'.1.length - (h.1.length + (0 + 1))) = cells + (h'.1.length - h.1.length) := by omega
  have e2' : slots + n + (h'.2 - (h.2 + n)) = slots + (h'.2 - h.2) := by omega
  have K2 := K1 H1 locs (cells + 1) (slots + n) ls hC hE hF hL (by omega) (by omega) hP1 (by omega) (by omega) ⟨Nat.le_trans hS.1 hS1.1, fun q h1 h2 => (hS1.2.1 q (Nat.lt_of_lt_of_le h1 hS.1) h2).trans (hS.2.1 q h1 h2), hS1.2.2⟩ hl
  rw [e1, e2'] at K2
  exact K2 T hT XX
end STP
