/-! the start: the cells that stand, and the invariant; by program (gen_start.py) -/
def i_nine : Nat → Int32 := fun j => if j < 9 then nI 9 else 0
def i_st (F : Nat → Int32) : a_HP := (fun k => if k = 62 then F else if k = 5 then i_nine else if k = 22 then i_nine else if k = 42 then i_nine else if k = 54 then i_nine else fun _ => 0, fun k j => if k = 16 then (if j = 1 then 1 else 0) else if k = 61 then (if j = 8 then 1 else 0) else 0)
theorem i_inv {F : Nat → Int32} (hF : ∀ j, j < 481 → F j = bgF j) : Inv 0 (i_st F) := by
  have z : (0 : Int32) = nI 0 := by decide
  have hf : ∀ j, j < 52 → F j = nI 0 := fun j hj => by rw [hF j (by omega)]; unfold bgF; rw [if_pos hj]
  have h9 : ∀ c, c < 9 → F (52 + c) = nI 9 := fun c hc => by rw [hF _ (by omega)]; unfold bgF; rw [if_neg (by omega), if_pos (by omega)]
  have h61 : F 61 = nI 0 := by rw [hF 61 (by omega)]; decide
  have h80 : F 80 = nI 0 := by rw [hF 80 (by omega)]; decide
  refine ⟨⟨⟨fun j hj => ?_, fun k hk => ⟨?_, ?_, ?_⟩, fun c hc => ?_⟩, ⟨?_, ⟨0, by omega, ?_⟩, ⟨0, by omega, ?_⟩, ⟨0, by omega, ?_⟩, fun k hk => ⟨⟨0, by omega, ?_⟩, ⟨0, by omega, ?_⟩, ⟨0, by omega, ?_⟩⟩, fun c hc => ⟨9, by omega, ?_⟩⟩, ⟨0, by omega, ?_, ?_, fun j hj => by omega, fun i hi => by omega⟩, ⟨0, by omega, ?_, ?_, fun i hi => by omega⟩⟩, ⟨?_, ?_, fun q => ?_⟩, ⟨?_, ?_, fun q => ?_⟩, ⟨0, by omega, ?_, ?_, fun j hj => by omega⟩, ⟨?_, ?_⟩, fun j hj => ?_⟩
  · show (0 : Int32) = F j
    rw [z, hf j (by omega)]
  · show (0 : Int32) = F (4 + k)
    rw [z, hf _ (by omega)]
  · show (0 : Int32) = F (20 + k)
    rw [z, hf _ (by omega)]
  · show (0 : Int32) = F (36 + k)
    rw [z, hf _ (by omega)]
  · show i_nine c = F (52 + c)
    unfold i_nine
    rw [if_pos hc, h9 c hc]
  · exact Or.inl (hf 0 (by omega))
  · exact hf 1 (by omega)
  · exact hf 2 (by omega)
  · exact hf 3 (by omega)
  · exact hf _ (by omega)
  · exact hf _ (by omega)
  · exact hf _ (by omega)
  · exact h9 c hc
  · exact h80
  · show (0 : Int32) = nI 0
    exact z
  · exact h61
  · show (0 : Int32) = nI 0
    exact z
  · rfl
  · exact Or.inl z
  · exact absurd (show (0 : Int32) = nI 1 from q) (by decide)
  · rfl
  · exact Or.inl z
  · exact absurd (show (0 : Int32) = nI 1 from q) (by decide)
  · show (0 : Int32) = nI 0
    exact z
  · show (0 : Int32) = nI 0
    exact z
  · rfl
  · rfl
  · show (0 : Int32) = 0
    rfl
def i_ad (h hm : Nat) (L M : List Nat) (sK sV : Nat → Nat) (k : Nat) : Nat := ([h, (L.getD 0 0), (L.getD 1 0), (L.getD 2 0), (L.getD 3 0), (L.getD 4 0), (L.getD 5 0), (L.getD 6 0), (L.getD 7 0), (L.getD 8 0), (L.getD 9 0), (L.getD 10 0), (L.getD 11 0), (L.getD 12 0), (L.getD 13 0), (L.getD 14 0), (L.getD 15 0), (L.getD 16 0), (L.getD 17 0), (L.getD 18 0), (L.getD 19 0), (L.getD 20 0), (L.getD 21 0), (L.getD 22 0), (L.getD 23 0), (L.getD 24 0), (L.getD 25 0), (L.getD 26 0), (L.getD 27 0), (L.getD 28 0), (L.getD 29 0), (L.getD 30 0), (L.getD 31 0), (L.getD 32 0), (L.getD 33 0), (L.getD 34 0), (L.getD 35 0), (L.getD 36 0), (L.getD 37 0), (L.getD 38 0), (L.getD 39 0), (L.getD 40 0), (L.getD 41 0), (L.getD 42 0), (L.getD 43 0), (L.getD 44 0), (L.getD 45 0), (L.getD 46 0), (L.getD 47 0), (L.getD 48 0), (L.getD 49 0), (L.getD 50 0), (L.getD 51 0), (L.getD 52 0), (L.getD 53 0), (L.getD 54 0), (L.getD 55 0), (L.getD 56 0), (L.getD 57 0), (L.getD 58 0), (L.getD 59 0), hm, (M.getD 0 0), (M.getD 1 0), (M.getD 2 0), (M.getD 3 0), (M.getD 4 0), (M.getD 5 0), (M.getD 6 0), (M.getD 7 0), (M.getD 8 0), (M.getD 9 0), sK 0, sK 1, sK 2, sV 0, sV 1, sV 2] : List Nat).getD k 0
def i_w (cA : Nat → ClassId) (h hm : Nat) (L M : List Nat) (F : Nat → Int32) (G : Nat → Option Nat) : va_W := [(hm, .inr (8, [.ref (M.getD 0 0), .ref (M.getD 1 0), .ref (M.getD 2 0), .ref (M.getD 3 0), .ref (M.getD 4 0), .ref (M.getD 5 0), .int 0, .long 0, .long 1, .ref (M.getD 6 0), .int 0, .int 0, .int 0, .long 0, .int 0, .ref (M.getD 7 0), .int 0, .ref (M.getD 8 0), .ref (M.getD 9 0)])), ((M.getD 9 0), .inl (cA 0, 8649, .inl (fun _ => 0))), ((M.getD 8 0), .inl (cA 0, 8, .inl (fun _ => 0))), ((M.getD 7 0), .inl (cA 0, 4, .inl (fun _ => 0))), ((M.getD 6 0), .inl (cA 0, 3, .inl (fun _ => 0))), ((M.getD 5 0), .inl (cA 0, 150, .inl (fun _ => 0))), ((M.getD 4 0), .inl (cA 2, 2, .inl (fun _ => 0))), ((M.getD 3 0), .inl (cA 0, 962, .inl (fun _ => 0))), ((M.getD 2 0), .inl (cA 0, 481, .inl (fun _ => 0))), ((M.getD 1 0), .inl (cA 0, 481, .inl (fun _ => 0))), ((M.getD 0 0), .inl (cA 0, 481, .inl (F))), (h, .inr (7, [.ref (L.getD 0 0), .ref (L.getD 5 0), .ref (L.getD 7 0), .ref (L.getD 11 0), .ref (L.getD 12 0), .ref (L.getD 15 0), .ref (L.getD 16 0), .ref (L.getD 17 0), .ref (L.getD 22 0), .ref (L.getD 32 0), .ref (L.getD 33 0), .ref (L.getD 34 0), .ref (L.getD 35 0)])), ((L.getD 11 0), .inl (cA 3, 2, .inr (.inr (.inr (.inr G))))), ((L.getD 48 0), .inr (1, [.int 0, .ref (L.getD 49 0), .ref (L.getD 54 0), .ref (L.getD 56 0)])), ((L.getD 56 0), .inr (5, [.int 0, .ref (L.getD 57 0), .ref (L.getD 58 0), .ref (L.getD 59 0)])), ((L.getD 59 0), .inl (cA 0, 6, .inl (fun _ => 0))), ((L.getD 58 0), .inl (cA 0, 6, .inl (fun _ => 0))), ((L.getD 57 0), .inl (cA 0, 6, .inl (fun _ => 0))), ((L.getD 54 0), .inr (4, [.int 0, .ref (L.getD 55 0)])), ((L.getD 55 0), .inl (cA 0, 400, .inl (fun _ => 0))), ((L.getD 49 0), .inr (3, [.int 0, .int 0, .int 0, .int 0, .ref (L.getD 50 0), .ref (L.getD 51 0), .ref (L.getD 52 0), .ref (L.getD 53 0)])), ((L.getD 53 0), .inl (cA 0, 9, .inl (fun j => if j < 9 then nI 9 else 0))), ((L.getD 52 0), .inl (cA 0, 16, .inl (fun _ => 0))), ((L.getD 51 0), .inl (cA 0, 16, .inl (fun _ => 0))), ((L.getD 50 0), .inl (cA 0, 16, .inl (fun _ => 0))), ((L.getD 36 0), .inr (1, [.int 0, .ref (L.getD 37 0), .ref (L.getD 42 0), .ref (L.getD 44 0)])), ((L.getD 44 0), .inr (5, [.int 0, .ref (L.getD 45 0), .ref (L.getD 46 0), .ref (L.getD 47 0)])), ((L.getD 47 0), .inl (cA 0, 6, .inl (fun _ => 0))), ((L.getD 46 0), .inl (cA 0, 6, .inl (fun _ => 0))), ((L.getD 45 0), .inl (cA 0, 6, .inl (fun _ => 0))), ((L.getD 42 0), .inr (4, [.int 0, .ref (L.getD 43 0)])), ((L.getD 43 0), .inl (cA 0, 400, .inl (fun _ => 0))), ((L.getD 37 0), .inr (3, [.int 0, .int 0, .int 0, .int 0, .ref (L.getD 38 0), .ref (L.getD 39 0), .ref (L.getD 40 0), .ref (L.getD 41 0)])), ((L.getD 41 0), .inl (cA 0, 9, .inl (fun j => if j < 9 then nI 9 else 0))), ((L.getD 40 0), .inl (cA 0, 16, .inl (fun _ => 0))), ((L.getD 39 0), .inl (cA 0, 16, .inl (fun _ => 0))), ((L.getD 38 0), .inl (cA 0, 16, .inl (fun _ => 0))), ((L.getD 35 0), .inl (cA 0, 9, .inl (fun _ => 0))), ((L.getD 34 0), .inl (cA 0, 25, .inl (fun _ => 0))), ((L.getD 33 0), .inl (cA 0, 25, .inl (fun _ => 0))), ((L.getD 32 0), .inl (cA 0, 16, .inl (fun _ => 0))), ((L.getD 22 0), .inr (2, [.ref (L.getD 23 0), .ref (L.getD 24 0), .ref (L.getD 25 0), .ref (L.getD 26 0), .ref (L.getD 27 0), .ref (L.getD 28 0), .int 0, .ref (L.getD 29 0), .ref (L.getD 30 0), .ref (L.getD 31 0)])), ((L.getD 31 0), .inl (cA 0, 310, .inl (fun _ => 0))), ((L.getD 30 0), .inl (cA 0, 160, .inl (fun _ => 0))), ((L.getD 29 0), .inl (cA 0, 16, .inl (fun _ => 0))), ((L.getD 28 0), .inl (cA 0, 2, .inl (fun _ => 0))), ((L.getD 27 0), .inl (cA 0, 2, .inl (fun _ => 0))), ((L.getD 26 0), .inl (cA 0, 8, .inl (fun _ => 0))), ((L.getD 25 0), .inl (cA 0, 2, .inl (fun _ => 0))), ((L.getD 24 0), .inl (cA 0, 16, .inl (fun _ => 0))), ((L.getD 23 0), .inl (cA 0, 16, .inl (fun _ => 0))), ((L.getD 17 0), .inr (3, [.int 0, .int 0, .int 0, .int 0, .ref (L.getD 18 0), .ref (L.getD 19 0), .ref (L.getD 20 0), .ref (L.getD 21 0)])), ((L.getD 21 0), .inl (cA 0, 9, .inl (fun j => if j < 9 then nI 9 else 0))), ((L.getD 20 0), .inl (cA 0, 16, .inl (fun _ => 0))), ((L.getD 19 0), .inl (cA 0, 16, .inl (fun _ => 0))), ((L.getD 18 0), .inl (cA 0, 16, .inl (fun _ => 0))), ((L.getD 16 0), .inl (cA 0, 3, .inl (fun _ => 0))), ((L.getD 15 0), .inr (0, [.long 0, .long 1])), ((L.getD 12 0), .inr (6, [.int 0, .int 0, .ref (L.getD 13 0), .ref (L.getD 14 0), .int 0, .int 0, .int 0, .int 0])), ((L.getD 14 0), .inl (cA 0, 110, .inl (fun _ => 0))), ((L.getD 13 0), .inl (cA 1, 150, .inl (fun _ => 0))), ((L.getD 7 0), .inr (5, [.int 0, .ref (L.getD 8 0), .ref (L.getD 9 0), .ref (L.getD 10 0)])), ((L.getD 10 0), .inl (cA 0, 6, .inl (fun _ => 0))), ((L.getD 9 0), .inl (cA 0, 6, .inl (fun _ => 0))), ((L.getD 8 0), .inl (cA 0, 6, .inl (fun _ => 0))), ((L.getD 5 0), .inr (4, [.int 0, .ref (L.getD 6 0)])), ((L.getD 6 0), .inl (cA 0, 400, .inl (fun _ => 0))), ((L.getD 0 0), .inr (3, [.int 0, .int 0, .int 0, .int 0, .ref (L.getD 1 0), .ref (L.getD 2 0), .ref (L.getD 3 0), .ref (L.getD 4 0)])), ((L.getD 4 0), .inl (cA 0, 9, .inl (fun j => if j < 9 then nI 9 else 0))), ((L.getD 3 0), .inl (cA 0, 16, .inl (fun _ => 0))), ((L.getD 2 0), .inl (cA 0, 16, .inl (fun _ => 0))), ((L.getD 1 0), .inl (cA 0, 16, .inl (fun _ => 0)))]
theorem cell_q {cA : ClassId} {n : Nat} {f g : Nat → Option Nat} (h : ∀ j, j < n → f j = g j) : vp_cell cA (n, .inr (.inr (.inr (.inr f)))) = vp_cell cA (n, .inr (.inr (.inr (.inr g)))) := by
  rw [vp_cell_q, vp_cell_q]
  unfold arrV
  have : (fun j : Fin n => va_rf (f j.val)) = (fun j : Fin n => va_rf (g j.val)) := by
    funext j
    rw [h j.val j.isLt]
  rw [this]
theorem vD_addr {A : Nat → Prop} {ws ws' : va_W} (h : va_D A ws) (hp : (ws'.map Prod.fst).Perm (ws.map Prod.fst)) : va_D A ws' := by
  rw [vD_iff] at h ⊢
  refine ⟨List.pairwise_map.mp ((hp.pairwise_iff (R := fun a b : Nat => a ≠ b) (fun z => Ne.symm z)).mpr (List.pairwise_map.mpr h.1)), fun q hq => ?_⟩
  obtain ⟨r, hr, e⟩ := List.mem_map.mp (hp.mem_iff.mp (List.mem_map_of_mem hq))
  rw [← e]
  exact h.2 r hr
set_option maxRecDepth 100000 in
set_option maxHeartbeats 4000000 in
theorem i_P {D : va_G} {cA : Nat → ClassId} {h hm : Nat} {L M : List Nat} {sK sV : Nat → Nat} {F : Nat → Int32} {G : Nat → Option Nat} {H : Heap} (hP : va_P D vwCl (i_w cA h hm L M F G) H) (hG0 : G 0 = some (L.getD 36 0)) (hG1 : G 1 = some (L.getD 48 0)) : va_P D vwCl (a_W (i_ad h hm L M sK sV) cA (i_st F)) H := by
  have all : ∀ k ∈ ([0, 1, 2, 3, 4, 5, 6, 7, 8, 9, 10, 11, 12, 13, 14, 15, 16, 17, 18, 19, 20, 21, 22, 23, 24, 25, 26, 27, 28, 29, 30, 31, 32, 33, 34, 35, 36, 37, 38, 39, 40, 41, 42, 43, 44, 45, 46, 47, 48, 49, 50, 51, 52, 53, 54, 55, 56, 57, 58, 59, 60, 61, 62, 63, 64, 65, 66, 67, 68, 69, 70, 71] : List Nat), va_at D vwCl (i_ad h hm L M sK sV k, a_cell (i_ad h hm L M sK sV) cA (i_st F) k) H := by
    refine List.forall_mem_cons.mpr ⟨hP 11 _ rfl, ?_⟩
    refine List.forall_mem_cons.mpr ⟨hP 67 _ rfl, ?_⟩
    refine List.forall_mem_cons.mpr ⟨hP 71 _ rfl, ?_⟩
    refine List.forall_mem_cons.mpr ⟨hP 70 _ rfl, ?_⟩
    refine List.forall_mem_cons.mpr ⟨hP 69 _ rfl, ?_⟩
    refine List.forall_mem_cons.mpr ⟨hP 68 _ rfl, ?_⟩
    refine List.forall_mem_cons.mpr ⟨hP 65 _ rfl, ?_⟩
    refine List.forall_mem_cons.mpr ⟨hP 66 _ rfl, ?_⟩
    refine List.forall_mem_cons.mpr ⟨hP 61 _ rfl, ?_⟩
    refine List.forall_mem_cons.mpr ⟨hP 64 _ rfl, ?_⟩
    refine List.forall_mem_cons.mpr ⟨hP 63 _ rfl, ?_⟩
    refine List.forall_mem_cons.mpr ⟨hP 62 _ rfl, ?_⟩
    refine List.forall_mem_cons.mpr ⟨?_, ?_⟩
    · have h12 : H[(L.getD 11 0)]? = some (vp_cell (cA 3) (2, .inr (.inr (.inr (.inr G))))) := hP 12 _ rfl
      show H[(L.getD 11 0)]? = some (vp_cell (cA 3) (2, .inr (.inr (.inr (.inr (fun j => some (i_ad h hm L M sK sV (([39, 51] : List Nat).getD j 2 - 2))))))))
      rw [h12, cell_q (g := fun j => some (i_ad h hm L M sK sV (([39, 51] : List Nat).getD j 2 - 2))) (fun j hj => ?_)]
      rcases (show j = 0 ∨ j = 1 by omega) with rfl | rfl
      · exact hG0
      · exact hG1
    refine List.forall_mem_cons.mpr ⟨hP 58 _ rfl, ?_⟩
    refine List.forall_mem_cons.mpr ⟨hP 60 _ rfl, ?_⟩
    refine List.forall_mem_cons.mpr ⟨hP 59 _ rfl, ?_⟩
    refine List.forall_mem_cons.mpr ⟨hP 57 _ rfl, ?_⟩
    refine List.forall_mem_cons.mpr ⟨hP 56 _ rfl, ?_⟩
    refine List.forall_mem_cons.mpr ⟨hP 51 _ rfl, ?_⟩
    refine List.forall_mem_cons.mpr ⟨hP 55 _ rfl, ?_⟩
    refine List.forall_mem_cons.mpr ⟨hP 54 _ rfl, ?_⟩
    refine List.forall_mem_cons.mpr ⟨hP 53 _ rfl, ?_⟩
    refine List.forall_mem_cons.mpr ⟨hP 52 _ rfl, ?_⟩
    refine List.forall_mem_cons.mpr ⟨hP 41 _ rfl, ?_⟩
    refine List.forall_mem_cons.mpr ⟨hP 50 _ rfl, ?_⟩
    refine List.forall_mem_cons.mpr ⟨hP 49 _ rfl, ?_⟩
    refine List.forall_mem_cons.mpr ⟨hP 48 _ rfl, ?_⟩
    refine List.forall_mem_cons.mpr ⟨hP 47 _ rfl, ?_⟩
    refine List.forall_mem_cons.mpr ⟨hP 46 _ rfl, ?_⟩
    refine List.forall_mem_cons.mpr ⟨hP 45 _ rfl, ?_⟩
    refine List.forall_mem_cons.mpr ⟨hP 44 _ rfl, ?_⟩
    refine List.forall_mem_cons.mpr ⟨hP 43 _ rfl, ?_⟩
    refine List.forall_mem_cons.mpr ⟨hP 42 _ rfl, ?_⟩
    refine List.forall_mem_cons.mpr ⟨hP 40 _ rfl, ?_⟩
    refine List.forall_mem_cons.mpr ⟨hP 39 _ rfl, ?_⟩
    refine List.forall_mem_cons.mpr ⟨hP 38 _ rfl, ?_⟩
    refine List.forall_mem_cons.mpr ⟨hP 37 _ rfl, ?_⟩
    refine List.forall_mem_cons.mpr ⟨hP 25 _ rfl, ?_⟩
    refine List.forall_mem_cons.mpr ⟨hP 32 _ rfl, ?_⟩
    refine List.forall_mem_cons.mpr ⟨hP 36 _ rfl, ?_⟩
    refine List.forall_mem_cons.mpr ⟨hP 35 _ rfl, ?_⟩
    refine List.forall_mem_cons.mpr ⟨hP 34 _ rfl, ?_⟩
    refine List.forall_mem_cons.mpr ⟨hP 33 _ rfl, ?_⟩
    refine List.forall_mem_cons.mpr ⟨hP 30 _ rfl, ?_⟩
    refine List.forall_mem_cons.mpr ⟨hP 31 _ rfl, ?_⟩
    refine List.forall_mem_cons.mpr ⟨hP 26 _ rfl, ?_⟩
    refine List.forall_mem_cons.mpr ⟨hP 29 _ rfl, ?_⟩
    refine List.forall_mem_cons.mpr ⟨hP 28 _ rfl, ?_⟩
    refine List.forall_mem_cons.mpr ⟨hP 27 _ rfl, ?_⟩
    refine List.forall_mem_cons.mpr ⟨hP 13 _ rfl, ?_⟩
    refine List.forall_mem_cons.mpr ⟨hP 20 _ rfl, ?_⟩
    refine List.forall_mem_cons.mpr ⟨hP 24 _ rfl, ?_⟩
    refine List.forall_mem_cons.mpr ⟨hP 23 _ rfl, ?_⟩
    refine List.forall_mem_cons.mpr ⟨hP 22 _ rfl, ?_⟩
    refine List.forall_mem_cons.mpr ⟨hP 21 _ rfl, ?_⟩
    refine List.forall_mem_cons.mpr ⟨hP 18 _ rfl, ?_⟩
    refine List.forall_mem_cons.mpr ⟨hP 19 _ rfl, ?_⟩
    refine List.forall_mem_cons.mpr ⟨hP 14 _ rfl, ?_⟩
    refine List.forall_mem_cons.mpr ⟨hP 17 _ rfl, ?_⟩
    refine List.forall_mem_cons.mpr ⟨hP 16 _ rfl, ?_⟩
    refine List.forall_mem_cons.mpr ⟨hP 15 _ rfl, ?_⟩
    refine List.forall_mem_cons.mpr ⟨hP 0 _ rfl, ?_⟩
    refine List.forall_mem_cons.mpr ⟨hP 10 _ rfl, ?_⟩
    refine List.forall_mem_cons.mpr ⟨hP 9 _ rfl, ?_⟩
    refine List.forall_mem_cons.mpr ⟨hP 8 _ rfl, ?_⟩
    refine List.forall_mem_cons.mpr ⟨hP 7 _ rfl, ?_⟩
    refine List.forall_mem_cons.mpr ⟨hP 6 _ rfl, ?_⟩
    refine List.forall_mem_cons.mpr ⟨hP 5 _ rfl, ?_⟩
    refine List.forall_mem_cons.mpr ⟨hP 4 _ rfl, ?_⟩
    refine List.forall_mem_cons.mpr ⟨hP 3 _ rfl, ?_⟩
    refine List.forall_mem_cons.mpr ⟨hP 2 _ rfl, ?_⟩
    refine List.forall_mem_cons.mpr ⟨hP 1 _ rfl, ?_⟩
    exact fun _ hk => absurd hk List.not_mem_nil
  intro k q hq
  obtain ⟨hk, rfl⟩ := a_W_lt hq
  exact all k (List.mem_range.mpr hk)
set_option maxRecDepth 100000 in
set_option maxHeartbeats 4000000 in
theorem i_D {A : Nat → Prop} {cA : Nat → ClassId} {h hm : Nat} {L M : List Nat} {sK sV : Nat → Nat} {F : Nat → Int32} {G : Nat → Option Nat} (hD : va_D A (i_w cA h hm L M F G)) : va_D A (a_W (i_ad h hm L M sK sV) cA (i_st F)) := by
  refine vD_addr hD ?_
  have e1 : (a_W (i_ad h hm L M sK sV) cA (i_st F)).map Prod.fst = (List.range 72).map (i_ad h hm L M sK sV) := by
    unfold a_W a_N
    rw [List.map_map]
    rfl
  have e2 : (i_w cA h hm L M F G).map Prod.fst = ([61, 71, 70, 69, 68, 67, 66, 65, 64, 63, 62, 0, 12, 49, 57, 60, 59, 58, 55, 56, 50, 54, 53, 52, 51, 37, 45, 48, 47, 46, 43, 44, 38, 42, 41, 40, 39, 36, 35, 34, 33, 23, 32, 31, 30, 29, 28, 27, 26, 25, 24, 18, 22, 21, 20, 19, 17, 16, 13, 15, 14, 8, 11, 10, 9, 6, 7, 1, 5, 4, 3, 2] : List Nat).map (i_ad h hm L M sK sV) := rfl
  rw [e1, e2]
  exact List.Perm.map _ (by decide +kernel)
/-! what the premises give at the start -/
theorem st_tb {s : State} {args : Array Value} (hts : ∀ w ∈ lw_tbl, w.before args s = true) : ∀ w ∈ a_tb, w.before args s = true := fun w hw => hts w (a_tb_tbl hw)
theorem st_K {s : State} {args : Array Value} (hts : ∀ w ∈ lw_tbl, w.before args s = true) : ∃ (D : va_G) (cA : Nat → ClassId), va_K D vwCl (a_tys cA) s := by
  have ht := st_tb hts
  obtain ⟨c0, i0, k0⟩ := u_known (C := RX0) (T := TX0) (N := 2) ht fin0 (ht _ (sw_mk (i := 149) (by decide +kernel) (by decide +kernel)) : (Cond.instantiable RX0 2).before args s = true)
  obtain ⟨c1, i1, k1⟩ := u_known (C := RX1) (T := TX1) (N := 4) ht fin1 (ht _ (sw_mk (i := 201) (by decide +kernel) (by decide +kernel)) : (Cond.instantiable RX1 4).before args s = true)
  obtain ⟨c2, i2, k2⟩ := u_known (C := RX2) (T := TX2) (N := 10) ht fin2 (ht _ (sw_mk (i := 164) (by decide +kernel) (by decide +kernel)) : (Cond.instantiable RX2 10).before args s = true)
  obtain ⟨c3, i3, k3⟩ := u_known (C := RX3) (T := TX3) (N := 8) ht fin3 (ht _ (sw_mk (i := 27) (by decide +kernel) (by decide +kernel)) : (Cond.instantiable RX3 8).before args s = true)
  obtain ⟨c4, i4, k4⟩ := u_known (C := RX4) (T := TX4) (N := 2) ht fin4 (ht _ (sw_mk (i := 79) (by decide +kernel) (by decide +kernel)) : (Cond.instantiable RX4 2).before args s = true)
  obtain ⟨c5, i5, k5⟩ := u_known (C := RX5) (T := TX5) (N := 4) ht fin5 (ht _ (sw_mk (i := 93) (by decide +kernel) (by decide +kernel)) : (Cond.instantiable RX5 4).before args s = true)
  obtain ⟨c6, i6, k6⟩ := u_known (C := RX6) (T := TX6) (N := 8) ht fin6 (ht _ (sw_mk (i := 115) (by decide +kernel) (by decide +kernel)) : (Cond.instantiable RX6 8).before args s = true)
  obtain ⟨c7, i7, k7⟩ := u_known (C := RX7) (T := TX7) (N := 13) ht fin7 (ht _ (sw_mk (i := 19) (by decide +kernel) (by decide +kernel)) : (Cond.instantiable RX7 13).before args s = true)
  obtain ⟨c8, i8, k8⟩ := u_known (C := RX8) (T := TX8) (N := 19) ht fin8 (ht _ (sw_mk (i := 837) (by decide +kernel) (by decide +kernel)) : (Cond.instantiable RX8 19).before args s = true)
  obtain ⟨a0, ka0, co0, f0, g0, h0⟩ := Cond.arrayClass_spec (ht (Cond.arrayClass .int) (sw_mk (i := 77) (by decide +kernel) (by decide +kernel)))
  obtain ⟨a1, ka1, co1, f1, g1, h1⟩ := Cond.arrayClass_spec (ht (Cond.arrayClass .byte) (sw_mk (i := 147) (by decide +kernel) (by decide +kernel)))
  obtain ⟨a2, ka2, co2, f2, g2, h2⟩ := Cond.arrayClass_spec (ht (Cond.arrayClass .boolean) (sw_mk (i := 903) (by decide +kernel) (by decide +kernel)))
  have hao : (Cond.arrayOver (.object "NetLaw$Image")).before args s = true := hts _ (List.mem_append_right _ (List.mem_of_getElem? (i := 113) (by decide +kernel)))
  obtain ⟨co3, a3, ka3, e1, e2, e3, e4, e5⟩ := Cond.arrayOver_spec hao
  refine ⟨(fun c => [c0, c1, c2, c3, c4, c5, c6, c7, c8].getD c c0, fun c => [i0, i1, i2, i3, i4, i5, i6, i7, i8].getD c i0), fun t => [a0, a1, a2, a3].getD t a0, fun c q hq => ?_, fun k q hq => ?_⟩
  · have hc : c < 9 := (List.getElem?_eq_some_iff.mp hq).1
    rcases (show c = 0 ∨ c = 1 ∨ c = 2 ∨ c = 3 ∨ c = 4 ∨ c = 5 ∨ c = 6 ∨ c = 7 ∨ c = 8 by omega) with rfl | rfl | rfl | rfl | rfl | rfl | rfl | rfl | rfl <;> cases hq
    · exact k0
    · exact k1
    · exact k2
    · exact k3
    · exact k4
    · exact k5
    · exact k6
    · exact k7
    · exact k8
  · have hc : k < 4 := (List.getElem?_eq_some_iff.mp hq).1
    rcases (show k = 0 ∨ k = 1 ∨ k = 2 ∨ k = 3 by omega) with rfl | rfl | rfl | rfl <;> cases hq
    · exact ⟨fun n z => ⟨fun k h => (by cases h), ka0, g0, co0, h0⟩, f0⟩
    · exact ⟨fun n z => ⟨fun k h => (by cases h), ka1, g1, co1, h1⟩, f1⟩
    · exact ⟨fun n z => ⟨fun k h => (by cases h), ka2, g2, co2, h2⟩, f2⟩
    · exact ⟨fun n z => ⟨fun k h => (by cases h), ka3, e3, co3, e4⟩, ka3, co3, e3, e4, e1, e5⟩
theorem st_N {s : State} {args : Array Value} (hts : ∀ w ∈ lw_tbl, w.before args s = true) : kN s := ⟨fun q hq => va_Nw.of rfl (hts _ ((show ∀ q ∈ k_nest, Cond.methodLinkNest q.1 q.2.1 q.2.2.1 q.2.2.2 ∈ lw_tbl by decide +kernel) q hq)), va_AO.of (hts _ (List.mem_append_right _ (List.mem_of_getElem? (i := 113) (by decide +kernel))))⟩
theorem st_NW {s : State} {args : Array Value} (hts : ∀ w ∈ lw_tbl, w.before args s = true) : a_NW s := fun q hq => va_Nw.of rfl (hts _ ((show ∀ q ∈ a_nest, Cond.methodLinkNest q.1 q.2.1 q.2.2.1 q.2.2.2 ∈ lw_tbl by decide +kernel) q hq))
def st_tm (i : Nat) : Term := ([.string "NetLaw$Text" 58, .string "NetLaw$Text" 64, .string "NetLaw$Text" 66] : List Term).getD i (.string "NetLaw$Text" 58)
set_option maxRecDepth 100000 in
theorem st_S {s : State} {args : Array Value} {A : Nat → Prop} (hts : ∀ w ∈ lw_tbl, w.before args s = true) (hgv : (Jvm.Cond.and given_1 narrow_1).before args s = true) (hA : ∀ a : Nat, a < s.heap.size → ¬ A a) : ∃ sK sV : Nat → Nat, ∀ ad : Nat → Nat, (∀ i, i < 3 → ad (72 + i) = sK i ∧ ad (75 + i) = sV i) → a_ST ad A s s.heap := by
  have ht := st_tb hts
  have hs := flat_of_before _ hgv
  obtain ⟨sK, sV, h1, h2⟩ := vk_Sof (args := args) (s := s) (N := 3) (tm := st_tm) (len := [3, 4, 4]) (byt := [[110, 101, 116], [107, 110, 111, 116], [119, 105, 100, 101]]) (A := A)
    (fun i hi => by rcases (show i = 0 ∨ i = 1 ∨ i = 2 by omega) with rfl | rfl | rfl <;> decide)
    (fun i hi => by rcases (show i = 0 ∨ i = 1 ∨ i = 2 by omega) with rfl | rfl | rfl <;> exact hs _ (by decide +kernel))
    (fun i hi => by rcases (show i = 0 ∨ i = 1 ∨ i = 2 by omega) with rfl | rfl | rfl <;> exact hs _ (by decide +kernel))
    (fun i hi => by rcases (show i = 0 ∨ i = 1 ∨ i = 2 by omega) with rfl | rfl | rfl <;> exact hs _ (by decide +kernel))
    (fun i hi => by rcases (show i = 0 ∨ i = 1 ∨ i = 2 by omega) with rfl | rfl | rfl <;> exact hs _ (by decide +kernel))
    (fun i hi j hj => by
      rcases (show i = 0 ∨ i = 1 ∨ i = 2 by omega) with rfl | rfl | rfl
      · have hj : j < 3 := hj
        rcases (show j = 0 ∨ j = 1 ∨ j = 2 by omega) with rfl | rfl | rfl <;> exact hs _ (by decide +kernel)
      · have hj : j < 4 := hj
        rcases (show j = 0 ∨ j = 1 ∨ j = 2 ∨ j = 3 by omega) with rfl | rfl | rfl | rfl <;> exact hs _ (by decide +kernel)
      · have hj : j < 4 := hj
        rcases (show j = 0 ∨ j = 1 ∨ j = 2 ∨ j = 3 by omega) with rfl | rfl | rfl | rfl <;> exact hs _ (by decide +kernel))
    (fun i j hi hj hij => by
      rcases (show i = 0 ∨ i = 1 ∨ i = 2 by omega) with rfl | rfl | rfl <;> rcases (show j = 0 ∨ j = 1 ∨ j = 2 by omega) with rfl | rfl | rfl
      · exact absurd rfl hij
      · exact Or.inl (hs _ (by decide +kernel))
      · exact Or.inl (hs _ (by decide +kernel))
      · exact Or.inr (hs _ (by decide +kernel))
      · exact absurd rfl hij
      · exact Or.inl (hs _ (by decide +kernel))
      · exact Or.inr (hs _ (by decide +kernel))
      · exact Or.inr (hs _ (by decide +kernel))
      · exact absurd rfl hij) hA
  refine ⟨sK, sV, fun ad had => ⟨⟨fun i hi => ?_, fun i j hi hj e => ?_⟩, ⟨?_, ?_, ?_⟩, ?_, ?_, st_NW hts⟩⟩
  · have h := h1.1 i hi
    dsimp only
    rw [(had i hi).1, (had i hi).2]
    exact h
  · dsimp only at e
    rw [(had i hi).1, (had j hj).1] at e
    exact h1.2 i j hi hj e
  · rw [show ad 72 = sK 0 from (had 0 (by omega)).1]
    exact vk_R.of (hts (Cond.stringRef "NetLaw$Text" 58 "net") (List.mem_append_right _ (List.mem_of_getElem? (i := 420) (by decide +kernel)))) (h2 0 (by omega))
  · rw [show ad 73 = sK 1 from (had 1 (by omega)).1]
    exact vk_R.of (hts (Cond.stringRef "NetLaw$Text" 64 "knot") (List.mem_append_right _ (List.mem_of_getElem? (i := 473) (by decide +kernel)))) (h2 1 (by omega))
  · rw [show ad 74 = sK 2 from (had 2 (by omega)).1]
    exact vk_R.of (hts (Cond.stringRef "NetLaw$Text" 66 "wide") (List.mem_append_right _ (List.mem_of_getElem? (i := 474) (by decide +kernel)))) (h2 2 (by omega))
  · exact va_Zof (hts _ (List.mem_append_right _ (List.mem_of_getElem? (i := 434) (by decide +kernel)))) (hts _ (List.mem_append_right _ (List.mem_of_getElem? (i := 13) (by decide +kernel)))) (va_eqi (hs _ (by decide +kernel))) hA
  · exact va_Zqof (hts _ (List.mem_append_right _ (List.mem_of_getElem? (i := 450) (by decide +kernel)))) (hts _ (List.mem_append_right _ (List.mem_of_getElem? (i := 15) (by decide +kernel)))) (hs _ (by decide +kernel)) hA
