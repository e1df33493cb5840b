set_option maxHeartbeats 16000000 in
set_option maxRecDepth 100000 in
theorem ti_start (g : GG) (f : HP) (u0 u1 u2 u3 u4 u5 u6 u7 u8 u9 u10 u11 u12 u13 u14 u15 u16 u17 u18 u19 u20 u21 u22 u23 u24 u25 u26 u27 u28 u29 u30 u31 u32 u33 u34 u35 u36 u37 u38 u39 u40 u41 u42 u43 u44 u45 u46 u47 u48 u49 u50 u51 u52 u53 u54 u255 u256 u257 u258 u259 u260 u261 u262 u263 u264 u265 u266 u267 u268 u269 u270 u271 u272 u273 u274 u275 u276 u277 u278 : Nat) (rr : Nat → Option Nat) (aa : Nat → Nat → Nat) {L0 L : List Nat} (hR : RINGP g L0 L f 20 aa) (hrr : ∀ j, j < 20 → rr j = some (aa j 0)) (hf0 : f u0 = .inr (9, [.ref u1, .ref u5, .ref u6, .ref u7, .ref u9, .ref u13, .ref u14, .ref u15, .ref u25, .ref u35, .ref u45, .ref u16, .ref u18, .ref u3, .ref u24, .int 0, .int 0, .long 0])) (hf1 : f u1 = .inr (8, [.ref u2, .int 0, .int 0, .int 0, .int 0])) (hf2 : f u2 = .inl (g.2.1 0, 520, .inl (fun _ => 0))) (hf3 : f u3 = .inr (8, [.ref u4, .int 0, .int 0, .int 0, .int 0])) (hf4 : f u4 = .inl (g.2.1 0, 520, .inl (fun _ => 0))) (hf5 : f u5 = .inr (2, [.int 0, .int 0, .int 0, .int 0, .int 0, .int 0, .int 0, .int 0])) (hf6 : f u6 = .inr (2, [.int 0, .int 0, .int 0, .int 0, .int 0, .int 0, .int 0, .int 0])) (hf7 : f u7 = .inr (2, [.int 0, .int 0, .int 0, .int 0, .int 0, .int 0, .int 0, .int 0])) (hf8 : f u8 = .inr (2, [.int 0, .int 0, .int 0, .int 0, .int 0, .int 0, .int 0, .int 0])) (hf9 : f u9 = .inr (5, [.ref u10, .int 0])) (hf10 : f u10 = .inl (g.2.1 0, 100, .inl (fun _ => 0))) (hf11 : f u11 = .inr (5, [.ref u12, .int 0])) (hf12 : f u12 = .inl (g.2.1 0, 100, .inl (fun _ => 0))) (hf13 : f u13 = .inr (6, [.int 0, .int 0, .ref u11])) (hf14 : f u14 = .inr (1, [.int 0, .int 0])) (hf15 : f u15 = .inr (4, [.int 0, .int 0, .int 0, .int 0])) (hf16 : f u16 = .inr (0, [.ref u17, .int 0, .int 0])) (hf17 : f u17 = .inl (g.2.1 4, 20, .inr (.inr (.inr (.inr (rr)))))) (hf18 : f u18 = .inr (7, [.ref u8, .ref u19, .ref u20, .ref u21, .ref u22, .ref u23, .int 0, .int 0, .int 0, .int 0, .int 0, .int 0, .int 0, .int 0])) (hf19 : f u19 = .inl (g.2.1 0, 9, .inl (fun _ => 0))) (hf20 : f u20 = .inl (g.2.1 0, 7, .inl (fun _ => 0))) (hf21 : f u21 = .inl (g.2.1 0, 108, .inl (fun _ => 0))) (hf22 : f u22 = .inl (g.2.1 0, 108, .inl (fun _ => 0))) (hf23 : f u23 = .inl (g.2.1 1, 48, .inr (.inl (fun _ => 0)))) (hf24 : f u24 = .inl (g.2.1 0, 5, .inl (fun _ => 0))) (hf25 : f u25 = .inr (3, [.int 0, .int 0, .int 0, .int 0, .int 0, .int 0, .int 0, .long 0, .long 0, .ref u26, .ref u27, .ref u28, .ref u29, .ref u30, .ref u31, .ref u32, .ref u33, .ref u34])) (hf26 : f u26 = .inl (g.2.1 0, 30, .inl (fun _ => 0))) (hf27 : f u27 = .inl (g.2.1 1, 162, .inr (.inl (fun _ => 0)))) (hf28 : f u28 = .inl (g.2.1 1, 18, .inr (.inl (fun _ => 0)))) (hf29 : f u29 = .inl (g.2.1 1, 18, .inr (.inl (fun _ => 0)))) (hf30 : f u30 = .inl (g.2.1 1, 6, .inr (.inl (fun _ => 0)))) (hf31 : f u31 = .inl (g.2.1 0, 6, .inl (fun _ => 0))) (hf32 : f u32 = .inl (g.2.1 0, 6, .inl (fun _ => 0))) (hf33 : f u33 = .inl (g.2.1 0, 6, .inl (fun _ => 0))) (hf34 : f u34 = .inl (g.2.1 0, 6, .inl (fun _ => 0))) (hf35 : f u35 = .inr (3, [.int 0, .int 0, .int 0, .int 0, .int 0, .int 0, .int 0, .long 0, .long 0, .ref u36, .ref u37, .ref u38, .ref u39, .ref u40, .ref u41, .ref u42, .ref u43, .ref u44])) (hf36 : f u36 = .inl (g.2.1 0, 30, .inl (fun _ => 0))) (hf37 : f u37 = .inl (g.2.1 1, 162, .inr (.inl (fun _ => 0)))) (hf38 : f u38 = .inl (g.2.1 1, 18, .inr (.inl (fun _ => 0)))) (hf39 : f u39 = .inl (g.2.1 1, 18, .inr (.inl (fun _ => 0)))) (hf40 : f u40 = .inl (g.2.1 1, 6, .inr (.inl (fun _ => 0)))) (hf41 : f u41 = .inl (g.2.1 0, 6, .inl (fun _ => 0))) (hf42 : f u42 = .inl (g.2.1 0, 6, .inl (fun _ => 0))) (hf43 : f u43 = .inl (g.2.1 0, 6, .inl (fun _ => 0))) (hf44 : f u44 = .inl (g.2.1 0, 6, .inl (fun _ => 0))) (hf45 : f u45 = .inr (3, [.int 0, .int 0, .int 0, .int 0, .int 0, .int 0, .int 0, .long 0, .long 0, .ref u46, .ref u47, .ref u48, .ref u49, .ref u50, .ref u51, .ref u52, .ref u53, .ref u54])) (hf46 : f u46 = .inl (g.2.1 0, 30, .inl (fun _ => 0))) (hf47 : f u47 = .inl (g.2.1 1, 162, .inr (.inl (fun _ => 0)))) (hf48 : f u48 = .inl (g.2.1 1, 18, .inr (.inl (fun _ => 0)))) (hf49 : f u49 = .inl (g.2.1 1, 18, .inr (.inl (fun _ => 0)))) (hf50 : f u50 = .inl (g.2.1 1, 6, .inr (.inl (fun _ => 0)))) (hf51 : f u51 = .inl (g.2.1 0, 6, .inl (fun _ => 0))) (hf52 : f u52 = .inl (g.2.1 0, 6, .inl (fun _ => 0))) (hf53 : f u53 = .inl (g.2.1 0, 6, .inl (fun _ => 0))) (hf54 : f u54 = .inl (g.2.1 0, 6, .inl (fun _ => 0))) (hf255 : f u255 = .inr (10, [.int 0, .ref u256, .int 0, .int 0, .int 0, .int 0, .int 0, .ref u257, .int 0, .int 0, .ref u258, .ref u259, .int 0, .int 0, .int 0, .int 0, .int 0, .int 0, .int 0, .int 0, .int 0, .long 0, .long 0, .int 0, .ref u260, .int 0, .ref u261, .ref u262, .ref u263, .ref u264, .ref u265, .ref u266, .ref u267, .ref u268, .ref u269, .ref u270, .int 0, .int 0, .int 0, .int 0, .int 0, .ref u271, .ref u272, .ref u273, .ref u274, .long 0, .long 0, .int 0, .int 0, .ref u275, .int 0, .int 0, .ref u276, .int 0, .ref u277, .int 0])) (hf256 : f u256 = .inl (g.2.1 2, 500, .inl (fun _ => 0))) (hf257 : f u257 = .inl (g.2.1 0, 6, .inl (fun _ => 0))) (hf258 : f u258 = .inl (g.2.1 0, 100, .inl (fun _ => 0))) (hf259 : f u259 = .inl (g.2.1 0, 100, .inl (fun _ => 0))) (hf260 : f u260 = .inl (g.2.1 0, 150, .inl (fun _ => 0))) (hf261 : f u261 = .inl (g.2.1 0, 9, .inl (fun _ => 0))) (hf262 : f u262 = .inl (g.2.1 0, 9, .inl (fun _ => 0))) (hf263 : f u263 = .inl (g.2.1 0, 9, .inl (fun _ => 0))) (hf264 : f u264 = .inl (g.2.1 0, 9, .inl (fun _ => 0))) (hf265 : f u265 = .inl (g.2.1 0, 9, .inl (fun _ => 0))) (hf266 : f u266 = .inl (g.2.1 0, 9, .inl (fun _ => 0))) (hf267 : f u267 = .inl (g.2.1 0, 9, .inl (fun _ => 0))) (hf268 : f u268 = .inl (g.2.1 0, 81, .inl (fun _ => 0))) (hf269 : f u269 = .inl (g.2.1 3, 9, .inl (fun _ => 0))) (hf270 : f u270 = .inl (g.2.1 3, 9, .inl (fun _ => 0))) (hf271 : f u271 = .inl (g.2.1 0, 2126, .inl (fun _ => 0))) (hf272 : f u272 = .inl (g.2.1 0, 2126, .inl (fun _ => 0))) (hf273 : f u273 = .inl (g.2.1 0, 42520, .inl (fun _ => 0))) (hf274 : f u274 = .inl (g.2.1 1, 20, .inr (.inl (fun _ => 0)))) (hf275 : f u275 = .inl (g.2.1 0, 5, .inl (fun _ => 0))) (hf276 : f u276 = .inl (g.2.1 0, 400, .inl (fun _ => 0))) (hf277 : f u277 = .inl (g.2.1 0, 200, .inl (fun _ => 0))) (hf278 : f u278 = .inl (g.2.1 1, 1, .inr (.inl (fun _ => 0)))) : TI g (adL [u278, u277, u276, u275, u274, u273, u272, u271, u270, u269, u268, u267, u266, u265, u264, u263, u262, u261, u260, u259, u258, u257, u256, u255, u24, u4, u3, u23, u22, u21, u20, u19, u8, u18, u17, u16, u54, u53, u52, u51, u50, u49, u48, u47, u46, u45, u44, u43, u42, u41, u40, u39, u38, u37, u36, u35, u34, u33, u32, u31, u30, u29, u28, u27, u26, u25, u15, u14, u12, u11, u13, u10, u9, u7, u6, u5, u2, u1, u0] pmL aa) th0 f := by
  refine ⟨fun n hn => ?_, fun j hj k hk => ?_, fun n hn => ?_⟩
  · match n, hn with
    | 0, _ => exact ⟨0, 0, 0, hf0, ⟨by decide, by decide⟩, ⟨by decide, by decide⟩, rfl⟩
    | 1, _ => exact ⟨0, 0, 0, 0, hf1, ⟨by decide, by decide⟩, ⟨by decide, by decide⟩, ⟨by decide, by decide⟩, ⟨by decide, by decide⟩⟩
    | 2, _ => exact ⟨fun _ => 0, hf2, fun _ _ => (⟨by decide, by decide⟩ : In 0 0 65535)⟩
    | 3, _ => exact ⟨0, 0, 0, 0, hf3, ⟨by decide, by decide⟩, ⟨by decide, by decide⟩, ⟨by decide, by decide⟩, ⟨by decide, by decide⟩⟩
    | 4, _ => exact ⟨fun _ => 0, hf4⟩
    | 5, _ => exact ⟨0, 0, 0, 0, 0, 0, 0, 0, hf5, ⟨by decide, by decide⟩, ⟨by decide, by decide⟩, rfl, ⟨by decide, by decide⟩, ⟨by decide, by decide⟩, ⟨by decide, by decide⟩, rfl, ⟨by decide, by decide⟩, ⟨by decide, by decide⟩, rfl⟩
    | 6, _ => exact ⟨0, 0, 0, 0, 0, 0, 0, 0, hf6, ⟨by decide, by decide⟩, rfl, ⟨by decide, by decide⟩, rfl, ⟨by decide, by decide⟩, ⟨by decide, by decide⟩, ⟨by decide, by decide⟩, ⟨by decide, by decide⟩, Or.inl (by decide)⟩
    | 7, _ => exact ⟨0, 0, 0, 0, 0, 0, 0, 0, hf7, ⟨by decide, by decide⟩, rfl, ⟨by decide, by decide⟩, ⟨by decide, by decide⟩, ⟨by decide, by decide⟩, ⟨by decide, by decide⟩, ⟨by decide, by decide⟩⟩
    | 8, _ => exact ⟨0, 0, 0, 0, 0, 0, 0, 0, hf8, ⟨by decide, by decide⟩, ⟨by decide, by decide⟩, ⟨by decide, by decide⟩, ⟨by decide, by decide⟩, ⟨by decide, by decide⟩, ⟨by decide, by decide⟩⟩
    | 9, _ => exact ⟨0, hf9, ⟨by decide, by decide⟩⟩
    | 10, _ => exact ⟨fun _ => 0, hf10⟩
    | 11, _ => exact ⟨0, hf11, ⟨by decide, by decide⟩⟩
    | 12, _ => exact ⟨fun _ => 0, hf12⟩
    | 13, _ => exact ⟨0, 0, hf13, ⟨by decide, by decide⟩, ⟨by decide, by decide⟩⟩
    | 14, _ => exact ⟨0, 0, hf14, ⟨by decide, by decide⟩, ⟨by decide, by decide⟩⟩
    | 15, _ => exact ⟨0, 0, 0, 0, hf15, ⟨by decide, by decide⟩, ⟨by decide, by decide⟩⟩
    | 16, _ => exact ⟨0, 0, hf16, ⟨by decide, by decide⟩, rfl, ⟨by decide, by decide⟩, rfl⟩
    | 17, _ => exact ⟨rr, hf17, fun i hi => (hrr i hi).trans (congrArg some (adL_r hi).symm)⟩
    | 18, _ => exact ⟨0, 0, 0, 0, 0, 0, 0, 0, hf18, ⟨by decide, by decide⟩, ⟨by decide, by decide⟩, ⟨by decide, by decide⟩, ⟨by decide, by decide⟩, ⟨by decide, by decide⟩⟩
    | 19, _ => exact ⟨fun _ => 0, hf19, fun _ _ => (⟨by decide, by decide⟩ : In 0 0 8)⟩
    | 20, _ => exact ⟨fun _ => 0, hf20⟩
    | 21, _ => exact ⟨fun _ => 0, hf21⟩
    | 22, _ => exact ⟨fun _ => 0, hf22⟩
    | 23, _ => exact ⟨fun _ => 0, hf23⟩
    | 24, _ => exact ⟨fun _ => 0, hf24⟩
    | n + 25, h => exact absurd h (by omega)
  · by_cases h3 : 3 ≤ j
    · exact ring0 hR h3 hj hk
    · match j, k, h3, hk with
      | 0, 0, _, _ => exact ⟨0, 0, 0, 0, 0, 0, 0, 0, 0, hf25, ⟨by decide, by decide⟩, rfl, ⟨by decide, by decide⟩, rfl, ⟨by decide, by decide⟩⟩
      | 0, 1, _, _ => exact ⟨fun _ => 0, hf26⟩
      | 0, 2, _, _ => exact ⟨fun _ => 0, hf27⟩
      | 0, 3, _, _ => exact ⟨fun _ => 0, hf28⟩
      | 0, 4, _, _ => exact ⟨fun _ => 0, hf29⟩
      | 0, 5, _, _ => exact ⟨fun _ => 0, hf30⟩
      | 0, 6, _, _ => exact ⟨fun _ => 0, hf31⟩
      | 0, 7, _, _ => exact ⟨fun _ => 0, hf32⟩
      | 0, 8, _, _ => exact ⟨fun _ => 0, hf33⟩
      | 0, 9, _, _ => exact ⟨fun _ => 0, hf34⟩
      | 1, 0, _, _ => exact ⟨0, 0, 0, 0, 0, 0, 0, 0, 0, hf35, ⟨by decide, by decide⟩, rfl, ⟨by decide, by decide⟩, rfl, ⟨by decide, by decide⟩⟩
      | 1, 1, _, _ => exact ⟨fun _ => 0, hf36⟩
      | 1, 2, _, _ => exact ⟨fun _ => 0, hf37⟩
      | 1, 3, _, _ => exact ⟨fun _ => 0, hf38⟩
      | 1, 4, _, _ => exact ⟨fun _ => 0, hf39⟩
      | 1, 5, _, _ => exact ⟨fun _ => 0, hf40⟩
      | 1, 6, _, _ => exact ⟨fun _ => 0, hf41⟩
      | 1, 7, _, _ => exact ⟨fun _ => 0, hf42⟩
      | 1, 8, _, _ => exact ⟨fun _ => 0, hf43⟩
      | 1, 9, _, _ => exact ⟨fun _ => 0, hf44⟩
      | 2, 0, _, _ => exact ⟨0, 0, 0, 0, 0, 0, 0, 0, 0, hf45, ⟨by decide, by decide⟩, rfl, ⟨by decide, by decide⟩, rfl, ⟨by decide, by decide⟩⟩
      | 2, 1, _, _ => exact ⟨fun _ => 0, hf46⟩
      | 2, 2, _, _ => exact ⟨fun _ => 0, hf47⟩
      | 2, 3, _, _ => exact ⟨fun _ => 0, hf48⟩
      | 2, 4, _, _ => exact ⟨fun _ => 0, hf49⟩
      | 2, 5, _, _ => exact ⟨fun _ => 0, hf50⟩
      | 2, 6, _, _ => exact ⟨fun _ => 0, hf51⟩
      | 2, 7, _, _ => exact ⟨fun _ => 0, hf52⟩
      | 2, 8, _, _ => exact ⟨fun _ => 0, hf53⟩
      | 2, 9, _, _ => exact ⟨fun _ => 0, hf54⟩
      | 0, k + 10, _, h => exact absurd h (by omega)
      | 1, k + 10, _, h => exact absurd h (by omega)
      | 2, k + 10, _, h => exact absurd h (by omega)
      | j + 3, _, h, _ => exact absurd (by omega) h
  · match n, hn with
    | 0, _ => exact ⟨0, 0, 0, 0, 0, 0, 0, 0, 0, 0, 0, 0, 0, 0, 0, 0, 0, 0, 0, 0, 0, 0, 0, 0, 0, 0, 0, 0, 0, 0, 0, 0, 0, 0, hf255, ⟨by decide, by decide⟩, ⟨by decide, by decide⟩, rfl, ⟨by decide, by decide⟩, rfl, ⟨by decide, by decide⟩, rfl, ⟨by decide, by decide⟩, rfl, ⟨by decide, by decide⟩, rfl, ⟨by decide, by decide⟩, rfl, ⟨by decide, by decide⟩, rfl, ⟨by decide, by decide⟩, ⟨by decide, by decide⟩, rfl, ⟨by decide, by decide⟩, rfl, ⟨by decide, by decide⟩, rfl, ⟨by decide, by decide⟩, rfl, ⟨by decide, by decide⟩, rfl, ⟨by decide, by decide⟩, rfl, ⟨by decide, by decide⟩, rfl, ⟨by decide, by decide⟩, rfl, ⟨by decide, by decide⟩, rfl, ⟨by decide, by decide⟩, rfl, ⟨by decide, by decide⟩, rfl, ⟨by decide, by decide⟩, rfl, Or.inl (by decide)⟩
    | 1, _ => exact ⟨fun _ => 0, hf256, fun _ _ => (⟨by decide, by decide⟩ : In 0 (-128) 127)⟩
    | 2, _ => exact ⟨fun _ => 0, hf257, ⟨by decide, by decide⟩, rfl, ⟨by decide, by decide⟩, ⟨by decide, by decide⟩, ⟨by decide, by decide⟩, rfl⟩
    | 3, _ => exact ⟨fun _ => 0, hf258⟩
    | 4, _ => exact ⟨fun _ => 0, hf259⟩
    | 5, _ => exact ⟨fun _ => 0, hf260⟩
    | 6, _ => exact ⟨fun _ => 0, hf261⟩
    | 7, _ => exact ⟨fun _ => 0, hf262⟩
    | 8, _ => exact ⟨fun _ => 0, hf263⟩
    | 9, _ => exact ⟨fun _ => 0, hf264⟩
    | 10, _ => exact ⟨fun _ => 0, hf265⟩
    | 11, _ => exact ⟨fun _ => 0, hf266⟩
    | 12, _ => exact ⟨fun _ => 0, hf267⟩
    | 13, _ => exact ⟨fun _ => 0, hf268⟩
    | 14, _ => exact ⟨fun _ => 0, hf269⟩
    | 15, _ => exact ⟨fun _ => 0, hf270⟩
    | 16, _ => exact ⟨fun _ => 0, hf271, (fun _ => rfl), prw_st⟩
    | 17, _ => exact ⟨fun _ => 0, hf272, prw_st⟩
    | 18, _ => exact ⟨fun _ => 0, hf273, prw_st⟩
    | 19, _ => exact ⟨fun _ => 0, hf274⟩
    | 20, _ => exact ⟨fun _ => 0, hf275⟩
    | 21, _ => exact ⟨fun _ => 0, hf276⟩
    | 22, _ => exact ⟨fun _ => 0, hf277⟩
    | 23, _ => exact ⟨fun _ => 0, hf278⟩
    | n + 24, h => exact absurd h (by omega)
