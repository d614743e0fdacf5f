/-! The blocks of cells: streets, hours, a town, the air, a pad, the reader, the history, the whole object, its slots; the reference. -/
abbrev rW (q : xQ) (h n : Nat) (f : Nat → Int32) : va_W := [(h, .inl (q 0, n, .inl f))]
abbrev sW (_q : xQ) (h0 h1 h2 h3 h4 h5 : Nat) (f1 f2 f3 f4 f5 : Nat → Int32) (nb : Int32) : va_W := [(h0, .inr (5, [.ref h1, .ref h2, .ref h3, .ref h4, .ref h5, .int nb])), (h1, .inl (_q 0, 20, .inl f1)), (h2, .inl (_q 0, 20, .inl f2)), (h3, .inl (_q 0, 20, .inl f3)), (h4, .inl (_q 0, 20, .inl f4)), (h5, .inl (_q 0, 20, .inl f5))]
abbrev hW (q : xQ) (h0 h1 h2 h3 : Nat) (g1 g2 g3 : Nat → Int32) (ps lo : Int32) : va_W := [(h0, .inr (2, [.ref h1, .ref h2, .ref h3, .int ps, .int lo])), (h1, .inl (q 0, 8, .inl g1)), (h2, .inl (q 0, 8, .inl g2)), (h3, .inl (q 0, 8, .inl g3))]
abbrev twW (q : xQ) (h0 h1 hs hh : Nat) (r0 : Nat → Int32) (fc : Int32) : va_W := [(h0, .inr (6, [.ref h1, .ref hs, .ref hh, .int fc])), (h1, .inl (q 0, 4, .inl r0))]
abbrev aW (q : xQ) (h0 h1 h2 h3 : Nat) (t1 t2 t3 : Nat → Int32) : va_W := [(h0, .inr (0, [.ref h1, .ref h2, .ref h3])), (h1, .inl (q 0, 20, .inl t1)), (h2, .inl (q 0, 20, .inl t2)), (h3, .inl (q 0, 20, .inl t3))]
abbrev pW (q : xQ) (h0 h1 : Nat) (cs : Nat → Int32) (ln ov : Int32) : va_W := [(h0, .inr (3, [.ref h1, .int ln, .int ov])), (h1, .inl (q 1, 80, .inl cs))]
abbrev rdW (_q : xQ) (h0 hs : Nat) (la pa : Int32) : va_W := [(h0, .inr (4, [.ref hs, .int la, .int pa]))]
abbrev hiW (q : xQ) (h0 h1 : Nat) (ad : Nat → Option Nat) (ol ln : Int32) : va_W := [(h0, .inr (1, [.ref h1, .int ol, .int ln])), (h1, .inl (q 3, 6, .inr (.inr (.inr (.inr ad)))))]
abbrev xoW (_q : xQ) (h0 ht ha hh hs hf hp hd hr : Nat) : va_W := [(h0, .inr (7, [.ref ht, .ref ha, .ref hh, .ref hs, .ref hf, .ref hp, .ref hd, .ref hr]))]
abbrev slW (q : xQ) (h0 : Nat) (ad : Nat → Option Nat) : va_W := [(h0, .inl (q 3, 2, .inr (.inr (.inr (.inr ad)))))]
abbrev fiW (q : xQ) (h0 : Nat) (f : Nat → Int32) : va_W := [(h0, .inl (q 2, 2, .inl f))]
abbrev mW (q : xQ) (b0 b1 b2 b3 b4 b5 b6 b7 b8 : Nat) (s p sl sv pd fo to ou : Nat → Int32) (kn ln mn la op wr : Int32) : va_W := [(b0, .inr (8, [.ref b1, .ref b2, .int kn, .ref b3, .ref b4, .ref b5, .int ln, .ref b6, .ref b7, .int mn, .int la, .int op, .ref b8, .int wr])), (b1, .inl (q 0, 133, .inl s)), (b2, .inl (q 0, 798, .inl p)), (b3, .inl (q 0, 266, .inl sl)), (b4, .inl (q 2, 2, .inl sv)), (b5, .inl (q 0, 80, .inl pd)), (b6, .inl (q 0, 20, .inl fo)), (b7, .inl (q 0, 100, .inl to)), (b8, .inl (q 0, 300, .inl ou))]
/-- a town as one block: its rows are R 0 .. R 8, its numbers R 9 0 .. R 9 3 -/
def tG (q : xQ) (a : Nat → Nat) (R : Nat → Nat → Int32) : va_W := twW q (a 0) (a 1) (a 2) (a 8) (R 0) (R 9 3) ++ (sW q (a 2) (a 3) (a 4) (a 5) (a 6) (a 7) (R 1) (R 2) (R 3) (R 4) (R 5) (R 9 0) ++ hW q (a 8) (a 9) (a 10) (a 11) (R 6) (R 7) (R 8) (R 9 1) (R 9 2))
