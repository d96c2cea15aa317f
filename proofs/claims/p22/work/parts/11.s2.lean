/-- a text and what was read from it: length, joins, place, way, left, number; the characters; the three rows -/
abbrev TS : Type := (Nat → Int32) × (Nat → Int32) × (Nat → Int32) × (Nat → Int32) × (Nat → Int32)
def textW (ck : Nat → ClassId) (ta : Nat → Nat) (T : TS) : va_W := [(ta 0, .inr (2, [.ref (ta 1), .int (T.1 0), .ref (ta 2), .ref (ta 3), .ref (ta 4), .int (T.1 1), .int (T.1 2), .int (T.1 3), .int (T.1 4), .int (T.1 5)])), (ta 1, .inl (ck 1, 60, .inl T.2.1)), (ta 2, .inl (ck 0, 12, .inl T.2.2.1)), (ta 3, .inl (ck 0, 12, .inl T.2.2.2.1)), (ta 4, .inl (ck 0, 12, .inl T.2.2.2.2))]
