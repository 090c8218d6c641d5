def tTw (σ : Int → Int) (a b : Int) : Int → Int := zup (zup σ (5 + 5 * a + 4) (zxor (σ (5 + 5 * a + 4)) (1 * 2 ^ b.toNat))) (5 + 5 * b + 4) (zxor (σ (5 + 5 * b + 4)) (1 * 2 ^ a.toNat))
