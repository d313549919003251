/** Section 5 of the document, by promises 12 to 16: holes, the names that fit, and given types that are covered. */
public final class HolesTest {
    /** The hole's type and the names that fit it, of the first hole. */
    private static void fitting(String text, String due) {
        TypeInference x = new TypeInference();
        String outcome = Probe.outcome(x, text);
        String got = outcome.equals("ok") ? Probe.holeScheme(x, 0) + " / " + Probe.fitting(x, 0) : outcome;
        Probe.due(text, got.trim(), due);
    }

    private static void known() {
        fitting("f = _ :: Bool", "Bool / -2 -3 0");
        fitting("f = _ 'a' 'b' :: Bool", "Char -> Char -> Bool / -4 -5");
        fitting("f = _ 1 2 :: Int", "Int -> Int -> Int / -6 -7");
        fitting("f = _ ['a'] :: Int", "[Char] -> Int / -8");
        fitting("f = _ () () :: Bool", "() -> () -> Bool / -4 -5");
        fitting("f = _ add add :: Bool", "(Int -> Int -> Int) -> (Int -> Int -> Int) -> Bool /");
        fitting("f x = _", "a /");
        fitting("f = _", "a / 0");
        fitting("f x = _ x", "a -> b / 0");
        fitting("f x = [x, _]", "a / 1");
    }

    private static void classes() {
        String plain = "data T = C; ";
        fitting(plain + "f = _ C C :: Bool", "T -> T -> Bool /");
        fitting("data T = C deriving (Eq); f = _ C C :: Bool", "T -> T -> Bool / -4");
        fitting("data T = C deriving (Eq, Ord); f = _ C C :: Bool", "T -> T -> Bool / -4 -5");
        fitting("f x = [eq x x, _ x x]", "a -> a -> Bool /");
        fitting("f :: Eq a => a -> Bool; f x = _ x x", "a -> a -> Bool / -4");
        fitting("f :: Ord a => a -> Bool; f x = _ x x", "a -> a -> Bool / -4 -5");
        fitting("f :: Num a => a -> a; f x = _ x x", "a -> a -> a / -6 -7");
        fitting("f :: a -> a; f x = _", "a / 7");
        fitting("f :: a -> b -> a; f x y = _", "a / 9");
        fitting("f :: a -> a; f x = _ x", "a -> a / 6");
    }

    private static void headsAndLows() {
        fitting("data T = C Int | D {p :: Int, q :: Int}; f = _ 1 :: T", "Int -> T / 3");
        fitting("data T = C | D {p :: Int}; f x = _ (x :: T) :: Int", "T -> Int / 7 12");
        fitting("data T = C {p :: Bool} | D {p :: Bool}; f = _ C {p = True} :: Bool", "T -> Bool / 5");
        fitting("data T = C {p :: Bool} | D {p :: Bool}; f = _ (C {p = True}) :: Bool", "T -> Bool / 5");
        fitting("data T = C {p :: T} | E; f x = [E, _ x]", "a -> T /");
        fitting("data T = C {p :: T} | E; f x = [x, E, p _]", "T / 10 13");
        fitting("f x = let {y = 'a'; z = 'b'} in [x, 'c', _]", "Char / 1 5 9");
        fitting("f x = let {x = 'a'} in \\y -> [y, 'c', _]", "Char / 5 11");
        fitting("x = 'c'; f = let {x = True} in ['c', _]", "Char /");
        fitting("x = 'c'; f = ['c', let {x = _} in 'd']", "a / 11");
        fitting("f eq = [_, eq]", "a / 1");
        fitting("f eq = _ 'a' 'b' :: Bool", "Char -> Char -> Bool / -5");
        fitting("data T = C {p :: Char, q :: Char}; f p = ['c', _ (error [] :: T)]", "T -> Char / 9");
        fitting("f = ['c', _]; g = 'd'; h x = x; k = error []", "Char / 8 17");
        fitting("f = ('c' : [_]); g = (\\x -> x) (\\x -> 'c')", "Char /");
        fitting("f = case 'c' of {x -> [x, _]; y -> \"\"}", "1@16");
        fitting("f = case 'c' of {x -> [x, _]; y -> [y]}", "Char / 6");
        fitting("data T = C {p :: Int}; f p = [p, 1, _ :: Int]", "Int / 11");
        fitting("data T = C {p :: T}; f = let {p x = 'c'} in _ p", "(a -> Char) -> b / 10");
    }

    private static void schemes() {
        fitting("d x = [x]; f = _ 'c' :: [Char]", "Char -> [Char] / 0");
        fitting("d x = add x x; f = _ 'c' :: Char", "Char -> Char /");
        fitting("f x = let {g y = (x, y)} in [(x, 'c'), _ 'c']", "Char -> (a, Char) / 5");
        fitting("f x = let {g y = x} in [_ 'c', 'd']", "Char -> Char /");
        fitting("f x = let {g y = x} in [_ 'c', 'd', x]", "Char -> Char / 5");
        fitting("f x z = let {g y = x} in [_ 'c', z]", "Char -> a /");
        fitting("n = add; f = _ 1 2 :: Int; k = n True", "8@2");
        fitting("n = add; f = _ 1 2 :: Int", "Int -> Int -> Int / -6 -7 0");
        fitting("n x = less x x; f = [n 1, _ 1]", "Int -> Bool / 0");
    }

    private static void numbers() {
        TypeInference x = new TypeInference();
        Probe.due("holes", Probe.schemes(x, "f _ = (_, _a, \\_ -> __); g = case _ of {_ -> 'c'}"), "a -> (b, c, d -> e); Char");
        int[] due = {4, 6, 11, 17};
        Probe.due("told(4)", x.told(4), 4);
        for (int i = 0; i < due.length; i++) {
            Probe.due("hole " + i, x.hole(i), due[i]);
        }
        Probe.due("hole -1", Probe.thrown(() -> x.hole(-1)), "IndexOutOfBoundsException");
        Probe.due("hole 4", Probe.thrown(() -> x.hole(4)), "IndexOutOfBoundsException");
    }

    private static void covered(String unit, String given, String due) {
        TypeInference x = new TypeInference();
        Probe.due(unit, Probe.outcome(x, unit), "ok");
        Probe.tape(x, given);
        Probe.due(unit + " covers " + given, Probe.thrown(() -> x.covers(0)), due);
        Probe.due("the tape stays", x.cut(0), given.length());
        Probe.due("and again", Probe.thrown(() -> x.covers(0)), due);
    }

    private static void covers() {
        covered("f x = x", "a -> a", "true");
        covered("f x = x", "b -> b", "true");
        covered("f x = x", "a -> b", "false");
        covered("f x = x", "Int -> Int", "true");
        covered("f x = x", "Eq a => a -> a", "true");
        covered("f x = x", "a", "false");
        covered("f x = _", "a -> b", "true");
        covered("f x = _", "a -> a", "true");
        covered("f x = 'c'", "a -> b", "false");
        covered("f x y = eq x y", "a -> a -> Bool", "false");
        covered("f x y = eq x y", "Eq a => a -> a -> Bool", "true");
        covered("f x y = eq x y", "Ord a => a -> a -> Bool", "true");
        covered("f x y = less x y", "Eq a => a -> a -> Bool", "false");
        covered("f x y = less x y", "(Ord a) => [(a, Int)] -> [(a, Int)] -> Bool", "true");
        covered("f x y = less x y", "[(a, Int)] -> [(a, Int)] -> Bool", "false");
        covered("f x y = less x y", "(a -> b) -> (a -> b) -> Bool", "false");
        covered("f x y = add x y", "Char -> Char -> Char", "false");
        covered("f x y = add x y", "Int -> Int -> Int", "true");
        covered("f = \\x -> add x x", "Num a => a -> a", "false");
        covered("f = \\x -> add x x", "Int -> Int", "true");
        covered("f :: Int -> Int; f x = x", "a -> a", "false");
        covered("f x = error []", "Num a => b -> a", "true");
    }

    private static void coversOfData() {
        String data = "f (C x) = x; data T a = C a deriving (Eq); data U = D";
        covered(data, "T a -> a", "true");
        covered(data, "T U -> U", "true");
        covered(data, "T -> a", "IllegalArgumentException");
        covered(data, "V -> a", "IllegalArgumentException");
        covered(data, "Eq b => T a -> a", "IllegalArgumentException");
        covered(data, "Foo a => T a -> a", "IllegalArgumentException");
        covered(data, "T a -> a;", "IllegalArgumentException");
        covered(data, "", "IllegalArgumentException");
        covered(data, "@", "IllegalArgumentException");
        covered(data, "=>", "IllegalArgumentException");
        covered(data, "[", "IllegalArgumentException");
        covered("f x = eq x; data T a = C a deriving (Eq); data U = D", "T Int -> T Int -> Bool", "true");
        covered("f x = eq x; data T a = C a deriving (Eq); data U = D", "T U -> T U -> Bool", "false");
        covered("f x = eq x; data T a = C a deriving (Eq); data U = D", "Eq b => T b -> T b -> Bool", "true");
        covered("f x = less x; data T a = C a deriving (Eq); data U = D", "Ord b => T b -> T b -> Bool", "false");
    }

    private static void coversLargeTypes() {
        String pair = "(Int, Int, Int, Int, Int)";
        String large = "(" + String.join(", ", pair, pair, pair, pair, pair) + ")";
        covered("f x = x", large + " -> " + large, "true");
        covered("f x = x", large + " -> " + large.replaceFirst("Int", "Bool"), "false");
        covered("f = error", "[Char] -> [" + large + "] -> " + large, "true");
        covered("f x = eq x x", large + " -> Bool", "true");
        covered("f x = eq x x", "(" + large + ", " + large + ") -> Bool", "true");
        covered("f x = eq x x", "(" + large + ", [a], " + large + ") -> Bool", "false");
        covered("f x = x", "[".repeat(38) + "a" + "]".repeat(38) + " -> a", "false");
        covered("f = error []", "[".repeat(38) + "a" + "]".repeat(38), "true");
        covered("f = error []", "[".repeat(39) + "a" + "]".repeat(39), "IllegalArgumentException");
    }

    public static void main(String[] args) {
        known();
        classes();
        headsAndLows();
        schemes();
        numbers();
        covers();
        coversOfData();
        coversLargeTypes();
        Probe.end();
    }
}
