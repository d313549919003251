/** Sections 2 and 4 of the document, by promises 5, 7, 10 and 11: schemes of LOWs, as they are written. */
public final class TypesTest {
    private static void typed(String text, String due) {
        Probe.due(text, Probe.schemes(new TypeInference(), text), due);
    }

    private static void with(boolean narrow, boolean local, String text, String due) {
        TypeInference x = new TypeInference();
        x.setting(0, narrow);
        x.setting(1, local);
        Probe.due((narrow ? "" : "not narrow ") + (local ? "" : "not local ") + text, Probe.schemes(x, text), due);
    }

    private static void written() {
        typed("f x = x", "a -> a");
        typed("f x y = y", "a -> b -> b");
        typed("f x = x 'c'", "(Char -> a) -> a");
        typed("f g x = g (g x)", "(a -> a) -> a -> a");
        typed("f = ()", "()");
        typed("f = ((), [()], 'c', True)", "((), [()], Char, Bool)");
        typed("f x = [(x, \\y -> [y])]", "a -> [(a, b -> [b])]");
        typed("data T a b = C a b; f x y = C (\\z -> x) (C y 'c')", "a -> b -> T (c -> a) (T b Char)");
        typed("data T a = C a; data U = D; f = C D; g = C [D]; h = C (D, 'c'); k = C (C D)",
            "T U; T [U]; T (U, Char); T (T U)");
        typed("data T a = C a; f x = [C x]; g (C x) = x", "a -> [T a]; T a -> a");
        typed("data T = C Int | D; f = C", "Int -> T");
        typed("f a b c d e g h i j k l m n o p q r s t u v w x y z aa bb cc = (z, aa, bb)",
            "a -> b -> c -> d -> e -> f -> g -> h -> i -> j -> k -> l -> m -> n -> o -> p -> q -> r -> s -> t"
                + " -> u -> v -> w -> x -> y -> z -> a1 -> b1 -> (y, z, a1)");
        typed("f x y = (eq x x, less y y, add x x)", "(Eq a, Num a, Ord b) => a -> b -> (Bool, Bool, a)");
        typed("f x y = (less y y, eq y y, add x y)", "(Ord a, Num a) => a -> a -> (Bool, Bool, a)");
        typed("f x y = (add y y, eq x x)", "(Eq a, Num b) => a -> b -> (b, Bool)");
        typed("f x = mul x", "Num a => a -> a -> a");
        typed("f = error", "[Char] -> a");
        typed("f = (False, True)", "(Bool, Bool)");
        typed("f x = _", "a -> b");
    }

    private static void exps() {
        typed("f x = 1", "Num b => a -> b");
        typed("f x = 'c'", "a -> Char");
        typed("f x = if x then 1 else 2", "Num a => Bool -> a");
        typed("f = []", "[a]");
        typed("f x y = [x, y]", "a -> a -> [a]");
        typed("f x y = x : y", "a -> [a] -> [a]");
        typed("f x y z = x : y : z", "a -> a -> [a] -> [a]");
        typed("f x y z = (x : y) : z", "a -> [a] -> [[a]] -> [[a]]");
        typed("f x = x :: Int", "Int -> Int");
        typed("f x = 1 : [] :: [Int]", "a -> [Int]");
        typed("f x = (x 1) :: Bool", "Num a => (a -> Bool) -> Bool");
        typed("f = \\x (y, _) -> y x", "a -> (a -> b, c) -> b");
        typed("f x = case x of {(y : z) -> y; [] -> 'c'}", "[Char] -> Char");
        typed("f x = case x of {y -> y; z -> z}", "a -> a");
        typed("f x = let {y = x; z = y} in z", "a -> a");
        typed("f = let {} in 'c'", "Char");
        typed("f x = (x)", "a -> a");
        typed("f (((x))) = ((x))", "a -> a");
        typed("f x = less x 1", "(Ord a, Num a) => a -> Bool");
    }

    private static void records() {
        String data = "data T a = C {p :: a, q :: Int} | D {p :: a} | E; ";
        typed(data + "f = p", "T a -> a");
        typed(data + "f = C {q = 1, p = 'c'}", "T Char");
        typed(data + "f = C {}", "1@28");
        typed(data + "f x = D {p = x}", "a -> T a");
        typed(data + "f = C {q = 1}", "T a");
        typed(data + "f x = x {p = 'c'}", "T Char -> T Char");
        typed(data + "f x = x {q = 1}", "T a -> T a");
        typed(data + "f x y = x {p = y} {q = 2}", "T a -> a -> T a");
        typed(data + "f = E {p = 1}", "4@28");
        typed(data + "f = (C) {p = 'c'}", "T Char");
        typed(data + "f = (C {p = 'c'}) {p = 'd'}", "T Char");
        typed(data + "f C {p = x} = x; f D {p = [y]} = [y]", "T [a] -> [a]");
        typed(data + "f C {p = (1, x), q = y} = add x y", "(Eq a, Num a) => T (a, Int) -> Int");
        typed(data + "f x = g x {q = 2}; g x = p x", "T a -> a; T a -> a");
        typed(data + "f = C 'c'", "Int -> T Char");
        typed(data + "f x = (p x, q x)", "T a -> (a, Int)");
    }

    private static void pats() {
        typed("f 1 = 2", "(Eq a, Num a, Num b) => a -> b");
        typed("f 'c' _ () = True", "Char -> a -> () -> Bool");
        typed("f [] = 'a'; f [x] = x; f [x, y] = y", "[Char] -> Char");
        typed("f (x : y : z) = (x, y, z)", "[a] -> (a, a, [a])");
        typed("f True x = x; f False x = x", "Bool -> a -> a");
        typed("data T a = N | C a (T a); f N = []; f (C x y) = x : f y", "T a -> [a]");
        typed("data T a = N | C a (T a); f (C x (C y N)) = [x, y]", "T a -> [a]");
        typed("(x, y) = ('a', \\z -> z)", "Char; a -> a");
        typed("[x, y] = ['a', 'b']; x1 : y1 = 1", "1@13");
        typed("[x] : y = [['a']]; [] = [x]", "Char; [[Char]]");
        typed("data T = C {p :: Int, q :: Char}; C {q = x} = C 1 'c'", "Char");
        typed("data T = C Int; C x = C 1", "Int");
        typed("(x) = 'c'", "Char");
    }

    private static void groups() {
        typed("f x = g x; g x = h x; h x = 'c'", "a -> Char; a -> Char; a -> Char");
        typed("f x = g x; g x = f x", "a -> b; a -> b");
        typed("f x = g 'c'; g x = f x", "Char -> a; Char -> a");
        typed("f :: a -> Char; f x = g 'c'; g x = f x", "a -> Char; a -> Char");
        typed("f x = (g 'c', g True); g x = x", "a -> (Char, Bool); a -> a");
        typed("f x = f", "7@0");
        typed("f x = eq x (g x); g x = x; h x = f 'c'", "Eq a => a -> Bool; a -> a; a -> Bool");
        typed("f x = less x y; y = error []", "Ord a => a -> Bool; a");
        typed("f x y = eq x (g y); g y = case f y y of {True -> y}", "Eq a => a -> a -> Bool; Eq a => a -> a");
        typed("f :: (Eq a, Ord a, Eq a) => a -> a; f x = x", "Ord a => a -> a");
        typed("f :: (Num a, Ord b, Eq a) => b -> a -> a; f x y = y", "(Ord a, Eq b, Num b) => a -> b -> b");
        typed("f :: b -> a -> b; f x y = x", "a -> b -> a");
        typed("f :: Int -> Int; f x = x; g = f 1", "Int -> Int; Int");
        typed("f :: a -> [a]; f x = case [f 'c'] of {_ -> [x]}", "a -> [a]");
        typed("f :: Num a => a -> a; f x = add x 1; g x = f x", "Num a => a -> a; Num a => a -> a");
        typed("f x = let {g :: a -> a; g y = y} in (g x, g 'c')", "a -> (a, Char)");
        typed("f x = let {g :: b -> Bool; g y = eq x x} in g", "Eq a => a -> b -> Bool");
        typed("f x = let {g :: b -> Bool; g y = eq 1 1} in g", "a -> b -> Bool");
    }

    private static void groupNumbers() {
        TypeInference x = new TypeInference();
        Probe.due("types", Probe.schemes(x, "a = b; b = c; c :: Int; c = a; e = 'e'; (d, g) = (e, h); h = d; [] = [a]"),
            "Int; Int; Int; Char; Char; Char; Char");
        int[] due = {1, 0, -1, 2, 3, 3, 3};
        Probe.due("groups", x.told(5), 5);
        for (int i = 0; i < due.length; i++) {
            Probe.due("group " + i, x.group(i), due[i]);
        }
        Probe.due("types", Probe.schemes(x, "f = g; k = 'c'; g = h f; h x = x"), "a; Char; a; a -> a");
        int[] second = {2, 0, 2, 1};
        for (int i = 0; i < second.length; i++) {
            Probe.due("group " + i, x.group(i), second[i]);
        }
        Probe.due("types", Probe.schemes(x, "f x = \\g -> g; g = let {f = f} in f"), "a -> b -> b; a");
        Probe.due("group 0", x.group(0), 0);
        Probe.due("group 1", x.group(1), 1);
    }

    private static void narrow() {
        typed("f = add", "Int -> Int -> Int");
        with(false, true, "f = add", "Num a => a -> a -> a");
        typed("f = \\x -> x", "a -> a");
        typed("f = \\x y -> add y y", "a -> Int -> Int");
        with(false, true, "f = \\x y -> add y y", "Num b => a -> b -> b");
        typed("f = eq; g = f 'c'", "Char -> Char -> Bool; Char -> Bool");
        typed("f = eq; g = f 'c'; h = f True", "6@12");
        with(false, true, "f = eq; g = f 'c'; h = f True", "Eq a => a -> a -> Bool; Char -> Bool; Bool -> Bool");
        typed("(f, g) = (add, 1)", "Int -> Int -> Int; Int");
        with(false, true, "(f, g) = (add, 1)", "Num a => a -> a -> a; Num a => a");
        typed("f = eq", "9@2");
        typed("f = less; g x = f x; h = g 'c'", "Char -> Char -> Bool; Char -> Char -> Bool; Char -> Bool");
        typed("f x = g; g = add 1 2", "a -> Int; Int");
        typed("f x = let {g = add 1} in g x", "Num a => a -> a");
        typed("f x = let {g = add 1} in (g 2, 'c')", "Num b => a -> (b, Char)");
        typed("f x = let {g = add} in (g 'c', g 1)", "8@7");
        with(false, true, "f x = let {g = add} in (g 1 2, g)", "(Num b, Num c) => a -> (b, c -> c -> c)");
    }

    private static void local() {
        String two = "f x = let {g y = y} in (g 'c', g True)";
        with(true, true, two, "a -> (Char, Bool)");
        with(true, false, two, "6@16");
        with(true, false, "f x = let {g y = y} in g", "a -> b -> b");
        with(true, false, "f x = let {g y = add y y} in g x", "Num a => a -> a");
        with(true, false, "f x = let {g y = eq [] []} in g x", "9@8");
        with(true, false, "f x = let {g :: a -> a; g y = y} in (g 'c', g True)", "a -> (Char, Bool)");
        with(true, false, "f x = x; g = (f 'c', f True)", "a -> a; (Char, Bool)");
        with(false, false, "f x = let {g = add} in g", "Num b => a -> b -> b -> b");
        with(false, false, "f = let {g = add} in (g 1 2, g 'c')", "8@6");
    }

    /** What is not FREE around decls is not made FREE in them. */
    private static void around() {
        typed("f x = let {g y = x} in (g 'c', g True)", "a -> (a, a)");
        typed("f x = let {g y = [x, y]} in (g 'c', g 'd')", "Char -> ([Char], [Char])");
        typed("f x = let {g y = [x, y]} in (g 'c', g True)", "6@20");
        typed("f x = let {g y = eq x y} in g", "Eq a => a -> a -> Bool");
        typed("f x = let {g y = eq x x} in g", "Eq a => a -> b -> Bool");
        typed("f x = let {g y = eq x y} in g (\\z -> z)", "8@8");
        typed("f x = let {g y z = (eq x y, less z z)} in g", "(Eq a, Ord b) => a -> a -> b -> (Bool, Bool)");
        typed("f x = let {g y = let {h z = (x, y, z)} in h} in (g 'c' True, g True 'c')",
            "a -> ((a, Char, Bool), (a, Bool, Char))");
        typed("f x = let {(g, h) = (\\y -> x, \\z -> z)} in (g 'c', g True, h 'c', h True)", "a -> (a, a, Char, Bool)");
        typed("f x = case x of {(g, h) -> (g 'c', g True)}", "6@18");
        typed("f g = (g 'c', g True)", "6@8");
        typed("f x = let {y = x 'c'; z = x True} in y", "6@13");
    }

    public static void main(String[] args) {
        written();
        exps();
        records();
        pats();
        groups();
        groupNumbers();
        narrow();
        local();
        around();
        Probe.end();
    }
}
