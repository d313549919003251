/**
 * The sentences of sections 2 and 4 that name an edge, by promises 5, 7, 10 and 11. A ^ stands ahead of the token
 * where a fault is due.
 */
public final class TypeEdgesTest {
    private static void typed(String text, String due) {
        Probe.due(text, Probe.schemes(new TypeInference(), text), due);
    }

    private static TypeInference with(boolean narrow, boolean local) {
        TypeInference x = new TypeInference();
        x.setting(0, narrow);
        x.setting(1, local);
        return x;
    }

    private static void set(boolean narrow, boolean local, String text, String due) {
        String all = (narrow ? "narrow " : "") + (local ? "local " : "") + text;
        Probe.due(all, Probe.schemes(with(narrow, local), text), due);
    }

    /** The first so many variables, as they are written. */
    private static String[] variables(int count) {
        String[] names = new String[count];
        for (int i = 0; i < count; i++) {
            names[i] = (char) ('a' + i % 26) + (i < 26 ? "" : String.valueOf(i / 26));
        }
        return names;
    }

    private static String tuple(String[] names, int from, int count) {
        StringBuilder s = new StringBuilder("(");
        for (int i = 0; i < count; i++) {
            s.append(i > 0 ? ", " : "").append(names[from + i]);
        }
        return s.append(")").toString();
    }

    /** "variables a, b, .. z, a1, b1, .. as they come first (also those that are not FREE, and FIXED ones)". */
    private static void variablesWritten() {
        typed("f" + " _".repeat(25) + " = 'c'", String.join(" -> ", variables(25)) + " -> Char");
        typed("f" + " _".repeat(26) + " = 'c'", String.join(" -> ", variables(26)) + " -> Char");
        typed("f" + " _".repeat(27) + " = 'c'", String.join(" -> ", variables(27)) + " -> Char");
        Probe.due("the 26th", variables(28)[25] + " " + variables(28)[26] + " " + variables(28)[27], "z a1 b1");
        typed("f" + " _".repeat(29) + " = _", String.join(" -> ", variables(30)));
        String five = "(_, _, _, _, _)";
        String four = String.join(", ", five, five, five, five);
        String most = "f (" + four + ", " + five + ") = (" + four + ", _)";
        String[] names = variables(46);
        StringBuilder due = new StringBuilder("(" + tuple(names, 0, 5));
        for (int i = 5; i < 45; i += 5) {
            due.append(i == 25 ? ") -> (" : ", ").append(tuple(names, i, 5));
        }
        typed(most, due.append(", t1)").toString());
        typed("f x y = (y, x)", "a -> b -> (b, a)");
        typed("f :: z -> y -> z; f x y = x", "a -> b -> a");
        TypeInference x = new TypeInference();
        Probe.due("FIXED ones", Probe.outcome(x, "f :: b -> a -> c; f x y = _ y x [y]"), "ok");
        Probe.due("FIXED ones", Probe.holeScheme(x, 0), "a -> b -> [a] -> c");
        Probe.due("not FREE", Probe.outcome(x, "f x y = let {g z = _ z y} in 'c'"), "ok");
        Probe.due("not FREE", Probe.holeScheme(x, 0), "a -> b -> c");
    }

    /** "each once, Eq not beside Ord of one variable (of given ones likewise)". */
    private static void wantsWritten() {
        typed("f x = (eq x x, eq x x)", "Eq a => a -> (Bool, Bool)");
        typed("f x = (eq x x, less x x)", "Ord a => a -> (Bool, Bool)");
        typed("f x = (less x x, eq x x)", "Ord a => a -> (Bool, Bool)");
        typed("f x y = (eq x x, less y y)", "(Eq a, Ord b) => a -> b -> (Bool, Bool)");
        typed("f x = (add x x, less x x, eq x x)", "(Ord a, Num a) => a -> (a, Bool, Bool)");
        typed("f x = (add x x, eq x x)", "(Eq a, Num a) => a -> (a, Bool)");
        typed("f x y = (eq [x] [], less (x, y) (x, y))", "(Ord a, Ord b) => a -> b -> (Bool, Bool)");
        typed("f :: (Eq a, Ord a) => a; f = error []", "Ord a => a");
        typed("f :: (Ord a, Eq a) => a; f = error []", "Ord a => a");
        typed("f :: (Eq a, Eq a) => a; f = error []", "Eq a => a");
        typed("f :: (Num a, Eq a, Num a) => a; f = error []", "(Eq a, Num a) => a");
        typed("f :: (Num a, Ord a, Eq a) => a; f = error []", "(Ord a, Num a) => a");
        typed("f :: (Eq b, Ord a) => a -> b; f = error []", "(Ord a, Eq b) => a -> b");
        typed("f :: (Eq a, Ord b) => (b, a); f = error []", "(Ord a, Eq b) => (a, b)");
        typed("f :: (Eq a) => a; f = error []", "Eq a => a");
        typed("f :: (Eq a, Ord a) => a -> Bool; f x = eq x x; g x = f x", "Ord a => a -> Bool; Ord a => a -> Bool");
        typed("f x = less x; g x = (eq x x, f x x)", "Ord a => a -> a -> Bool; Ord a => a -> (Bool, Bool)");
    }

    /** T of new ones, each time; and fields of data that is not the first. */
    private static void records() {
        String data = "data T = C {p :: Int} | D {p :: Int}; data U a = E {q :: a} | F {q :: a, r :: Int}; ";
        typed(data + "f x y = (x {q = 'c'}, y {q = ()})", "U Char -> U () -> (U Char, U ())");
        typed(data + "f x = (x {q = 'c'}, _ {q = ()})", "U Char -> (U Char, U ())");
        typed(data + "f x y = (x {q = y}, x)", "U a -> a -> (U a, U a)");
        typed(data + "f x = x {r = 1}; g x = x {q = 'c', r = 1}", "U a -> U a; U Char -> U Char");
        Probe.fault(7, data + "f x = x {r = 2} {q = ^x}");
        typed(data + "f = E {q = 'c'}; g = F {r = 1}; h = q; k = r", "U Char; U a; U a -> a; U a -> Int");
        typed(data + "f E {q = x} = x; f F {q = 'c'} = 'd'", "U Char -> Char");
        typed(data + "f x = (p x, \\y -> q y)", "T -> (Int, U a -> a)");
    }

    /** Where ( ) stand, and where they don't. */
    private static void typesWritten() {
        String data = "data T a b = C a b; data U = D; ";
        typed(data + "f :: ((a -> b) -> c) -> (a -> (b -> c)); f = error []", "((a -> b) -> c) -> a -> b -> c");
        typed(data + "f :: T (a -> b) (T a b); f = error []", "T (a -> b) (T a b)");
        typed(data + "f :: T [T a b] (T a b, U); f = error []", "T [T a b] (T a b, U)");
        typed(data + "f :: T U () -> T Int a -> U; f = error []", "T U () -> T Int a -> U");
        typed(data + "f :: [a -> b] -> (a -> b, [[()]]); f = error []", "[a -> b] -> (a -> b, [[()]])");
        typed(data + "f :: (a, (b, c), Int, Char, Bool); f = error []", "(a, (b, c), Int, Char, Bool)");
    }

    /** Which types are IN which class: every kind of type with each class, by the one KNOWN that wants it. */
    private static void classes() {
        String data = "data N = N; data Q a = Q a deriving (Eq); data O a = O a deriving (Eq, Ord); data P a = P deriving (Eq); ";
        String[] types = {"Int", "Char", "Bool", "()", "[Int]", "[()]", "(Int, Char)", "(Int, Int, Int, Int, Int)",
            "Int -> Int", "[Int -> Int]", "(Int, Int -> Int)", "N", "[N]", "Q Int", "Q N", "Q (Int -> Int)", "O Int", "O (Q Int)",
            "O (O [Char])", "P N", "P Int", "(Q Int, O Int)"};
        int[] in = {3, 2, 2, 2, 2, 2, 2, 2, 0, 0, 0, 0, 0, 1, 0, 0, 2, 1, 2, 0, 1, 1};
        String[] wanting = {"eq", "less", "add"};
        for (int i = 0; i < types.length; i++) {
            for (int k = 0; k < 3; k++) {
                String text = data + "f x = ^" + wanting[k] + " (x :: " + types[i] + ")";
                if (k < in[i]) {
                    Probe.right(Probe.unmarked(text));
                } else {
                    Probe.fault(8, text);
                }
            }
        }
        // FIXED ones: the class, or Ord for Eq.
        String[] given = {"", "Eq a => ", "Ord a => ", "Num a => ", "(Eq a, Num a) => ", "(Ord a, Num a) => "};
        boolean[][] gives = {{false, false, false}, {true, false, false}, {true, true, false}, {false, false, true},
            {true, false, true}, {true, true, true}};
        for (int i = 0; i < given.length; i++) {
            for (int k = 0; k < 3; k++) {
                String text = "f :: " + given[i] + "a -> Char; f x = case ^" + wanting[k] + " x of {_ -> 'c'}";
                if (gives[i][k]) {
                    Probe.right(Probe.unmarked(text));
                } else {
                    Probe.fault(8, text);
                }
            }
        }
    }

    /** "[ ]: the first one, or a new one; each other one, and the first with it at its first token". */
    private static void lists() {
        typed("f = []", "[a]");
        typed("f = [[]]", "[[a]]");
        typed("f = ([], [])", "([a], [b])");
        typed("f x = [x]", "a -> [a]");
        typed("f = ['c', 'd', 'e']", "[Char]");
        typed("f = [[], ['c']]", "[[Char]]");
        typed("f [] = 'c'", "[a] -> Char");
        typed("f [x] = x", "[a] -> a");
        typed("f [_, 'c', x] = x", "[Char] -> Char");
        typed("f [[], [x]] = x", "[[a]] -> a");
        Probe.fault(6, "f = ['c', error [], ^()]");
        Probe.fault(6, "f = [error [], 'c', ^()]");
        Probe.fault(6, "f [_, 'c', ^()] = 1");
        Probe.fault(7, "f x = [x, ^[x]]");
        typed("[] = []", "");
        typed("f = 'c' : []", "[Char]");
        typed("f (_ : []) = 'c'", "[a] -> Char");
    }

    /** UNIFY: alike variables; a variable within the other; FIXED ones; one kind with as many types. */
    private static void unified() {
        typed("f x = [x, x]", "a -> [a]");
        typed("f x y = case [x, y] of {_ -> [y, x, y]}", "a -> a -> [a]");
        Probe.fault(7, "f x = x ^x");
        Probe.fault(7, "f x y = case [x, [y]] of {_ -> [y, ^[x]]}");
        Probe.fault(7, "f x = [(x, 'c'), ^((x, x), ())]");
        Probe.fault(6, "f x = [('c', x), ^((), (x, x))]");
        Probe.right("f :: a -> a; f x = case [x, x] of {_ -> x}");
        Probe.fault(6, "f :: a -> b -> a; ^f x y = case [x, y] of {_ -> x}");
        Probe.fault(6, "f :: a -> a; ^f x = case [x, 'c'] of {_ -> x}");
        Probe.fault(6, "f :: a -> [a]; ^f x = x");
        Probe.fault(6, "f = [('c', 'c'), ^('c', 'c', 'c')]");
        Probe.fault(6, "f = [(), ^('c', 'c')]");
        Probe.fault(6, "data T = C; data U = D; f = [C, ^D]");
        Probe.fault(6, "data T a = C a; f = [C 'c', ^C ()]");
    }

    /** "if Num of it is wanted, it becomes Int, else 9 at the first token where it is wanted (as REDUCED; ..)". */
    private static void settled() {
        typed("f x = eq 1 1", "a -> Bool");
        typed("f x = less [1] []", "a -> Bool");
        typed("f = 1", "Int");
        typed("f = [1, 2]", "[Int]");
        typed("f x = case (1, 2) of {(y, z) -> less y z}", "a -> Bool");
        Probe.fault(9, "f x = ^eq [] []");
        Probe.fault(9, "f x = ^less ([], 1) ([], 2)");
        Probe.fault(9, "f x = (\\y -> case (^eq y y, eq y y) of {_ -> 'c'}) (error [])");
        Probe.fault(9, "f x = (\\y -> case (^eq y y, less y y) of {_ -> 'c'}) (error [])");
        Probe.fault(9, "f x = (\\y -> case (^less y y, eq y y) of {_ -> 'c'}) (error [])");
        Probe.fault(9, "f x = (\\y -> case (^eq [y] [], less y y) of {_ -> 'c'}) (error [])");
        typed("f x = (\\y -> case (eq y y, less y y, add y y) of {_ -> 'c'}) (error [])", "a -> Char");
        // At the end of the unit, and where a given type is checked.
        Probe.fault(9, "f = ^eq [] []");
        Probe.fault(9, "f :: Int -> Bool; f x = ^eq [] []");
        typed("f :: Int -> Bool; f x = eq 1 1", "Int -> Bool");
        // An Eq that gave way within does not go outward; one that gives way at the end counts.
        Probe.fault(9, "f = (\\y -> case (eq y y, ^less y y) of {_ -> 'c'}) (error [])");
        Probe.fault(9, "y = (\\x -> case ^eq x x of {_ -> x}) (error []); z = less y");
        Probe.fault(9, "(f, g) = (^eq, 'c')");
        // In order of what stays.
        Probe.fault(9, "f x = (add 1 1, ^eq [] [], less [] [])");
        typed("f x = let {g y = eq 1 1} in g", "a -> b -> Bool");
    }

    private static final String BOTH = "f x = let {g y = y; h = add} in (g 'c', g True, h 1 2)";

    /** "each of the two settings on and off". */
    private static void settings() {
        set(true, true, BOTH, "Num b => a -> (Char, Bool, b)");
        set(false, true, BOTH, "Num b => a -> (Char, Bool, b)");
        Probe.fault(with(true, false), 6, BOTH.replace("True", "^True"));
        Probe.fault(with(false, false), 6, BOTH.replace("True", "^True"));
        String narrow = "f = add; g = (f 1 2, f)";
        set(true, true, narrow, "Int -> Int -> Int; (Int, Int -> Int -> Int)");
        set(true, false, narrow, "Int -> Int -> Int; (Int, Int -> Int -> Int)");
        set(false, true, narrow, "Num a => a -> a -> a; (Num a, Num b) => (a, b -> b -> b)");
        set(false, false, narrow, "Num a => a -> a -> a; (Num a, Num b) => (a, b -> b -> b)");
        String inner = "f x = let {g = eq} in (g x 'c', g () ())";
        Probe.fault(with(true, true), 6, inner.replace("g ()", "g ^()"));
        set(false, true, inner, "Char -> (Bool, Bool)");
        Probe.fault(with(true, false), 6, inner.replace("g ()", "g ^()"));
        Probe.fault(with(false, false), 6, inner.replace("g ()", "g ^()"));
        String open = "f x = let {g y = eq y y} in (g x, g)";
        set(true, true, open, "(Eq a, Eq b) => a -> (Bool, b -> Bool)");
        set(true, false, open, "Eq a => a -> (Bool, a -> Bool)");
        set(false, false, open, "Eq a => a -> (Bool, a -> Bool)");
        String given = "f x = let {g :: a -> a; g y = y} in (g 'c', g True)";
        set(true, false, given, "a -> (Char, Bool)");
        set(false, false, given, "a -> (Char, Bool)");
        set(true, false, "f x = x; g = (f 'c', f True)", "a -> a; (Char, Bool)");
    }

    /** "NARROW .. is a group with a LOW without apats, or a pat = exp". */
    private static void narrowGroups() {
        typed("f x = add x", "Num a => a -> a -> a");
        typed("f = \\x -> add x", "Int -> Int -> Int");
        typed("f x = add x g; g = f 1", "Int -> Int; Int");
        set(false, true, "f x = add x g; g = f 1", "Num a => a -> a; Num a => a");
        typed("(f, g) = (\\x -> x, add)", "a -> a; Int -> Int -> Int");
        set(false, true, "(f, g) = (\\x -> x, add)", "a -> a; Num a => a -> a -> a");
        typed("(f) = \\x -> (x, 1)", "a -> (a, Int)");
        typed("f = \\x -> (x, [])", "a -> (a, [b])");
        typed("f :: Num a => a -> a; f = add 1; g = f", "Num a => a -> a; Int -> Int");
        // What is narrow in one group is not FREE in the next ones either.
        typed("f = eq; g x = f x; h = g 'c'", "Char -> Char -> Bool; Char -> Char -> Bool; Char -> Bool");
        Probe.fault(6, "f = eq; g x = f x; h = g 'c'; k = g ^()");
        set(false, true, "f = eq; g x = f x; h = g 'c'; k = g ()",
            "Eq a => a -> a -> Bool; Eq a => a -> a -> Bool; Char -> Bool; () -> Bool");
    }

    /** "what has one in a type of the group is a want of each LOW of it that has it", and of no other one. */
    private static void sharedWants() {
        String pair = "f x = (g x, 1); g x = if eq x x then 'c' else (\\y -> 'd') (f x)";
        typed(pair, "(Eq a, Num b) => a -> (Char, b); Eq a => a -> Char");
        typed(pair + "; h = (g True, f 'c')", "(Eq a, Num b) => a -> (Char, b); Eq a => a -> Char; (Char, (Char, Int))");
        Probe.fault(8, pair + "; h = ^g (\\x -> x)");
        set(false, true, "(f, g) = (2, less)", "Num a => a; Ord a => a -> a -> Bool");
        set(false, true, "f = if g then [] else f; g = less _ f", "Ord a => [a]; Bool");
        set(false, true, "f = case h of {x -> False}; g y = f; h x = (eq, f)", "Bool; a -> Bool; Eq b => a -> (b -> b -> Bool, Bool)");
        set(false, true, "f x = let {(g, h) = (2, less)} in (g, h x)", "(Ord a, Num b) => a -> (b, a -> Bool)");
    }

    /** CHECKED: "6, at its first token, if a FIXED type of its given one is in the type of a LOW around, or of these decls". */
    private static void checked() {
        Probe.fault(6, "f y = let {g :: a -> a; ^g x = case [x, y] of {_ -> x}} in 'c'");
        Probe.fault(6, "f y = let {g :: a -> a; ^g x = y} in 'c'");
        Probe.fault(6, "f y = let {g :: a -> b -> a; ^g x z = case [x, y] of {_ -> x}; g x z = x} in 'c'");
        Probe.fault(6, "h = (\\x -> case eq x x of {_ -> x}) (error []); g :: a -> a; ^g x = case [x, h] of {_ -> x}");
        Probe.right("f y = let {g :: a -> a; g x = case [x, error []] of {_ -> x}} in 'c'");
        Probe.right("f y = let {h z = z; g :: a -> a; g x = case [x, h x] of {_ -> x}} in 'c'");
        Probe.right("f y = let {g :: a -> a; g x = let {z = x} in z} in g y");
        // FIXED ones are its own, whoever has used it before.
        Probe.fault(6, "f :: a -> a; g = f; ^f x = 'c'");
        Probe.fault(6, "f :: a -> a; g = f 'c'; ^f x = 'c'");
        Probe.fault(6, "f :: a -> a; f x = x; g :: a -> a; ^g x = f 'c'");
        Probe.fault(6, "f :: a -> a; f x = g x; g :: a -> b; ^g x = f x");
    }

    /** GROUPS: "a group comes when all others that it uses have come; of several the one with the least first token". */
    private static void groups() {
        TypeInference x = new TypeInference();
        Probe.due("groups", Probe.outcome(x, "a = c; b = 'b'; c = 'c'; d = e; e = d; f :: Int; f = g; g = 1; h = (b, f)"), "ok");
        int[] due = {2, 0, 1, 3, 3, -1, 4, 5};
        Probe.due("how many", x.told(5), 6);
        for (int i = 0; i < due.length; i++) {
            Probe.due("group " + i, x.group(i), due[i]);
        }
        Probe.due("one group", Probe.outcome(x, "f = f"), "ok");
        Probe.due("how many", x.told(5), 1);
        Probe.due("none but given ones", Probe.outcome(x, "f :: a; f = f"), "ok");
        Probe.due("how many", x.told(5), 0);
        Probe.due("group of a given one", x.group(0), -1);
        Probe.due("a pat without LOWs", Probe.outcome(x, "[] = [f]; f = 'c'"), "ok");
        Probe.due("how many", x.told(5), 2);
        Probe.due("its group", x.group(0), 0);
        Probe.due("by others", Probe.outcome(x, "a = b; b = c; c = d; d = a; e = a"), "ok");
        Probe.due("how many", x.told(5), 2);
        Probe.due("a LOW that means another", Probe.outcome(x, "a = \\b -> b; b = let {a = 'c'} in a"), "ok");
        Probe.due("how many", x.told(5), 2);
        Probe.due("its group", x.group(1), 1);
        StringBuilder many = new StringBuilder();
        for (int i = 0; i < 75; i++) {
            many.append("x").append(i).append(i < 74 ? "=x" + (i + 1) + ";" : "='c'");
        }
        Probe.due("as many as there can be", Probe.outcome(x, many.toString()), "ok");
        Probe.due("how many", x.told(5), 75);
        Probe.due("the last", x.group(74), 0);
        Probe.due("the first", x.group(0), 74);
        Probe.due("all of one", Probe.outcome(x, many.toString().replace("'c'", "x0")), "ok");
        Probe.due("how many", x.told(5), 1);
        Probe.due("as before", Probe.outcome(x, many.toString()), "ok");
        Probe.due("how many", x.told(5), 75);
    }

    public static void main(String[] args) {
        variablesWritten();
        wantsWritten();
        typesWritten();
        records();
        classes();
        lists();
        unified();
        settled();
        settings();
        narrowGroups();
        sharedWants();
        checked();
        groups();
        Probe.end();
    }
}
