import java.util.ArrayList;
import java.util.List;

/**
 * What an object answers of a unit does not depend on what it was asked before, by promises 4 to 17; and units so
 * large that no row can have been long enough from the first.
 */
public final class AgainTest {
    private static String[] texts() {
        StringBuilder chain = new StringBuilder();
        for (int i = 0; i < 74; i++) {
            chain.append("x").append(i).append("=x").append(i + 1).append(";");
        }
        return new String[] {
            "", ")", "(x, y", "f = let {(x", "data T = ", "f :: (Eq a", "f = 'c", "[x] = 1 1234567890",
            chain + "x74=x0", chain + "x74='c'",
            "f = g; g = f", "h x f = 'c'; f = h", "h = \\f -> f; f = 'c'", "f x = x", "f = _; g = _a _; h = [_, 'c']",
            "data T a = C {p :: a, q :: Int} | D deriving (Eq, Ord); f x = x {p = 'c'}; g = eq C {q = 1}; h = less D",
            "data T = C; data U = D {p :: Int} deriving (Eq); f = eq D; g = p", "data T = C; f = eq C", "data T a b = C a b; f (C x y) = y",
            "f x = (eq x x, add x x, less y y); y = error []", "f = add; g = f 1; h = eq", "f = eq 'c'; g = f; h x = [x, 1]",
            "f :: (Eq a, Num b) => a -> b; f x = 1; g x = let {h :: c -> c; h y = y} in (h x, f x)", "f :: a -> a; f x = 'c'",
            "f = 1; f = 2", "f = nope", "data T = C Int; f C = 1", "f = 'c' 'c'", "f x = x x", "f x = less (x, \\y -> y)", "f x = eq [] []",
            Sizes.D + "f = " + Sizes.exp(61), Sizes.D + "f = " + Sizes.exp(60), "f = [eq 1 2, add 1 'c' 2]",
            "data Int = C", "data T = C Foo",
            "f x = let {g y = (x, y); h = add} in (g 1, g 'c', h 1 2)",
            "f x = let {g y = let {h z = (x, y, z, eq z)} in h} in (g 1, g)", "f = let {g = eq; h y = g y; k y = y} in (h 1, k 2, h, k, _)",
            "(f, g) = (\\x -> [x, _], _); [h] : k = [[f, \\y -> [g]]]"};
    }

    /** All that can be asked of a text, once it is read and typed; behind fault 1 the unit before stays. */
    private static String answers(TypeInference x, String text) {
        String outcome = Probe.outcome(x, text);
        return x.fault() == 1 ? outcome : outcome + answers(x);
    }

    /** The same once more, of the unit that is there. */
    private static String inferred(TypeInference x) {
        int token = x.infer();
        return (token == 0 ? "ok" : x.fault() + "@" + (token - 1)) + answers(x);
    }

    private static String answers(TypeInference x) {
        List<Object> all = new ArrayList<>();
        for (int what = 0; what <= 5; what++) {
            all.add(x.told(what));
        }
        Probe.tape(x, "a -> a");
        for (int i = 0; i < Math.min(4, x.told(1)); i++) {
            int k = i;
            all.add(x.token(k));
            all.add(Probe.thrown(() -> x.group(k)));
            all.add(Probe.thrown(() -> Probe.scheme(x, k)));
            all.add(Probe.thrown(() -> x.covers(k)));
        }
        x.cut(6);
        for (int i = 0; i < x.told(4); i++) {
            int k = i;
            all.add(x.hole(k));
            all.add(Probe.thrown(() -> Probe.holeScheme(x, k)));
            all.add(Probe.thrown(() -> Probe.fitting(x, k)));
        }
        return all.toString();
    }

    /** Each unit behind each other one; that is read twice, for there may be two places for units. */
    private static void eachBehindEach() {
        String[] texts = texts();
        String[] due = new String[texts.length];
        for (int i = 0; i < texts.length; i++) {
            due[i] = answers(new TypeInference(), texts[i]);
        }
        for (int i = 0; i < texts.length; i++) {
            for (int j = 0; j < texts.length; j++) {
                TypeInference x = new TypeInference();
                answers(x, texts[i]);
                answers(x, texts[i]);
                Probe.due(texts[j] + " behind " + texts[i], answers(x, texts[j]), due[j]);
                if (!due[j].startsWith("1@")) {
                    Probe.due(texts[j] + " again", inferred(x), due[j]);
                }
            }
        }
    }

    private static void set(TypeInference x, int k) {
        x.setting(0, k % 2 == 0);
        x.setting(1, k < 2);
    }

    /** Each of the four settings behind each other one, of a unit that is read once. */
    private static void settings() {
        for (String text : texts()) {
            TypeInference x = new TypeInference();
            if (Probe.reading(x, text).equals("ok")) {
                for (int k : new int[] {0, 1, 2, 3, 0, 2, 1, 3, 2, 0, 3, 1, 0}) {
                    TypeInference y = new TypeInference();
                    set(y, k);
                    set(x, k);
                    Probe.due(text + " with settings " + k, inferred(x), answers(y, text));
                }
            }
        }
    }

    /** Reading does not use up anything: large units, as often as 512 calls allow. */
    private static void largeUnitsOften() {
        TypeInference x = new TypeInference();
        String large = "f=[" + "x{a=1},".repeat(42) + "1]";
        Probe.due("tokens", Probe.reading(x, large) + " " + x.told(0), "ok 299");
        for (int i = 0; i < 6; i++) {
            Probe.due("a large unit", Probe.reading(x, large), "ok");
            Probe.due("one that is none", Probe.reading(x, large + ")"), "1@299");
            Probe.due("infer", x.infer(), 4);
        }
    }

    private static void typed(String text, String due) {
        TypeInference x = new TypeInference();
        for (int i = 0; i < 2; i++) {
            Probe.due(text, Probe.schemes(x, text), due);
        }
    }

    /** More types, wants and waiting types than most units have. */
    private static void largeStores() {
        String many = "data T a = C" + " a".repeat(27) + "; ";
        String part = "a -> ".repeat(27) + "T a";
        typed(many + "f = [" + "C, ".repeat(60) + "C]", "[" + part + "]");
        typed(many + "f x = case [" + "C, ".repeat(60) + "C] of {_ -> add (eq x x) (eq 1 1)}", "8@" + 164);
        typed(many + "f x = case [" + "C, ".repeat(60) + "C] of {_ -> (eq x x, less 1 2, add 3 4)}",
            "(Eq a, Num b) => a -> (Bool, Bool, b)");
        typed("f x = " + "x : ".repeat(145) + "[]", "a -> [a]");
        typed("f x = [" + "1, ".repeat(145) + "x]", "Num a => a -> [a]");
        String wants = "(Eq a, Num a, Eq b, Num b, Eq c, Num c, Eq d, Num d, Eq e, Num e, Eq h, Num h, Eq i, Num i, Eq j, Num j)";
        String given = "g :: " + wants + " => ((a, b, c, d), (e, h, i, j)); g = error []; ";
        typed(given + "f x = " + "case (g, g, g, g, g) of {_ -> ".repeat(7) + "'c'" + "}".repeat(7),
            "(Eq a, Num a, Eq b, Num b, Eq c, Num c, Eq d, Num d, Eq e, Num e, Eq f, Num f, Eq g, Num g, Eq h, Num h)"
                + " => ((a, b, c, d), (e, f, g, h)); a -> Char");
        typed(given + "f x = [" + "g, ".repeat(60) + "g]",
            "(Eq a, Num a, Eq b, Num b, Eq c, Num c, Eq d, Num d, Eq e, Num e, Eq f, Num f, Eq g, Num g, Eq h, Num h)"
                + " => ((a, b, c, d), (e, f, g, h)); (Eq b, Num b, Eq c, Num c, Eq d, Num d, Eq e, Num e, Eq f, Num f, Eq g, Num g,"
                + " Eq h, Num h, Eq i, Num i) => a -> [((b, c, d, e), (f, g, h, i))]");
    }

    public static void main(String[] args) {
        eachBehindEach();
        settings();
        largeUnitsOften();
        largeStores();
        Probe.end();
    }
}
